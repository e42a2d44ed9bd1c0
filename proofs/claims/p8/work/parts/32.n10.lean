/-- DoorSchool.idle(I)I -/
abbrev P_141x (σ0 : SG) (Wv : Int → Int) (a : Int32) (p : Nat) (sg : Int32) : PO := fun v σ => WT σ ∧ Fr [(20, 2), (21, 0), (22, 0)] σ0 σ ∧ ∃ ret : Int32, v = some (.int ret) ∧ -ret.toInt - 2 ≤ 0 ∧ ret.toInt - 65535 ≤ 0 ∧ (KN σ p Wv (act Wv) ∧ OUT σ0 σ p)
set_option maxRecDepth 10000 in
set_option maxHeartbeats 4000000 in
theorem c_141x {Wv : Int → Int} (σ0 : SG) (hσ0 : WT σ0) (a : Int32) (p : Nat) (hp : TG p = 18) (h_p : (σ0 0)[9]? = some (.ref p)) (sg : Int32) (h_sg : (σ0 p)[1]? = some (.int sg)) (hp0 : -sg.toInt ≤ 0) (hP : PLA p) (hX : FXP σ0 p) (hK : KN σ0 p Wv (act Wv)) (hB : WFw Wv) : En 4 92 none mr_141 (P_141x σ0 Wv a p sg) 0 [(0, .ref 0), (1, .int a)] [] σ0 := by
  obtain ⟨hl_sg, hu_sg⟩ := WT_int hσ0 (g := 18) hp (by decide +kernel) (l := (-1)) (u := 4) (by decide +kernel) h_sg
  have hF0 : Fr [(20, 2), (21, 0), (22, 0)] σ0 σ0 := Fr_rfl
  have t1 : Wv (0) = sg.toInt := KN_v hK (Or.inl (by decide)) (by omega) (by omega) (by rw [lcO_lt (by decide) (by decide), Nat.add_zero]) rfl h_sg
  obtain ⟨z3, h2, h4, h5⟩ := WT_peekI hσ0 hp (by decide +kernel : FT 18 3 = (0, 0, 4)) (by decide +kernel)
  have t6 : Wv (2) = z3.toInt := KN_v hK (Or.inl (by decide)) (by omega) (by omega) (by rw [lcO_lt (by decide) (by decide), Nat.add_zero]) rfl h2
  refine En_Ps 1 (pc' := 1) (lv' := [(0, .ref 0), (1, .int a)]) (st' := [.ref 0]) rfl ?_
  refine En_getK (j := 9) h_p rfl rfl rfl (by decide +kernel : TG 0 = 0) (by decide +kernel) ?_
  refine En_Ps 1 (pc' := 5) (lv' := [(0, .ref 0), (1, .int a)]) (st' := [.int a, .ref p]) rfl ?_
  refine En_callV rfl rfl rfl rfl rfl rfl rfl rfl hp (by decide +kernel) rfl (c_47x σ0 hσ0 p hp a z3 h2) (by decide) (by decide) (fun v8 σ9 h7 => ?_)
  obtain ⟨h10, h11, z13, rfl, h12⟩ := h7
  obtain rfl : σ0 = σ9 := Fr_nil h11
  refine En_iNe _ rfl rfl (fun h14 => ?_) (fun h14 => ?_)
  · have h15 := Imp_m h12.2.2.1 (by omega)
    have h16 := Imp_m h12.2.2.2.1 (by omega)
    have h17 := Imp_m h12.2.2.2.2.2 (by omega)
    refine En_Ps 1 (pc' := 15) (lv' := [(0, .ref 0), (1, .int a)]) (st' := [.ref 0]) rfl ?_
    refine En_getK (j := 9) h_p rfl rfl rfl (by decide +kernel : TG 0 = 0) (by decide +kernel) ?_
    refine En_getR (j := 4) (g' := 19) (u := 0) rfl rfl rfl hp (by decide +kernel) hσ0 (by decide +kernel) (fun a19 h18 ha19 => ?_)
    have t20 : a19 = p + 1 := ref_uniq h18 (FXP_fr hP hX hF0 (by decide +kernel)).1
    refine En_Ps 1 (pc' := 22) (lv' := [(0, .ref 0), (1, .int a)]) (st' := [.int a, .ref a19]) rfl ?_
    refine En_aald (g' := 28) (u := 0) rfl rfl ha19 (by decide +kernel) hσ0 (by omega) (lnI (by decide +kernel : LN _ = 4) (by omega)) (FTsgl (by decide +kernel)) (fun a22 h21 ha22 => ?_)
    have t23 : a22 = p + 10 + 4 * (a.toInt).toNat := DRe (d := a.toInt) (FXP_fr hP hX hF0 (by decide +kernel)) t20 h21 (by omega) (by omega)
    have t24 := lc_d (d := a.toInt) (by omega) (by omega)
    refine En_getR (j := 0) (g' := 20) (u := 0) rfl rfl rfl ha22 (by decide +kernel) hσ0 (by decide +kernel) (fun a26 h25 ha26 => ?_)
    have t27 : a26 = p + 11 + 4 * (a.toInt).toNat := DLc (d := a.toInt) (FXP_fr hP hX hF0 (by decide +kernel)) t23 h25 (by omega) (by omega)
    obtain ⟨a29, h28, ha29⟩ := WT_peekR (g := 20) (j := 0) (g' := 21) (u := 0) hσ0 ha26 (by decide +kernel) (by decide +kernel)
    have t30 : a29 = p + 12 + 4 * (a.toInt).toNat := DKk (d := a.toInt) (FXP_fr hP hX hF0 (by decide +kernel)) t27 h28 (by omega) (by omega)
    obtain ⟨a32, h31, ha32⟩ := WT_peekR (g := 20) (j := 1) (g' := 22) (u := 0) hσ0 ha26 (by decide +kernel) (by decide +kernel)
    have t33 : a32 = p + 13 + 4 * (a.toInt).toNat := DKo (d := a.toInt) (FXP_fr hP hX hF0 (by decide +kernel)) t27 h31 (by omega) (by omega)
    obtain ⟨z35, h34, h36, h37⟩ := WT_peekI hσ0 ha26 (by decide +kernel : FT 20 2 = (0, 0, 13)) (by decide +kernel)
    have t38 : Wv (12 + 4 * (a.toInt)) = z35.toInt := KN_v hK (Or.inr (Or.inl ⟨by omega, by omega, by omega⟩)) (by omega) (by omega) (by omega) (by omega) h34
    have h39 := hB.2.2.2.2.2.2 a.toInt (by omega) (by omega)
    have : z35.toInt ≤ 12 := by omega
    refine En_Ps 3 (pc' := 29) (lv' := [(2, .ref a26), (0, .ref 0), (1, .int a)]) (st' := [.int a, .ref 0]) rfl ?_
    refine En_callV rfl rfl rfl rfl rfl rfl rfl rfl (by decide +kernel : TG 0 = 0) (by decide +kernel) rfl (c_114 σ0 hσ0 a (geI rfl (by omega)) (leI rfl (by omega)) p hp h_p sg h_sg (by omega)) (by decide) (by decide) (fun v44 σ45 h43 => ?_)
    obtain ⟨h46, h47, z49, rfl, h48⟩ := h43
    obtain rfl : σ0 = σ45 := Fr_nil h47
    refine En_Ps 2 (pc' := 34) (lv' := [(3, .int z49), (2, .ref a26), (0, .ref 0), (1, .int a)]) (st' := [.ref a26]) rfl ?_
    refine En_getK (j := 2) h34 rfl rfl rfl ha26 (by decide +kernel) ?_
    refine En_Ps 5 (pc' := 45) (lv' := [(6, .int ((Int32.ofInt 0))), (5, .int ((Int32.ofInt 0))), (4, .int z35), (3, .int z49), (2, .ref a26), (0, .ref 0), (1, .int a)]) (st' := []) rfl ?_
    have key45 : ∀ (n45 : Nat) (σ53 : SG) (y50 : Int32) (y51 : Int32) (y52 : Int32), WT σ53 → Fr [(20, 2), (21, 0), (22, 0)] σ0 σ53 → (σ53 0)[9]? = some (.ref p) → (σ53 p)[1]? = some (.int sg) → (σ53 p)[3]? = some (.int z3) → (σ53 p)[4]? = some (.ref a19) → (σ53 a19)[(a.toInt).toNat]? = some (.ref a22) → (σ53 a22)[0]? = some (.ref a26) → (σ53 a26)[0]? = some (.ref a29) → (σ53 a26)[1]? = some (.ref a32) → (σ53 a26)[2]? = some (.int y52) → 0 ≤ y50.toInt → y50.toInt ≤ 65535 → 0 ≤ y51.toInt → y51.toInt ≤ 12 → 0 ≤ y52.toInt → y52.toInt ≤ 12 → y52.toInt - z35.toInt ≤ 0 → z35.toInt - y52.toInt ≤ 0 → y51.toInt - y52.toInt ≤ 0 → z35.toInt - y51.toInt < (n45 : Int) → KN σ53 p Wv (act Wv) → OUT σ0 σ53 p → En 4 92 none mr_141 (P_141x σ0 Wv a p sg) 45 [(0, .ref 0), (1, .int a), (2, .ref a26), (3, .int z49), (4, .int z35), (5, .int y50), (6, .int y51)] [] σ53 := by
      intro n45
      induction n45 with
      | zero =>
        intro σ53 y50 y51 y52 h54 h55 h56 h57 h58 h59 h60 h61 h62 h63 h64 h65 h66 h67 h68 h69 h70 h71 h72 h73 h74 h75 h76
        exfalso; omega
      | succ n45 ih45 =>
        intro σ53 y50 y51 y52 h54 h55 h56 h57 h58 h59 h60 h61 h62 h63 h64 h65 h66 h67 h68 h69 h70 h71 h72 h73 h74 h75 h76
        refine En_Ps 2 (pc' := 49) (lv' := [(0, .ref 0), (1, .int a), (2, .ref a26), (3, .int z49), (4, .int z35), (5, .int y50), (6, .int y51)]) (st' := [.int z35, .int y51]) rfl ?_
        refine En_icGe _ rfl rfl rfl (fun h77 => ?_) (fun h77 => ?_)
        · refine En_Ps 1 (pc' := 112) (lv' := [(0, .ref 0), (1, .int a), (2, .ref a26), (3, .int z49), (4, .int z35), (5, .int y50), (6, .int y51)]) (st' := [.int y50]) rfl ?_
          exact En_ret (v := some (.int y50)) rfl rfl rfl ⟨h54, h55, y50, rfl, ⟨by omega, by omega, ⟨h75, h76⟩⟩⟩
        · refine En_Ps 1 (pc' := 53) (lv' := [(0, .ref 0), (1, .int a), (2, .ref a26), (3, .int z49), (4, .int z35), (5, .int y50), (6, .int y51)]) (st' := [.ref a26]) rfl ?_
          refine En_getK (j := 0) h62 rfl rfl rfl ha26 (by decide +kernel) ?_
          refine En_Ps 1 (pc' := 58) (lv' := [(0, .ref 0), (1, .int a), (2, .ref a26), (3, .int z49), (4, .int z35), (5, .int y50), (6, .int y51)]) (st' := [.int y51, .ref a29]) rfl ?_
          refine En_iald (l := 0) (u := 15) rfl rfl ha29 (by decide +kernel) h54 (by omega) (lnI (by decide +kernel : LN _ = 13) (by omega)) (FTsgl (by decide +kernel)) (fun z79 h78 h80 h81 => ?_)
          have t82 := lc_l (d := a.toInt) (m := y51.toInt) (by omega) (by omega) (by omega) (by omega)
          have t83 : Wv (26 + 24 * (a.toInt) + 2 * (y51.toInt)) = z79.toInt := KN_v h75 (act_lk (d := a.toInt) (m := y51.toInt) (by omega) (by omega) (by omega) (by omega) (by omega) (by omega)) (by omega) (by omega) (by omega) (by omega) h78
          refine En_Ps 2 (pc' := 62) (lv' := [(7, .int z79), (0, .ref 0), (1, .int a), (2, .ref a26), (3, .int z49), (4, .int z35), (5, .int y50), (6, .int y51)]) (st' := [.ref a26]) rfl ?_
          refine En_getK (j := 1) h63 rfl rfl rfl ha26 (by decide +kernel) ?_
          refine En_Ps 1 (pc' := 67) (lv' := [(7, .int z79), (0, .ref 0), (1, .int a), (2, .ref a26), (3, .int z49), (4, .int z35), (5, .int y50), (6, .int y51)]) (st' := [.int y51, .ref a32]) rfl ?_
          refine En_iald (l := 0) (u := 1) rfl rfl ha32 (by decide +kernel) h54 (by omega) (lnI (by decide +kernel : LN _ = 13) (by omega)) (FTsgl (by decide +kernel)) (fun z85 h84 h86 h87 => ?_)
          have t88 := lc_l (d := a.toInt) (m := y51.toInt) (by omega) (by omega) (by omega) (by omega)
          have t89 : Wv (26 + 24 * (a.toInt) + 2 * (y51.toInt) + 1) = z85.toInt := KN_v h75 (act_lo (d := a.toInt) (m := y51.toInt) (by omega) (by omega) (by omega) (by omega) (by omega) (by omega)) (by omega) (by omega) (by omega) (by omega) h84
          refine En_Ps 1 (pc' := 70) (lv' := [(8, .int z85), (7, .int z79), (0, .ref 0), (1, .int a), (2, .ref a26), (3, .int z49), (4, .int z35), (5, .int y50), (6, .int y51)]) (st' := []) rfl ?_
          have h90 : ci σ53 a26 2 = y52.toInt := ci_at (j := 2) h64 rfl
          have h91 : z79.toInt = ci σ53 a29 (y51.toInt) := (ci_at h78 rfl).symm
          have h92 : z85.toInt = ci σ53 a32 (y51.toInt) := (ci_at h84 rfl).symm
          refine En_Ps 2 (pc' := 73) (lv' := [(8, .int z85), (7, .int z79), (0, .ref 0), (1, .int a), (2, .ref a26), (3, .int z49), (4, .int z35), (5, .int y50), (6, .int y51)]) (st' := [.int y51, .ref a26]) rfl ?_
          refine En_callV rfl rfl rfl rfl rfl rfl rfl rfl ha26 (by decide +kernel) rfl (c_41bx σ53 h54 a26 ha26 y51 (geI rfl (by omega)) (leI rfl (by omega)) a29 ha29 h62 a32 ha32 h63 y52 h64 (by omega)) (by decide) (by decide) (fun v94 σ95 h93 => ?_)
          obtain ⟨h96, h97, z99, h100, rfl, h98⟩ := h93
          have h101 := h98.2.2.2.2.2.2
          have h102 := Fr_trans h55 h97 (by decide +kernel)
          refine En_Ps 2 (pc' := 78) (lv' := [(8, .int z85), (7, .int z79), (0, .ref 0), (1, .int a), (2, .ref a26), (3, .int z49), (4, .int z35), (5, .int y50), (6, .int y51)]) (st' := [.int a, .ref 0]) rfl ?_
          refine En_callV rfl rfl rfl rfl rfl rfl rfl rfl (by decide +kernel : TG 0 = 0) (by decide +kernel) rfl (c_114 σ95 h96 a (geI rfl (by omega)) (leI rfl (by omega)) p hp ((h97 _ _ (inW (by decide +kernel : TG 0 = 0) (by decide +kernel))).trans h56) sg ((h97 _ _ (inW hp (by decide +kernel))).trans h57) (by omega)) (by decide) (by decide) (fun v107 σ108 h106 => ?_)
          obtain ⟨h109, h110, z112, rfl, h111⟩ := h106
          obtain rfl : σ95 = σ108 := Fr_nil h110
          refine En_Ps 1 (pc' := 82) (lv' := [(8, .int z85), (7, .int z79), (0, .ref 0), (1, .int a), (2, .ref a26), (3, .int z49), (4, .int z35), (5, .int y50), (6, .int y51)]) (st' := [.int z49, .int z112]) rfl ?_
          refine En_icNe _ rfl rfl rfl (fun h113 => ?_) (fun h113 => ?_)
          · refine En_Ps 4 (pc' := 101) (lv' := [(8, .int z85), (7, .int z79), (0, .ref 0), (1, .int a), (2, .ref a26), (3, .int z49), (4, .int z35), (5, .int y50), (6, .int y51)]) (st' := [.int z85, .int z79, .int y51, .ref a26]) rfl ?_
            refine En_callV rfl rfl rfl rfl rfl rfl rfl rfl ha26 (by decide +kernel) rfl (c_38bx σ95 h96 a26 ha26 y51 z79 z85 (geI rfl (by omega)) (leI rfl (by omega)) (geI rfl (by omega)) (leI rfl (by omega)) (geI rfl (by omega)) (leI rfl (by omega)) a29 ha29 ((h97 _ _ (inW ha26 (by decide +kernel))).trans h62) a32 ha32 ((h97 _ _ (inW ha26 (by decide +kernel))).trans h63) z99 h100 (by omega) (by omega)) (by decide) (by decide) (fun v115 σ116 h114 => ?_)
            obtain ⟨h117, h118, z120, h121, rfl, h119⟩ := h114
            have h122 := h119.2.2.2.2
            have h123 := Fr_trans h102 h118 (by decide +kernel)
            have h124 := KN_tp h75 h101 h122 (by omega) h90 h91 h92 (by omega) (by omega) (by omega) (by omega) (by omega)
            have h125 := OUT_tr h76 h124.2
            refine En_Ps 1 (pc' := 107) (lv' := [(6, .int ((y51 + Int32.ofInt 1))), (8, .int z85), (7, .int z79), (0, .ref 0), (1, .int a), (2, .ref a26), (3, .int z49), (4, .int z35), (5, .int y50)]) (st' := []) rfl ?_
            refine En_lv1 (addI rfl (by decide : (Int32.ofInt 1).toInt = 1) (by omega) (by omega)) (fun z126 h127 => ?_)
            refine En_Ps 1 (pc' := 45) (lv' := [(6, .int z126), (8, .int z85), (7, .int z79), (0, .ref 0), (1, .int a), (2, .ref a26), (3, .int z49), (4, .int z35), (5, .int y50)]) (st' := []) rfl ?_
            refine En_lv (lv := [(0, .ref 0), (1, .int a), (2, .ref a26), (3, .int z49), (4, .int z35), (5, .int y50), (6, .int z126)]) ⟨rfl, rfl, rfl, rfl, rfl, rfl, rfl, trivial⟩ ?_
            exact ih45 σ116 y50 z126 z120 h117 h123 ((h118 _ _ (inW (by decide +kernel : TG 0 = 0) (by decide +kernel))).trans ((h97 _ _ (inW (by decide +kernel : TG 0 = 0) (by decide +kernel))).trans h56)) ((h118 _ _ (inW hp (by decide +kernel))).trans ((h97 _ _ (inW hp (by decide +kernel))).trans h57)) ((h118 _ _ (inW hp (by decide +kernel))).trans ((h97 _ _ (inW hp (by decide +kernel))).trans h58)) ((h118 _ _ (inW hp (by decide +kernel))).trans ((h97 _ _ (inW hp (by decide +kernel))).trans h59)) ((h118 _ _ (inWa ha19 (by decide +kernel))).trans ((h97 _ _ (inWa ha19 (by decide +kernel))).trans h60)) ((h118 _ _ (inW ha22 (by decide +kernel))).trans ((h97 _ _ (inW ha22 (by decide +kernel))).trans h61)) ((h118 _ _ (inW ha26 (by decide +kernel))).trans ((h97 _ _ (inW ha26 (by decide +kernel))).trans h62)) ((h118 _ _ (inW ha26 (by decide +kernel))).trans ((h97 _ _ (inW ha26 (by decide +kernel))).trans h63)) h121 (by omega) (by omega) (by omega) (by omega) (by omega) (by omega) (by omega) (by omega) (by omega) (by omega) (h124.1) (h125)
          · refine En_Ps 4 (pc' := 91) (lv' := [(8, .int z85), (7, .int z79), (0, .ref 0), (1, .int a), (2, .ref a26), (3, .int z49), (4, .int z35), (5, .int y50), (6, .int y51)]) (st' := [.int ((((Int32.ofInt 1)) <<< (y51 &&& 31))), .int y50]) rfl ?_
            refine En_rng (shl1_p 11 rfl (by omega) (by omega) (by decide)) (fun z128 h129 h130 => ?_)
            refine En_Ps 1 (pc' := 92) (lv' := [(8, .int z85), (7, .int z79), (0, .ref 0), (1, .int a), (2, .ref a26), (3, .int z49), (4, .int z35), (5, .int y50), (6, .int y51)]) (st' := [.int ((y50 ||| z128))]) rfl ?_
            refine En_rng (l := 0) (u := 65535) (or_rng 16 rfl rfl (by omega) (by omega) (by omega) (by omega) (by decide)) (fun z131 h132 h133 => ?_)
            refine En_Ps 5 (pc' := 101) (lv' := [(5, .int z131), (8, .int z85), (7, .int z79), (0, .ref 0), (1, .int a), (2, .ref a26), (3, .int z49), (4, .int z35), (6, .int y51)]) (st' := [.int z85, .int z79, .int y51, .ref a26]) rfl ?_
            refine En_callV rfl rfl rfl rfl rfl rfl rfl rfl ha26 (by decide +kernel) rfl (c_38bx σ95 h96 a26 ha26 y51 z79 z85 (geI rfl (by omega)) (leI rfl (by omega)) (geI rfl (by omega)) (leI rfl (by omega)) (geI rfl (by omega)) (leI rfl (by omega)) a29 ha29 ((h97 _ _ (inW ha26 (by decide +kernel))).trans h62) a32 ha32 ((h97 _ _ (inW ha26 (by decide +kernel))).trans h63) z99 h100 (by omega) (by omega)) (by decide) (by decide) (fun v135 σ136 h134 => ?_)
            obtain ⟨h137, h138, z140, h141, rfl, h139⟩ := h134
            have h142 := h139.2.2.2.2
            have h143 := Fr_trans h102 h138 (by decide +kernel)
            have h144 := KN_tp h75 h101 h142 (by omega) h90 h91 h92 (by omega) (by omega) (by omega) (by omega) (by omega)
            have h145 := OUT_tr h76 h144.2
            refine En_Ps 1 (pc' := 107) (lv' := [(6, .int ((y51 + Int32.ofInt 1))), (5, .int z131), (8, .int z85), (7, .int z79), (0, .ref 0), (1, .int a), (2, .ref a26), (3, .int z49), (4, .int z35)]) (st' := []) rfl ?_
            refine En_lv1 (addI rfl (by decide : (Int32.ofInt 1).toInt = 1) (by omega) (by omega)) (fun z146 h147 => ?_)
            refine En_Ps 1 (pc' := 45) (lv' := [(6, .int z146), (5, .int z131), (8, .int z85), (7, .int z79), (0, .ref 0), (1, .int a), (2, .ref a26), (3, .int z49), (4, .int z35)]) (st' := []) rfl ?_
            refine En_lv (lv := [(0, .ref 0), (1, .int a), (2, .ref a26), (3, .int z49), (4, .int z35), (5, .int z131), (6, .int z146)]) ⟨rfl, rfl, rfl, rfl, rfl, rfl, rfl, trivial⟩ ?_
            exact ih45 σ136 z131 z146 z140 h137 h143 ((h138 _ _ (inW (by decide +kernel : TG 0 = 0) (by decide +kernel))).trans ((h97 _ _ (inW (by decide +kernel : TG 0 = 0) (by decide +kernel))).trans h56)) ((h138 _ _ (inW hp (by decide +kernel))).trans ((h97 _ _ (inW hp (by decide +kernel))).trans h57)) ((h138 _ _ (inW hp (by decide +kernel))).trans ((h97 _ _ (inW hp (by decide +kernel))).trans h58)) ((h138 _ _ (inW hp (by decide +kernel))).trans ((h97 _ _ (inW hp (by decide +kernel))).trans h59)) ((h138 _ _ (inWa ha19 (by decide +kernel))).trans ((h97 _ _ (inWa ha19 (by decide +kernel))).trans h60)) ((h138 _ _ (inW ha22 (by decide +kernel))).trans ((h97 _ _ (inW ha22 (by decide +kernel))).trans h61)) ((h138 _ _ (inW ha26 (by decide +kernel))).trans ((h97 _ _ (inW ha26 (by decide +kernel))).trans h62)) ((h138 _ _ (inW ha26 (by decide +kernel))).trans ((h97 _ _ (inW ha26 (by decide +kernel))).trans h63)) h141 (by omega) (by omega) (by omega) (by omega) (by omega) (by omega) (by omega) (by omega) (by omega) (by omega) (h144.1) (h145)
    have := (by decide : (Int32.ofInt 0).toInt = 0)
    have := (by decide : (Int32.ofInt 0).toInt = 0)
    refine En_lv (lv := [(0, .ref 0), (1, .int a), (2, .ref a26), (3, .int z49), (4, .int z35), (5, .int ((Int32.ofInt 0))), (6, .int ((Int32.ofInt 0)))]) ⟨rfl, rfl, rfl, rfl, rfl, rfl, rfl, trivial⟩ ?_
    exact key45 (Int.toNat (z35.toInt) + 1) σ0 ((Int32.ofInt 0)) ((Int32.ofInt 0)) z35 hσ0 hF0 h_p h_sg h2 h18 h21 h25 h28 h31 h34 (by omega) (by omega) (by omega) (by omega) (by omega) (by omega) (by omega) (by omega) (by omega) (by omega) (hK) (OUT_0)
  · have h148 := Imp_m h12.2.2.2.2.1 (by omega)
    refine En_Ps 1 (pc' := 13) (lv' := [(0, .ref 0), (1, .int a)]) (st' := [.int (((Int8.ofInt (-2)).toInt32))]) rfl ?_
    refine En_top (by decide : ((Int8.ofInt (-2)).toInt32).toInt = -2) (fun z149 h150 => ?_)
    exact En_ret (v := some (.int z149)) rfl rfl rfl ⟨hσ0, hF0, z149, rfl, ⟨by omega, by omega, ⟨hK, OUT_0⟩⟩⟩
/-- DoorSchool.image(I)I -/
abbrev P_142x (σ0 : SG) (a : Int32) (p : Nat) (sg : Int32) : PO := fun v σ => WT σ ∧ Fr [(20, 2), (21, 0), (22, 0), (23, 0), (24, 0), (25, 0), (26, 0), (27, 0), (28, 1), (28, 2), (28, 3), (30, 0), (31, 0), (31, 1), (31, 2), (31, 3), (31, 6), (31, 7), (31, 8), (31, 11), (31, 14)] σ0 σ ∧ ∃ ret : Int32, v = some (.int ret) ∧ -ret.toInt - 2 ≤ 0 ∧ ret.toInt ≤ 0 ∧ Imp (-a.toInt ≤ 0 ∧ a.toInt - 2 ≤ 0) (ret.toInt ≤ 0 ∧ -ret.toInt ≤ 0) ∧ Imp (a.toInt + 1 ≤ 0) (ret.toInt + 2 ≤ 0 ∧ -ret.toInt - 2 ≤ 0) ∧ Imp (-a.toInt + 3 ≤ 0) (ret.toInt + 2 ≤ 0 ∧ -ret.toInt - 2 ≤ 0) ∧ IMC σ0 σ p a.toInt
set_option maxRecDepth 10000 in
set_option maxHeartbeats 4000000 in
theorem c_142x (σ0 : SG) (hσ0 : WT σ0) (a : Int32) (p : Nat) (hp : TG p = 18) (h_p : (σ0 0)[9]? = some (.ref p)) (sg : Int32) (h_sg : (σ0 p)[1]? = some (.int sg)) (hp0 : -sg.toInt ≤ 0) (hP : PLA p) (hX : FXP σ0 p) (hM : IMX σ0) : En 4 124 none mr_142 (P_142x σ0 a p sg) 0 [(0, .ref 0), (1, .int a)] [] σ0 := by
  obtain ⟨hl_sg, hu_sg⟩ := WT_int hσ0 (g := 18) hp (by decide +kernel) (l := (-1)) (u := 4) (by decide +kernel) h_sg
  have hF0 : Fr [(20, 2), (21, 0), (22, 0), (23, 0), (24, 0), (25, 0), (26, 0), (27, 0), (28, 1), (28, 2), (28, 3), (30, 0), (31, 0), (31, 1), (31, 2), (31, 3), (31, 6), (31, 7), (31, 8), (31, 11), (31, 14)] σ0 σ0 := Fr_rfl
  refine En_Ps 1 (pc' := 1) (lv' := [(0, .ref 0), (1, .int a)]) (st' := [.int a]) rfl ?_
  refine En_iLt _ rfl rfl (fun h1 => ?_) (fun h1 => ?_)
  · refine En_Ps 1 (pc' := 11) (lv' := [(0, .ref 0), (1, .int a)]) (st' := [.int (((Int8.ofInt (-2)).toInt32))]) rfl ?_
    refine En_top (by decide : ((Int8.ofInt (-2)).toInt32).toInt = -2) (fun z2 h3 => ?_)
    exact En_ret (v := some (.int z2)) rfl rfl rfl ⟨hσ0, hF0, z2, rfl, ⟨by omega, by omega, fun _ => by omega, fun _ => by omega, fun _ => by omega, IMC_no (by omega)⟩⟩
  · refine En_Ps 2 (pc' := 6) (lv' := [(0, .ref 0), (1, .int a)]) (st' := [.int ((Int32.ofInt 3)), .int a]) rfl ?_
    refine En_icLt _ rfl (by decide : (Int32.ofInt 3).toInt = 3) rfl (fun h4 => ?_) (fun h4 => ?_)
    · refine En_Ps 1 (pc' := 13) (lv' := [(0, .ref 0), (1, .int a)]) (st' := [.ref 0]) rfl ?_
      refine En_getU (j := 7) (u := 70) (g' := 29) (q := 0) rfl rfl rfl (by decide +kernel : TG 0 = 0) (by decide +kernel) hσ0 (by decide +kernel) (by decide +kernel) (fun h5 => ?_)
      refine En_Ps 1 (pc' := 17) (lv' := [(0, .ref 0), (1, .int a)]) (st' := [.int a, .ref 70]) rfl ?_
      refine En_aald (g' := 31) (u := 0) rfl rfl (by decide +kernel : TG 70 = 29) (by decide +kernel) hσ0 (by omega) (lnI (by decide +kernel : LN _ = 3) (by omega)) (FTsgl (by decide +kernel)) (fun a8 h7 ha8 => ?_)
      have h9 : a8 = 72 + 26 * (a.toInt).toNat := ref_uniq h7 (hM (a.toInt).toNat (by omega)).1
      refine En_Ps 1 (pc' := 19) (lv' := [(0, .ref 0), (1, .int a)]) (st' := [.ref 0, .ref a8]) rfl ?_
      refine En_getK (j := 9) h_p rfl rfl rfl (by decide +kernel : TG 0 = 0) (by decide +kernel) ?_
      refine En_callV rfl rfl rfl rfl rfl rfl rfl rfl ha8 (by decide +kernel) rfl (c_53ax σ0 hσ0 a8 ha8 p hp sg h_sg (by omega) (by rw [h9]; exact (SEP_i (by omega) hP).1) (by rw [h9]; exact (hM (a.toInt).toNat (by omega)).2) hX) (by decide) (by decide) (fun v11 σ12 h10 => ?_)
      obtain ⟨h13, h14, rfl, h15⟩ := h10
      have h16 := h15
      have h17 := Fr_trans hF0 h14 (by decide +kernel)
      refine En_Ps 1 (pc' := 26) (lv' := [(0, .ref 0), (1, .int a)]) (st' := [.ref 0]) rfl ?_
      refine En_getU (j := 8) (u := 71) (g' := 30) (q := 0) rfl rfl rfl (by decide +kernel : TG 0 = 0) (by decide +kernel) h13 (by decide +kernel) (by decide +kernel) (fun h18 => ?_)
      refine En_Ps 2 (pc' := 31) (lv' := [(0, .ref 0), (1, .int a)]) (st' := [.int ((Int32.ofInt 1)), .int a, .ref 71]) rfl ?_
      refine En_bast (l := 0) (u := 1) rfl rfl (by decide +kernel : TG 71 = 30) (by decide +kernel) (narZ (by decide : (Int32.ofInt 1).toInt = 1) (by omega) (by omega)) (by omega) (lnI (by decide +kernel : LN _ = 3) (by omega)) (FTsgl (by decide +kernel)) (rngI (by decide : (Int32.ofInt 1).toInt = 1) (by omega) (by omega)) h13 h17 (by decide +kernel) (fun σ20 h21 h22 h23 h24 => ?_)
      refine En_Ps 1 (pc' := 33) (lv' := [(0, .ref 0), (1, .int a)]) (st' := [.int ((Int32.ofInt 0))]) rfl ?_
      refine En_top (by decide : (Int32.ofInt 0).toInt = 0) (fun z25 h26 => ?_)
      exact En_ret (v := some (.int z25)) rfl rfl rfl ⟨h21, h22, z25, rfl, ⟨by omega, by omega, fun _ => by omega, fun _ => by omega, fun _ => by omega, IMC_ok (by omega) (by omega) h16 h9 h23 h24 (by decide)⟩⟩
    · refine En_Ps 1 (pc' := 11) (lv' := [(0, .ref 0), (1, .int a)]) (st' := [.int (((Int8.ofInt (-2)).toInt32))]) rfl ?_
      refine En_top (by decide : ((Int8.ofInt (-2)).toInt32).toInt = -2) (fun z27 h28 => ?_)
      exact En_ret (v := some (.int z27)) rfl rfl rfl ⟨hσ0, hF0, z27, rfl, ⟨by omega, by omega, fun _ => by omega, fun _ => by omega, fun _ => by omega, IMC_no (by omega)⟩⟩
/-- DoorSchool.left(I)I -/
abbrev P_152x (σ0 : SG) (Wv : Int → Int) (a : Int32) (p : Nat) (sg : Int32) : PO := fun v σ => WT σ ∧ Fr [(20, 2), (21, 0), (22, 0)] σ0 σ ∧ ∃ ret : Int32, v = some (.int ret) ∧ -ret.toInt - 2 ≤ 0 ∧ ret.toInt - 63 ≤ 0 ∧ (KN σ p Wv (act Wv) ∧ OUT σ0 σ p)
set_option maxRecDepth 10000 in
set_option maxHeartbeats 4000000 in
theorem c_152x {Wv : Int → Int} (σ0 : SG) (hσ0 : WT σ0) (a : Int32) (p : Nat) (hp : TG p = 18) (h_p : (σ0 0)[9]? = some (.ref p)) (sg : Int32) (h_sg : (σ0 p)[1]? = some (.int sg)) (hp0 : -sg.toInt ≤ 0) (hP : PLA p) (hX : FXP σ0 p) (hK : KN σ0 p Wv (act Wv)) (hB : WFw Wv) : En 6 141 none mr_152 (P_152x σ0 Wv a p sg) 0 [(0, .ref 0), (1, .int a)] [] σ0 := by
  obtain ⟨hl_sg, hu_sg⟩ := WT_int hσ0 (g := 18) hp (by decide +kernel) (l := (-1)) (u := 4) (by decide +kernel) h_sg
  have hF0 : Fr [(20, 2), (21, 0), (22, 0)] σ0 σ0 := Fr_rfl
  have t1 : Wv (0) = sg.toInt := KN_v hK (Or.inl (by decide)) (by omega) (by omega) (by rw [lcO_lt (by decide) (by decide), Nat.add_zero]) rfl h_sg
  obtain ⟨z3, h2, h4, h5⟩ := WT_peekI hσ0 hp (by decide +kernel : FT 18 3 = (0, 0, 4)) (by decide +kernel)
  have t6 : Wv (2) = z3.toInt := KN_v hK (Or.inl (by decide)) (by omega) (by omega) (by rw [lcO_lt (by decide) (by decide), Nat.add_zero]) rfl h2
  refine En_Ps 2 (pc' := 2) (lv' := [(0, .ref 0), (1, .int a)]) (st' := [.int a, .ref 0]) rfl ?_
  refine En_callV rfl rfl rfl rfl rfl rfl rfl rfl (by decide +kernel : TG 0 = 0) (by decide +kernel) rfl (c_135x σ0 hσ0 a p hp h_p sg h_sg (by omega) hP (FXP_fr hP hX hF0 (by decide +kernel)) hK hB) (by decide) (by decide) (fun v8 σ9 h7 => ?_)
  obtain ⟨h10, h11, z13, rfl, h12⟩ := h7
  have h14 := h12.2.2.2.2
  have h15 := Fr_trans hF0 h11 (by decide +kernel)
  have h16 := h14.2
  refine En_Ps 3 (pc' := 9) (lv' := [(2, .int z13), (0, .ref 0), (1, .int a)]) (st' := [.int (((Int8.ofInt (-2)).toInt32)), .int z13]) rfl ?_
  refine En_icNe _ rfl (by decide : ((Int8.ofInt (-2)).toInt32).toInt = -2) rfl (fun h17 => ?_) (fun h17 => ?_)
  · have h18 := Imp_m h12.2.2.1 (by omega)
    refine En_Ps 2 (pc' := 17) (lv' := [(2, .int z13), (0, .ref 0), (1, .int a)]) (st' := [.int ((Int32.ofInt (-1))), .int z13]) rfl ?_
    refine En_icNe _ rfl (by decide : (Int32.ofInt (-1)).toInt = -1) rfl (fun h19 => ?_) (fun h19 => ?_)
    · have h20 := Imp_m h12.2.2.2.1 (by omega)
      refine En_Ps 3 (pc' := 34) (lv' := [(2, .int z13), (0, .ref 0), (1, .int a)]) (st' := [.int z13, .int a, .ref 0]) rfl ?_
      refine En_callV rfl rfl rfl rfl rfl rfl rfl rfl (by decide +kernel : TG 0 = 0) (by decide +kernel) rfl (c_127x σ9 h10 a z13 (geI rfl (by omega)) (leI rfl (by omega)) (geI rfl (by omega)) (leI rfl (by omega)) p hp ((h11 _ _ (inW (by decide +kernel : TG 0 = 0) (by decide +kernel))).trans h_p) sg ((h11 _ _ (inW hp (by decide +kernel))).trans h_sg) (by omega) hP (FXP_fr hP hX h15 (by decide +kernel)) h14.1 hB (by omega)) (by decide) (by decide) (fun v22 σ23 h21 => ?_)
      obtain ⟨h24, h25, z27, rfl, h26⟩ := h21
      have h28 := h26.2.2
      have h29 := Fr_trans h15 h25 (by decide +kernel)
      have h30 := OUT_tr h16 h28.2
      exact En_ret (v := some (.int z27)) rfl rfl rfl ⟨h24, h29, z27, rfl, ⟨by omega, by omega, ⟨h28.1, h30⟩⟩⟩
    · refine En_Ps 2 (pc' := 22) (lv' := [(2, .int z13), (0, .ref 0), (1, .int a)]) (st' := [.int a, .ref 0]) rfl ?_
      refine En_callV rfl rfl rfl rfl rfl rfl rfl rfl (by decide +kernel : TG 0 = 0) (by decide +kernel) rfl (c_126 σ9 h10 a (geI rfl (by omega)) (leI rfl (by omega)) p hp ((h11 _ _ (inW (by decide +kernel : TG 0 = 0) (by decide +kernel))).trans h_p) sg ((h11 _ _ (inW hp (by decide +kernel))).trans h_sg) (by omega)) (by decide) (by decide) (fun v32 σ33 h31 => ?_)
      obtain ⟨h34, h35, z37, rfl, h36⟩ := h31
      obtain rfl : σ9 = σ33 := Fr_nil h35
      refine En_callS rfl rfl rfl rfl rfl rfl rfl rfl rfl (c_7bx σ9 h10 z37) (by decide) (by decide) (fun v39 σ40 h38 => ?_)
      obtain ⟨h41, h42, z44, rfl, h43⟩ := h38
      obtain rfl : σ9 = σ40 := Fr_nil h42
      refine En_Ps 1 (pc' := 37) (lv' := [(2, .int z13), (0, .ref 0), (1, .int a)]) (st' := [.int z44]) rfl ?_
      exact En_ret (v := some (.int z44)) rfl rfl rfl ⟨h10, h15, z44, rfl, ⟨by omega, by omega, ⟨h14.1, h16⟩⟩⟩
  · refine En_Ps 1 (pc' := 14) (lv' := [(2, .int z13), (0, .ref 0), (1, .int a)]) (st' := [.int (((Int8.ofInt (-2)).toInt32))]) rfl ?_
    refine En_top (by decide : ((Int8.ofInt (-2)).toInt32).toInt = -2) (fun z45 h46 => ?_)
    exact En_ret (v := some (.int z45)) rfl rfl rfl ⟨h10, h15, z45, rfl, ⟨by omega, by omega, ⟨h14.1, h16⟩⟩⟩
/-- DoorSchool.lesson(III)I -/
abbrev P_154x (σ0 : SG) (Wv : Int → Int) (a : Int32) (b : Int32) (c : Int32) (p : Nat) (sg : Int32) : PO := fun v σ => WT σ ∧ Fr [] σ0 σ ∧ ∃ ret : Int32, v = some (.int ret) ∧ -ret.toInt - 2 ≤ 0 ∧ ret.toInt - 15 ≤ 0 ∧ ret.toInt = leR Wv a.toInt b.toInt c.toInt
set_option maxRecDepth 10000 in
set_option maxHeartbeats 4000000 in
theorem c_154x {Wv : Int → Int} (σ0 : SG) (hσ0 : WT σ0) (a : Int32) (b : Int32) (c : Int32) (p : Nat) (hp : TG p = 18) (h_p : (σ0 0)[9]? = some (.ref p)) (sg : Int32) (h_sg : (σ0 p)[1]? = some (.int sg)) (hp0 : -sg.toInt ≤ 0) (hP : PLA p) (hX : FXP σ0 p) (hK : KN σ0 p Wv (act Wv)) : En 1 21 none mr_154 (P_154x σ0 Wv a b c p sg) 0 [(0, .ref 0), (1, .int a), (2, .int b), (3, .int c)] [] σ0 := by
  obtain ⟨hl_sg, hu_sg⟩ := WT_int hσ0 (g := 18) hp (by decide +kernel) (l := (-1)) (u := 4) (by decide +kernel) h_sg
  have hF0 : Fr [] σ0 σ0 := Fr_rfl
  have t1 : Wv (0) = sg.toInt := KN_v hK (Or.inl (by decide)) (by omega) (by omega) (by rw [lcO_lt (by decide) (by decide), Nat.add_zero]) rfl h_sg
  refine En_Ps 1 (pc' := 1) (lv' := [(0, .ref 0), (1, .int a), (2, .int b), (3, .int c)]) (st' := [.ref 0]) rfl ?_
  refine En_getK (j := 9) h_p rfl rfl rfl (by decide +kernel : TG 0 = 0) (by decide +kernel) ?_
  refine En_Ps 1 (pc' := 5) (lv' := [(0, .ref 0), (1, .int a), (2, .int b), (3, .int c)]) (st' := [.int a, .ref p]) rfl ?_
  obtain ⟨z3, h2, h4, h5⟩ := WT_peekI hσ0 hp (by decide +kernel : FT 18 3 = (0, 0, 4)) (by decide +kernel)
  have t6 : Wv (2) = z3.toInt := KN_v hK (Or.inl (by decide)) (by omega) (by omega) (by rw [lcO_lt (by decide) (by decide), Nat.add_zero]) rfl h2
  refine En_callV rfl rfl rfl rfl rfl rfl rfl rfl hp (by decide +kernel) rfl (c_47x σ0 hσ0 p hp a z3 h2) (by decide) (by decide) (fun v8 σ9 h7 => ?_)
  obtain ⟨h10, h11, z13, rfl, h12⟩ := h7
  obtain rfl : σ0 = σ9 := Fr_nil h11
  refine En_iEq _ rfl rfl (fun h14 => ?_) (fun h14 => ?_)
  · have h15 := Imp_m h12.2.2.2.2.1 (by omega)
    refine En_Ps 1 (pc' := 20) (lv' := [(0, .ref 0), (1, .int a), (2, .int b), (3, .int c)]) (st' := [.int (((Int8.ofInt (-2)).toInt32))]) rfl ?_
    refine En_top (by decide : ((Int8.ofInt (-2)).toInt32).toInt = -2) (fun z16 h17 => ?_)
    exact En_ret (v := some (.int z16)) rfl rfl rfl ⟨hσ0, hF0, z16, rfl, ⟨by omega, by omega, (by have e := leR_2 (w := Wv) (d := a.toInt) (i := b.toInt) (q := c.toInt) (by omega); omega)⟩⟩
  · have h18 := Imp_m h12.2.2.1 (by omega)
    have h19 := Imp_m h12.2.2.2.1 (by omega)
    have h20 := Imp_m h12.2.2.2.2.2 (by omega)
    refine En_Ps 1 (pc' := 12) (lv' := [(0, .ref 0), (1, .int a), (2, .int b), (3, .int c)]) (st' := [.int c]) rfl ?_
    refine En_callS rfl rfl rfl rfl rfl rfl rfl rfl rfl (c_149 σ0 hσ0 c) (by decide) (by decide) (fun v22 σ23 h21 => ?_)
    obtain ⟨h24, h25, z27, rfl, h26⟩ := h21
    obtain rfl : σ0 = σ23 := Fr_nil h25
    refine En_iNe _ rfl rfl (fun h28 => ?_) (fun h28 => ?_)
    · refine En_Ps 1 (pc' := 22) (lv' := [(0, .ref 0), (1, .int a), (2, .int b), (3, .int c)]) (st' := [.ref 0]) rfl ?_
      refine En_getK (j := 9) h_p rfl rfl rfl (by decide +kernel : TG 0 = 0) (by decide +kernel) ?_
      refine En_getR (j := 4) (g' := 19) (u := 0) rfl rfl rfl hp (by decide +kernel) hσ0 (by decide +kernel) (fun a30 h29 ha30 => ?_)
      have t31 : a30 = p + 1 := ref_uniq h29 (FXP_fr hP hX hF0 (by decide +kernel)).1
      refine En_Ps 1 (pc' := 29) (lv' := [(0, .ref 0), (1, .int a), (2, .int b), (3, .int c)]) (st' := [.int a, .ref a30]) rfl ?_
      refine En_aald (g' := 28) (u := 0) rfl rfl ha30 (by decide +kernel) hσ0 (by omega) (lnI (by decide +kernel : LN _ = 4) (by omega)) (FTsgl (by decide +kernel)) (fun a33 h32 ha33 => ?_)
      have t34 : a33 = p + 10 + 4 * (a.toInt).toNat := DRe (d := a.toInt) (FXP_fr hP hX hF0 (by decide +kernel)) t31 h32 (by omega) (by omega)
      have t35 := lc_d (d := a.toInt) (by omega) (by omega)
      refine En_getR (j := 0) (g' := 20) (u := 0) rfl rfl rfl ha33 (by decide +kernel) hσ0 (by decide +kernel) (fun a37 h36 ha37 => ?_)
      have t38 : a37 = p + 11 + 4 * (a.toInt).toNat := DLc (d := a.toInt) (FXP_fr hP hX hF0 (by decide +kernel)) t34 h36 (by omega) (by omega)
      refine En_Ps 2 (pc' := 36) (lv' := [(4, .ref a37), (0, .ref 0), (1, .int a), (2, .int b), (3, .int c)]) (st' := [.int b]) rfl ?_
      refine En_iLt _ rfl rfl (fun h39 => ?_) (fun h39 => ?_)
      · refine En_Ps 1 (pc' := 49) (lv' := [(4, .ref a37), (0, .ref 0), (1, .int a), (2, .int b), (3, .int c)]) (st' := [.int ((Int32.ofInt (-1)))]) rfl ?_
        refine En_top (by decide : (Int32.ofInt (-1)).toInt = -1) (fun z40 h41 => ?_)
        exact En_ret (v := some (.int z40)) rfl rfl rfl ⟨hσ0, hF0, z40, rfl, ⟨by omega, by omega, (by have e := leR_1 (w := Wv) (d := a.toInt) (i := b.toInt) (q := c.toInt) (by omega) (by omega); omega)⟩⟩
      · refine En_Ps 2 (pc' := 42) (lv' := [(4, .ref a37), (0, .ref 0), (1, .int a), (2, .int b), (3, .int c)]) (st' := [.ref a37, .int b]) rfl ?_
        refine En_getI (j := 2) (l := 0) (u := 13) rfl rfl rfl ha37 (by decide +kernel) hσ0 (by decide +kernel) (fun z43 h42 h44 h45 => ?_)
        have t46 : Wv (12 + 4 * (a.toInt)) = z43.toInt := KN_v hK (Or.inr (Or.inl ⟨by omega, by omega, by omega⟩)) (by omega) (by omega) (by omega) (by omega) h42
        refine En_icLt _ rfl rfl rfl (fun h47 => ?_) (fun h47 => ?_)
        · refine En_Ps 1 (pc' := 51) (lv' := [(4, .ref a37), (0, .ref 0), (1, .int a), (2, .int b), (3, .int c)]) (st' := [.int c]) rfl ?_
          refine En_iNe _ rfl rfl (fun h48 => ?_) (fun h48 => ?_)
          · refine En_Ps 1 (pc' := 66) (lv' := [(4, .ref a37), (0, .ref 0), (1, .int a), (2, .int b), (3, .int c)]) (st' := [.ref a37]) rfl ?_
            refine En_getR (j := 1) (g' := 22) (u := 0) rfl rfl rfl ha37 (by decide +kernel) hσ0 (by decide +kernel) (fun a50 h49 ha50 => ?_)
            have t51 : a50 = p + 13 + 4 * (a.toInt).toNat := DKo (d := a.toInt) (FXP_fr hP hX hF0 (by decide +kernel)) t38 h49 (by omega) (by omega)
            refine En_Ps 1 (pc' := 70) (lv' := [(4, .ref a37), (0, .ref 0), (1, .int a), (2, .int b), (3, .int c)]) (st' := [.int b, .ref a50]) rfl ?_
            refine En_iald (l := 0) (u := 1) rfl rfl ha50 (by decide +kernel) hσ0 (by omega) (lnI (by decide +kernel : LN _ = 13) (by omega)) (FTsgl (by decide +kernel)) (fun z53 h52 h54 h55 => ?_)
            have t56 := lc_l (d := a.toInt) (m := b.toInt) (by omega) (by omega) (by omega) (by omega)
            have t57 : Wv (26 + 24 * (a.toInt) + 2 * (b.toInt) + 1) = z53.toInt := KN_v hK (act_lo (d := a.toInt) (m := b.toInt) (by omega) (by omega) (by omega) (by omega) (by omega) (by omega)) (by omega) (by omega) (by omega) (by omega) h52
            exact En_ret (v := some (.int z53)) rfl rfl rfl ⟨hσ0, hF0, z53, rfl, ⟨by omega, by omega, (by have e := leR_y (w := Wv) (d := a.toInt) (i := b.toInt) (q := c.toInt) (by omega) (by omega) t57; omega)⟩⟩
          · refine En_Ps 1 (pc' := 56) (lv' := [(4, .ref a37), (0, .ref 0), (1, .int a), (2, .int b), (3, .int c)]) (st' := [.ref a37]) rfl ?_
            refine En_getR (j := 0) (g' := 21) (u := 0) rfl rfl rfl ha37 (by decide +kernel) hσ0 (by decide +kernel) (fun a59 h58 ha59 => ?_)
            have t60 : a59 = p + 12 + 4 * (a.toInt).toNat := DKk (d := a.toInt) (FXP_fr hP hX hF0 (by decide +kernel)) t38 h58 (by omega) (by omega)
            refine En_Ps 1 (pc' := 60) (lv' := [(4, .ref a37), (0, .ref 0), (1, .int a), (2, .int b), (3, .int c)]) (st' := [.int b, .ref a59]) rfl ?_
            refine En_iald (l := 0) (u := 15) rfl rfl ha59 (by decide +kernel) hσ0 (by omega) (lnI (by decide +kernel : LN _ = 13) (by omega)) (FTsgl (by decide +kernel)) (fun z62 h61 h63 h64 => ?_)
            have t65 := lc_l (d := a.toInt) (m := b.toInt) (by omega) (by omega) (by omega) (by omega)
            have t66 : Wv (26 + 24 * (a.toInt) + 2 * (b.toInt)) = z62.toInt := KN_v hK (act_lk (d := a.toInt) (m := b.toInt) (by omega) (by omega) (by omega) (by omega) (by omega) (by omega)) (by omega) (by omega) (by omega) (by omega) h61
            refine En_Ps 1 (pc' := 71) (lv' := [(4, .ref a37), (0, .ref 0), (1, .int a), (2, .int b), (3, .int c)]) (st' := [.int z62]) rfl ?_
            exact En_ret (v := some (.int z62)) rfl rfl rfl ⟨hσ0, hF0, z62, rfl, ⟨by omega, by omega, (by have e := leR_y (w := Wv) (d := a.toInt) (i := b.toInt) (q := c.toInt) (by omega) (by omega) t66; omega)⟩⟩
        · refine En_Ps 1 (pc' := 49) (lv' := [(4, .ref a37), (0, .ref 0), (1, .int a), (2, .int b), (3, .int c)]) (st' := [.int ((Int32.ofInt (-1)))]) rfl ?_
          refine En_top (by decide : (Int32.ofInt (-1)).toInt = -1) (fun z67 h68 => ?_)
          exact En_ret (v := some (.int z67)) rfl rfl rfl ⟨hσ0, hF0, z67, rfl, ⟨by omega, by omega, (by have e := leR_1 (w := Wv) (d := a.toInt) (i := b.toInt) (q := c.toInt) (by omega) (by omega); omega)⟩⟩
    · refine En_Ps 1 (pc' := 20) (lv' := [(0, .ref 0), (1, .int a), (2, .int b), (3, .int c)]) (st' := [.int (((Int8.ofInt (-2)).toInt32))]) rfl ?_
      refine En_top (by decide : ((Int8.ofInt (-2)).toInt32).toInt = -2) (fun z69 h70 => ?_)
      exact En_ret (v := some (.int z69)) rfl rfl rfl ⟨hσ0, hF0, z69, rfl, ⟨by omega, by omega, (by have e := leR_2 (w := Wv) (d := a.toInt) (i := b.toInt) (q := c.toInt) (by omega); omega)⟩⟩
/-- DoorSchool.opens(II)I -/
abbrev P_159x (σ0 : SG) (Wv : Int → Int) (a : Int32) (b : Int32) (p : Nat) (sg : Int32) : PO := fun v σ => WT σ ∧ Fr [] σ0 σ ∧ ∃ ret : Int32, v = some (.int ret) ∧ -ret.toInt - 2 ≤ 0 ∧ ret.toInt - 1 ≤ 0 ∧ ret.toInt = opR Wv a.toInt b.toInt
set_option maxRecDepth 10000 in
set_option maxHeartbeats 4000000 in
theorem c_159x {Wv : Int → Int} (σ0 : SG) (hσ0 : WT σ0) (a : Int32) (b : Int32) (p : Nat) (hp : TG p = 18) (h_p : (σ0 0)[9]? = some (.ref p)) (sg : Int32) (h_sg : (σ0 p)[1]? = some (.int sg)) (hp0 : -sg.toInt ≤ 0) (hP : PLA p) (hX : FXP σ0 p) (hK : KN σ0 p Wv (act Wv)) (hB : WFw Wv) (hT : TWN Wv) (hQ : 0 < Wv 7 → RULx σ0 (Wv 0)) (hq : QX Wv) : En 4 92 none mr_159 (P_159x σ0 Wv a b p sg) 0 [(0, .ref 0), (1, .int a), (2, .int b)] [] σ0 := by
  obtain ⟨hl_sg, hu_sg⟩ := WT_int hσ0 (g := 18) hp (by decide +kernel) (l := (-1)) (u := 4) (by decide +kernel) h_sg
  have hF0 : Fr [] σ0 σ0 := Fr_rfl
  have t1 : Wv (0) = sg.toInt := KN_v hK (Or.inl (by decide)) (by omega) (by omega) (by rw [lcO_lt (by decide) (by decide), Nat.add_zero]) rfl h_sg
  obtain ⟨z3, h2, h4, h5⟩ := WT_peekI hσ0 hp (by decide +kernel : FT 18 3 = (0, 0, 4)) (by decide +kernel)
  have t6 : Wv (2) = z3.toInt := KN_v hK (Or.inl (by decide)) (by omega) (by omega) (by rw [lcO_lt (by decide) (by decide), Nat.add_zero]) rfl h2
  have h7 := hB.2.2.1
  have h8 := hB.1
  have h9 := hB.2.1
  refine En_Ps 1 (pc' := 1) (lv' := [(0, .ref 0), (1, .int a), (2, .int b)]) (st' := [.ref 0]) rfl ?_
  refine En_getK (j := 9) h_p rfl rfl rfl (by decide +kernel : TG 0 = 0) (by decide +kernel) ?_
  refine En_Ps 1 (pc' := 5) (lv' := [(0, .ref 0), (1, .int a), (2, .int b)]) (st' := [.int a, .ref p]) rfl ?_
  refine En_callV rfl rfl rfl rfl rfl rfl rfl rfl hp (by decide +kernel) rfl (c_47x σ0 hσ0 p hp a z3 h2) (by decide) (by decide) (fun v11 σ12 h10 => ?_)
  obtain ⟨h13, h14, z16, rfl, h15⟩ := h10
  obtain rfl : σ0 = σ12 := Fr_nil h14
  refine En_iEq _ rfl rfl (fun h17 => ?_) (fun h17 => ?_)
  · have h18 := Imp_m h15.2.2.2.2.1 (by omega)
    refine En_Ps 1 (pc' := 24) (lv' := [(0, .ref 0), (1, .int a), (2, .int b)]) (st' := [.int (((Int8.ofInt (-2)).toInt32))]) rfl ?_
    refine En_top (by decide : ((Int8.ofInt (-2)).toInt32).toInt = -2) (fun z19 h20 => ?_)
    exact En_ret (v := some (.int z19)) rfl rfl rfl ⟨hσ0, hF0, z19, rfl, ⟨by omega, by omega, opR_n (fun ⟨q1, q2, q3, q4, q5⟩ => by omega) (by omega)⟩⟩
  · have h21 := Imp_m h15.2.2.1 (by omega)
    have h22 := Imp_m h15.2.2.2.1 (by omega)
    have h23 := Imp_m h15.2.2.2.2.2 (by omega)
    refine En_Ps 1 (pc' := 12) (lv' := [(0, .ref 0), (1, .int a), (2, .int b)]) (st' := [.ref 0]) rfl ?_
    refine En_getK (j := 9) h_p rfl rfl rfl (by decide +kernel : TG 0 = 0) (by decide +kernel) ?_
    refine En_Ps 1 (pc' := 16) (lv' := [(0, .ref 0), (1, .int a), (2, .int b)]) (st' := [.int b, .ref p]) rfl ?_
    obtain ⟨z25, h24, h26, h27⟩ := WT_peekI hσ0 hp (by decide +kernel : FT 18 0 = (0, 0, 1601)) (by decide +kernel)
    have t28 : Wv (7) = z25.toInt := KN_v hK (Or.inl (by decide)) (by omega) (by omega) (by rw [lcO_lt (by decide) (by decide), Nat.add_zero]) rfl h24
    refine En_callV rfl rfl rfl rfl rfl rfl rfl rfl hp (by decide +kernel) rfl (c_49x σ0 hσ0 p hp b z25 h24 sg h_sg (by omega)) (by decide) (by decide) (fun v30 σ31 h29 => ?_)
    obtain ⟨h32, h33, z35, rfl, h34⟩ := h29
    have h36 := h34.2.2.2
    obtain rfl : σ0 = σ31 := Fr_nil h33
    have h37 := h36
    have h38 : pI (Wv 0) = pI (sg.toInt) := by rw [t1]
    refine En_iNe _ rfl rfl (fun h39 => ?_) (fun h39 => ?_)
    · have h40 := Imp_m h34.2.2.1 (by omega)
      have h41 := pI_rng (s := Wv 0) (by omega) (by omega)
      have h42 : 0 ≤ b.toInt ∧ b.toInt ≤ 15 := by omega
      refine En_Ps 2 (pc' := 27) (lv' := [(0, .ref 0), (1, .int a), (2, .int b)]) (st' := [.int a, .ref 0]) rfl ?_
      refine En_callV rfl rfl rfl rfl rfl rfl rfl rfl (by decide +kernel : TG 0 = 0) (by decide +kernel) rfl (c_114x σ0 hσ0 a (geI rfl (by omega)) (leI rfl (by omega)) p hp h_p sg h_sg (by omega) hP (FXP_fr hP hX hF0 (by decide +kernel)) hK hB hT (by omega) (hQ (hq (by omega)))) (by decide) (by decide) (fun v44 σ45 h43 => ?_)
      obtain ⟨h46, h47, z49, rfl, h48⟩ := h43
      have h50 := h48.2.2
      obtain rfl : σ0 = σ45 := Fr_nil h47
      refine En_Ps 1 (pc' := 31) (lv' := [(0, .ref 0), (1, .int a), (2, .int b)]) (st' := [.int b, .int z49]) rfl ?_
      refine En_callS rfl rfl rfl rfl rfl rfl rfl rfl rfl (c_108ax σ0 hσ0 z49 b (geI rfl (by omega)) (leI rfl (by omega)) (geI rfl (by omega)) (leI rfl (by omega))) (by decide) (by decide) (fun v52 σ53 h51 => ?_)
      obtain ⟨h54, h55, z57, rfl, h56⟩ := h51
      have h58 := h56.2.2
      obtain rfl : σ0 = σ53 := Fr_nil h55
      exact En_ret (v := some (.int z57)) rfl rfl rfl ⟨hσ0, hF0, z57, rfl, ⟨by omega, by omega, opR_y ⟨by omega, by omega, by omega, by omega, by omega⟩ h58 h50⟩⟩
    · refine En_Ps 1 (pc' := 24) (lv' := [(0, .ref 0), (1, .int a), (2, .int b)]) (st' := [.int (((Int8.ofInt (-2)).toInt32))]) rfl ?_
      refine En_top (by decide : ((Int8.ofInt (-2)).toInt32).toInt = -2) (fun z59 h60 => ?_)
      exact En_ret (v := some (.int z59)) rfl rfl rfl ⟨hσ0, hF0, z59, rfl, ⟨by omega, by omega, opR_n (fun ⟨q1, q2, q3, q4, q5⟩ => by omega) (by omega)⟩⟩
/-- DoorSchool.owns(II)I -/
abbrev P_161x (σ0 : SG) (Wv : Int → Int) (a : Int32) (b : Int32) (p : Nat) (sg : Int32) : PO := fun v σ => WT σ ∧ Fr [(18, 6), (18, 7)] σ0 σ ∧ ∃ ret : Int32, v = some (.int ret) ∧ -ret.toInt - 2 ≤ 0 ∧ ret.toInt - 65535 ≤ 0 ∧ (KN σ p (owW Wv a.toInt b.toInt) (act (owW Wv a.toInt b.toInt)) ∧ OUT σ0 σ p)
set_option maxRecDepth 10000 in
set_option maxHeartbeats 4000000 in
theorem c_161x {Wv : Int → Int} (σ0 : SG) (hσ0 : WT σ0) (a : Int32) (b : Int32) (p : Nat) (hp : TG p = 18) (h_p : (σ0 0)[9]? = some (.ref p)) (sg : Int32) (h_sg : (σ0 p)[1]? = some (.int sg)) (hp0 : -sg.toInt ≤ 0) (hP : PLA p) (hX : FXP σ0 p) (hK : KN σ0 p Wv (act Wv)) : En 3 63 none mr_161 (P_161x σ0 Wv a b p sg) 0 [(0, .ref 0), (1, .int a), (2, .int b)] [] σ0 := by
  obtain ⟨hl_sg, hu_sg⟩ := WT_int hσ0 (g := 18) hp (by decide +kernel) (l := (-1)) (u := 4) (by decide +kernel) h_sg
  have hF0 : Fr [(18, 6), (18, 7)] σ0 σ0 := Fr_rfl
  have t1 : Wv (0) = sg.toInt := KN_v hK (Or.inl (by decide)) (by omega) (by omega) (by rw [lcO_lt (by decide) (by decide), Nat.add_zero]) rfl h_sg
  refine En_Ps 1 (pc' := 1) (lv' := [(0, .ref 0), (1, .int a), (2, .int b)]) (st' := [.ref 0]) rfl ?_
  refine En_getK (j := 9) h_p rfl rfl rfl (by decide +kernel : TG 0 = 0) (by decide +kernel) ?_
  refine En_Ps 2 (pc' := 6) (lv' := [(0, .ref 0), (1, .int a), (2, .int b)]) (st' := [.int b, .int a, .ref p]) rfl ?_
  obtain ⟨z3, h2, h4, h5⟩ := WT_peekI hσ0 hp (by decide +kernel : FT 18 0 = (0, 0, 1601)) (by decide +kernel)
  have t6 : Wv (7) = z3.toInt := KN_v hK (Or.inl (by decide)) (by omega) (by omega) (by rw [lcO_lt (by decide) (by decide), Nat.add_zero]) rfl h2
  refine En_callV rfl rfl rfl rfl rfl rfl rfl rfl hp (by decide +kernel) rfl (c_50x σ0 hσ0 p hp a b z3 h2 sg h_sg (by omega)) (by decide) (by decide) (fun v8 σ9 h7 => ?_)
  obtain ⟨h10, h11, z13, rfl, h12⟩ := h7
  have h14 := h12.2.2.2
  obtain rfl : σ0 = σ9 := Fr_nil h11
  have h15 := h14
  have h16 : pI (Wv 0) = pI (sg.toInt) := by rw [t1]
  refine En_iNe _ rfl rfl (fun h17 => ?_) (fun h17 => ?_)
  · have h18 := Imp_m h12.2.2.1 (by omega)
    refine En_Ps 1 (pc' := 16) (lv' := [(0, .ref 0), (1, .int a), (2, .int b)]) (st' := [.ref 0]) rfl ?_
    refine En_callV rfl rfl rfl rfl rfl rfl rfl rfl (by decide +kernel : TG 0 = 0) (by decide +kernel) rfl (c_160 σ0 hσ0 p hp h_p sg h_sg (by omega)) (by decide) (by decide) (fun v20 σ21 h19 => ?_)
    obtain ⟨h22, h23, z25, rfl, h24⟩ := h19
    obtain rfl : σ0 = σ21 := Fr_nil h23
    refine En_Ps 2 (pc' := 21) (lv' := [(3, .int z25), (0, .ref 0), (1, .int a), (2, .int b)]) (st' := [.ref 0]) rfl ?_
    refine En_getK (j := 9) h_p rfl rfl rfl (by decide +kernel : TG 0 = 0) (by decide +kernel) ?_
    refine En_Ps 1 (pc' := 25) (lv' := [(3, .int z25), (0, .ref 0), (1, .int a), (2, .int b)]) (st' := [.int a, .ref p]) rfl ?_
    refine En_put (j := 6) rfl rfl rfl hp (by decide +kernel) rfl (vI (l := 0) (u := 15) (by decide +kernel) rfl (by omega) (by omega)) hσ0 hF0 (by decide +kernel) (fun σ26 h27 h28 h29 h30 => ?_)
    refine En_Ps 1 (pc' := 29) (lv' := [(3, .int z25), (0, .ref 0), (1, .int a), (2, .int b)]) (st' := [.ref 0]) rfl ?_
    refine En_getK (j := 9) ((h30 _ _ (Or.inr (by decide))).trans h_p) rfl rfl rfl (by decide +kernel : TG 0 = 0) (by decide +kernel) ?_
    refine En_Ps 1 (pc' := 33) (lv' := [(3, .int z25), (0, .ref 0), (1, .int a), (2, .int b)]) (st' := [.int b, .ref p]) rfl ?_
    refine En_put (j := 7) rfl rfl rfl hp (by decide +kernel) rfl (vI (l := 0) (u := 15) (by decide +kernel) rfl (by omega) (by omega)) h27 h28 (by decide +kernel) (fun σ31 h32 h33 h34 h35 => ?_)
    refine En_Ps 1 (pc' := 37) (lv' := [(3, .int z25), (0, .ref 0), (1, .int a), (2, .int b)]) (st' := [.int z25]) rfl ?_
    exact En_ret (v := some (.int z25)) rfl rfl rfl ⟨h32, h33, z25, rfl, ⟨by omega, by omega, (by rw [owW_y (by omega)]; exact KN_two hK (PLA_B hP) h29 h30 h34 h35)⟩⟩
  · refine En_Ps 1 (pc' := 14) (lv' := [(0, .ref 0), (1, .int a), (2, .int b)]) (st' := [.int (((Int8.ofInt (-2)).toInt32))]) rfl ?_
    refine En_top (by decide : ((Int8.ofInt (-2)).toInt32).toInt = -2) (fun z36 h37 => ?_)
    exact En_ret (v := some (.int z36)) rfl rfl rfl ⟨hσ0, hF0, z36, rfl, ⟨by omega, by omega, (by rw [owW_n (by omega)]; exact ⟨hK, OUT_0⟩)⟩⟩
/-- DoorSchool.row(III)I -/
abbrev P_165x (σ0 : SG) (a : Int32) (b : Int32) (c : Int32) (p : Nat) (sg : Int32) : PO := fun v σ => WT σ ∧ Fr [(33, 1), (33, 2), (33, 3), (34, 0)] σ0 σ ∧ ∃ ret : Int32, v = some (.int ret) ∧ -ret.toInt - 3 ≤ 0 ∧ ret.toInt ≤ 0 ∧ Imp (-a.toInt ≤ 0 ∧ a.toInt - 3 ≤ 0 ∧ -b.toInt ≤ 0 ∧ b.toInt - 3 ≤ 0 ∧ c.toInt - 60 ≤ 0 ∧ -c.toInt ≤ 0) (ret.toInt ≤ 0 ∧ -ret.toInt ≤ 0) ∧ Imp (-a.toInt ≤ 0 ∧ a.toInt - 3 ≤ 0 ∧ -b.toInt ≤ 0 ∧ b.toInt - 3 ≤ 0 ∧ c.toInt - 60 ≤ 0 ∧ c.toInt + 1 ≤ 0) (ret.toInt + 3 ≤ 0 ∧ -ret.toInt - 3 ≤ 0) ∧ Imp (a.toInt + 1 ≤ 0) (ret.toInt + 2 ≤ 0 ∧ -ret.toInt - 2 ≤ 0) ∧ Imp (-a.toInt + 4 ≤ 0) (ret.toInt + 2 ≤ 0 ∧ -ret.toInt - 2 ≤ 0) ∧ Imp (b.toInt + 1 ≤ 0) (ret.toInt + 2 ≤ 0 ∧ -ret.toInt - 2 ≤ 0) ∧ Imp (-b.toInt + 4 ≤ 0) (ret.toInt + 2 ≤ 0 ∧ -ret.toInt - 2 ≤ 0) ∧ Imp (-c.toInt + 61 ≤ 0) (ret.toInt + 2 ≤ 0 ∧ -ret.toInt - 2 ≤ 0)
set_option maxRecDepth 10000 in
set_option maxHeartbeats 4000000 in
theorem c_165x (σ0 : SG) (hσ0 : WT σ0) (a : Int32) (b : Int32) (c : Int32) (p : Nat) (hp : TG p = 18) (h_p : (σ0 0)[9]? = some (.ref p)) (sg : Int32) (h_sg : (σ0 p)[1]? = some (.int sg)) (hp0 : -sg.toInt ≤ 0) : En 2 46 none mr_165 (P_165x σ0 a b c p sg) 0 [(0, .ref 0), (1, .int a), (2, .int b), (3, .int c)] [] σ0 := by
  obtain ⟨hl_sg, hu_sg⟩ := WT_int hσ0 (g := 18) hp (by decide +kernel) (l := (-1)) (u := 4) (by decide +kernel) h_sg
  have hF0 : Fr [(33, 1), (33, 2), (33, 3), (34, 0)] σ0 σ0 := Fr_rfl
  refine En_Ps 1 (pc' := 1) (lv' := [(0, .ref 0), (1, .int a), (2, .int b), (3, .int c)]) (st' := [.int a]) rfl ?_
  refine En_callS rfl rfl rfl rfl rfl rfl rfl rfl rfl (c_147 σ0 hσ0 a) (by decide) (by decide) (fun v2 σ3 h1 => ?_)
  obtain ⟨h4, h5, z7, rfl, h6⟩ := h1
  have h8 := Fr_trans hF0 h5 (by decide +kernel)
  refine En_iEq _ rfl rfl (fun h9 => ?_) (fun h9 => ?_)
  · refine En_Ps 1 (pc' := 24) (lv' := [(0, .ref 0), (1, .int a), (2, .int b), (3, .int c)]) (st' := [.int (((Int8.ofInt (-2)).toInt32))]) rfl ?_
    refine En_top (by decide : ((Int8.ofInt (-2)).toInt32).toInt = -2) (fun z10 h11 => ?_)
    exact En_ret (v := some (.int z10)) rfl rfl rfl ⟨h4, h8, z10, rfl, ⟨by omega, by omega, fun _ => by omega, fun _ => by omega, fun _ => by omega, fun _ => by omega, fun _ => by omega, fun _ => by omega, fun _ => by omega⟩⟩
  · refine En_Ps 1 (pc' := 8) (lv' := [(0, .ref 0), (1, .int a), (2, .int b), (3, .int c)]) (st' := [.int b]) rfl ?_
    refine En_iLt _ rfl rfl (fun h12 => ?_) (fun h12 => ?_)
    · refine En_Ps 1 (pc' := 24) (lv' := [(0, .ref 0), (1, .int a), (2, .int b), (3, .int c)]) (st' := [.int (((Int8.ofInt (-2)).toInt32))]) rfl ?_
      refine En_top (by decide : ((Int8.ofInt (-2)).toInt32).toInt = -2) (fun z13 h14 => ?_)
      exact En_ret (v := some (.int z13)) rfl rfl rfl ⟨h4, h8, z13, rfl, ⟨by omega, by omega, fun _ => by omega, fun _ => by omega, fun _ => by omega, fun _ => by omega, fun _ => by omega, fun _ => by omega, fun _ => by omega⟩⟩
    · refine En_Ps 2 (pc' := 13) (lv' := [(0, .ref 0), (1, .int a), (2, .int b), (3, .int c)]) (st' := [.int ((Int32.ofInt 4)), .int b]) rfl ?_
      refine En_icGe _ rfl (by decide : (Int32.ofInt 4).toInt = 4) rfl (fun h15 => ?_) (fun h15 => ?_)
      · refine En_Ps 1 (pc' := 24) (lv' := [(0, .ref 0), (1, .int a), (2, .int b), (3, .int c)]) (st' := [.int (((Int8.ofInt (-2)).toInt32))]) rfl ?_
        refine En_top (by decide : ((Int8.ofInt (-2)).toInt32).toInt = -2) (fun z16 h17 => ?_)
        exact En_ret (v := some (.int z16)) rfl rfl rfl ⟨h4, h8, z16, rfl, ⟨by omega, by omega, fun _ => by omega, fun _ => by omega, fun _ => by omega, fun _ => by omega, fun _ => by omega, fun _ => by omega, fun _ => by omega⟩⟩
      · refine En_Ps 2 (pc' := 19) (lv' := [(0, .ref 0), (1, .int a), (2, .int b), (3, .int c)]) (st' := [.int (((Int8.ofInt 60).toInt32)), .int c]) rfl ?_
        refine En_icLe _ rfl (by decide : ((Int8.ofInt 60).toInt32).toInt = 60) rfl (fun h18 => ?_) (fun h18 => ?_)
        · refine En_Ps 1 (pc' := 26) (lv' := [(0, .ref 0), (1, .int a), (2, .int b), (3, .int c)]) (st' := [.int c]) rfl ?_
          refine En_iGe _ rfl rfl (fun h19 => ?_) (fun h19 => ?_)
          · refine En_Ps 1 (pc' := 33) (lv' := [(0, .ref 0), (1, .int a), (2, .int b), (3, .int c)]) (st' := [.ref 0]) rfl ?_
            refine En_getU (j := 6) (u := 150) (g' := 32) (q := 0) rfl rfl rfl (by decide +kernel : TG 0 = 0) (by decide +kernel) h4 (by decide +kernel) (by decide +kernel) (fun h20 => ?_)
            refine En_Ps 1 (pc' := 37) (lv' := [(0, .ref 0), (1, .int a), (2, .int b), (3, .int c)]) (st' := [.int a, .ref 150]) rfl ?_
            refine En_aald (g' := 33) (u := 0) rfl rfl (by decide +kernel : TG 150 = 32) (by decide +kernel) h4 (by omega) (lnI (by decide +kernel : LN _ = 4) (by omega)) (FTsgl (by decide +kernel)) (fun a23 h22 ha23 => ?_)
            refine En_Ps 2 (pc' := 40) (lv' := [(0, .ref 0), (1, .int a), (2, .int b), (3, .int c)]) (st' := [.int c, .int b, .ref a23]) rfl ?_
            refine En_callV rfl rfl rfl rfl rfl rfl rfl rfl ha23 (by decide +kernel) rfl (c_84 σ3 h4 a23 ha23 b c (geI rfl (by omega)) (leI rfl (by omega)) (geI rfl (by omega)) (leI rfl (by omega))) (by decide) (by decide) (fun v25 σ26 h24 => ?_)
            obtain ⟨h27, h28, rfl, h29⟩ := h24
            have h30 := Fr_trans h8 h28 (by decide +kernel)
            refine En_Ps 1 (pc' := 44) (lv' := [(0, .ref 0), (1, .int a), (2, .int b), (3, .int c)]) (st' := [.int ((Int32.ofInt 0))]) rfl ?_
            refine En_top (by decide : (Int32.ofInt 0).toInt = 0) (fun z31 h32 => ?_)
            exact En_ret (v := some (.int z31)) rfl rfl rfl ⟨h27, h30, z31, rfl, ⟨by omega, by omega, fun _ => by omega, fun _ => by omega, fun _ => by omega, fun _ => by omega, fun _ => by omega, fun _ => by omega, fun _ => by omega⟩⟩
          · refine En_Ps 1 (pc' := 31) (lv' := [(0, .ref 0), (1, .int a), (2, .int b), (3, .int c)]) (st' := [.int (((Int8.ofInt (-3)).toInt32))]) rfl ?_
            refine En_top (by decide : ((Int8.ofInt (-3)).toInt32).toInt = -3) (fun z33 h34 => ?_)
            exact En_ret (v := some (.int z33)) rfl rfl rfl ⟨h4, h8, z33, rfl, ⟨by omega, by omega, fun _ => by omega, fun _ => by omega, fun _ => by omega, fun _ => by omega, fun _ => by omega, fun _ => by omega, fun _ => by omega⟩⟩
        · refine En_Ps 1 (pc' := 24) (lv' := [(0, .ref 0), (1, .int a), (2, .int b), (3, .int c)]) (st' := [.int (((Int8.ofInt (-2)).toInt32))]) rfl ?_
          refine En_top (by decide : ((Int8.ofInt (-2)).toInt32).toInt = -2) (fun z35 h36 => ?_)
          exact En_ret (v := some (.int z35)) rfl rfl rfl ⟨h4, h8, z35, rfl, ⟨by omega, by omega, fun _ => by omega, fun _ => by omega, fun _ => by omega, fun _ => by omega, fun _ => by omega, fun _ => by omega, fun _ => by omega⟩⟩
/-- DoorSchool.rule(II)I -/
abbrev P_166x (σ0 : SG) (Wv : Int → Int) (a : Int32) (b : Int32) (p : Nat) (sg : Int32) : PO := fun v σ => WT σ ∧ Fr [] σ0 σ ∧ ∃ ret : Int32, v = some (.int ret) ∧ -ret.toInt - 2 ≤ 0 ∧ ret.toInt - 80 ≤ 0 ∧ ret.toInt = ruR Wv a.toInt b.toInt
set_option maxRecDepth 10000 in
set_option maxHeartbeats 4000000 in
theorem c_166x {Wv : Int → Int} (σ0 : SG) (hσ0 : WT σ0) (a : Int32) (b : Int32) (p : Nat) (hp : TG p = 18) (h_p : (σ0 0)[9]? = some (.ref p)) (sg : Int32) (h_sg : (σ0 p)[1]? = some (.int sg)) (hp0 : -sg.toInt ≤ 0) (hP : PLA p) (hX : FXP σ0 p) (hK : KN σ0 p Wv (act Wv)) (hB : WFw Wv) (hT : TWN Wv) (hQ : 0 < Wv 7 → RULx σ0 (Wv 0)) (hq : QX Wv) : En 2 45 none mr_166 (P_166x σ0 Wv a b p sg) 0 [(0, .ref 0), (1, .int a), (2, .int b)] [] σ0 := by
  obtain ⟨hl_sg, hu_sg⟩ := WT_int hσ0 (g := 18) hp (by decide +kernel) (l := (-1)) (u := 4) (by decide +kernel) h_sg
  have hF0 : Fr [] σ0 σ0 := Fr_rfl
  have t1 : Wv (0) = sg.toInt := KN_v hK (Or.inl (by decide)) (by omega) (by omega) (by rw [lcO_lt (by decide) (by decide), Nat.add_zero]) rfl h_sg
  obtain ⟨z3, h2, h4, h5⟩ := WT_peekI hσ0 hp (by decide +kernel : FT 18 3 = (0, 0, 4)) (by decide +kernel)
  have t6 : Wv (2) = z3.toInt := KN_v hK (Or.inl (by decide)) (by omega) (by omega) (by rw [lcO_lt (by decide) (by decide), Nat.add_zero]) rfl h2
  have h7 := hB.2.2.1
  have h8 := hB.1
  have h9 := hB.2.1
  refine En_Ps 1 (pc' := 1) (lv' := [(0, .ref 0), (1, .int a), (2, .int b)]) (st' := [.ref 0]) rfl ?_
  refine En_getK (j := 9) h_p rfl rfl rfl (by decide +kernel : TG 0 = 0) (by decide +kernel) ?_
  refine En_Ps 1 (pc' := 5) (lv' := [(0, .ref 0), (1, .int a), (2, .int b)]) (st' := [.int a, .ref p]) rfl ?_
  refine En_callV rfl rfl rfl rfl rfl rfl rfl rfl hp (by decide +kernel) rfl (c_47x σ0 hσ0 p hp a z3 h2) (by decide) (by decide) (fun v11 σ12 h10 => ?_)
  obtain ⟨h13, h14, z16, rfl, h15⟩ := h10
  obtain rfl : σ0 = σ12 := Fr_nil h14
  refine En_iEq _ rfl rfl (fun h17 => ?_) (fun h17 => ?_)
  · have h18 := Imp_m h15.2.2.2.2.1 (by omega)
    refine En_Ps 1 (pc' := 22) (lv' := [(0, .ref 0), (1, .int a), (2, .int b)]) (st' := [.int (((Int8.ofInt (-2)).toInt32))]) rfl ?_
    refine En_top (by decide : ((Int8.ofInt (-2)).toInt32).toInt = -2) (fun z19 h20 => ?_)
    exact En_ret (v := some (.int z19)) rfl rfl rfl ⟨hσ0, hF0, z19, rfl, ⟨by omega, by omega, ruR_n (fun ⟨q1, q2, q3, q4⟩ => by omega) (by omega)⟩⟩
  · have h21 := Imp_m h15.2.2.1 (by omega)
    have h22 := Imp_m h15.2.2.2.1 (by omega)
    have h23 := Imp_m h15.2.2.2.2.2 (by omega)
    refine En_Ps 1 (pc' := 12) (lv' := [(0, .ref 0), (1, .int a), (2, .int b)]) (st' := [.int b]) rfl ?_
    refine En_iLt _ rfl rfl (fun h24 => ?_) (fun h24 => ?_)
    · refine En_Ps 1 (pc' := 22) (lv' := [(0, .ref 0), (1, .int a), (2, .int b)]) (st' := [.int (((Int8.ofInt (-2)).toInt32))]) rfl ?_
      refine En_top (by decide : ((Int8.ofInt (-2)).toInt32).toInt = -2) (fun z25 h26 => ?_)
      exact En_ret (v := some (.int z25)) rfl rfl rfl ⟨hσ0, hF0, z25, rfl, ⟨by omega, by omega, ruR_n (fun ⟨q1, q2, q3, q4⟩ => by omega) (by omega)⟩⟩
    · refine En_Ps 2 (pc' := 17) (lv' := [(0, .ref 0), (1, .int a), (2, .int b)]) (st' := [.int ((Int32.ofInt 2)), .int b]) rfl ?_
      refine En_icLe _ rfl (by decide : (Int32.ofInt 2).toInt = 2) rfl (fun h27 => ?_) (fun h27 => ?_)
      · refine En_Ps 1 (pc' := 24) (lv' := [(0, .ref 0), (1, .int a), (2, .int b)]) (st' := [.ref 0]) rfl ?_
        refine En_getK (j := 9) h_p rfl rfl rfl (by decide +kernel : TG 0 = 0) (by decide +kernel) ?_
        refine En_getR (j := 4) (g' := 19) (u := 0) rfl rfl rfl hp (by decide +kernel) hσ0 (by decide +kernel) (fun a29 h28 ha29 => ?_)
        have t30 : a29 = p + 1 := ref_uniq h28 (FXP_fr hP hX hF0 (by decide +kernel)).1
        refine En_Ps 1 (pc' := 31) (lv' := [(0, .ref 0), (1, .int a), (2, .int b)]) (st' := [.int a, .ref a29]) rfl ?_
        refine En_aald (g' := 28) (u := 0) rfl rfl ha29 (by decide +kernel) hσ0 (by omega) (lnI (by decide +kernel : LN _ = 4) (by omega)) (FTsgl (by decide +kernel)) (fun a32 h31 ha32 => ?_)
        have t33 : a32 = p + 10 + 4 * (a.toInt).toNat := DRe (d := a.toInt) (FXP_fr hP hX hF0 (by decide +kernel)) t30 h31 (by omega) (by omega)
        have t34 := lc_d (d := a.toInt) (by omega) (by omega)
        refine En_getR (j := 0) (g' := 20) (u := 0) rfl rfl rfl ha32 (by decide +kernel) hσ0 (by decide +kernel) (fun a36 h35 ha36 => ?_)
        have t37 : a36 = p + 11 + 4 * (a.toInt).toNat := DLc (d := a.toInt) (FXP_fr hP hX hF0 (by decide +kernel)) t33 h35 (by omega) (by omega)
        refine En_Ps 1 (pc' := 36) (lv' := [(3, .ref a36), (0, .ref 0), (1, .int a), (2, .int b)]) (st' := []) rfl ?_
        obtain ⟨z39, h38, h40, h41⟩ := WT_peekI hσ0 (by decide +kernel : TG 4 = 4) (by decide +kernel : FT 4 0 = (0, 0, 16)) (by decide +kernel)
        obtain ⟨z43, h42, h44, h45⟩ := WT_peekI hσ0 (by decide +kernel : TG 4 = 4) (by decide +kernel : FT 4 1 = (0, 0, 81)) (by decide +kernel)
        have h46 : z39.toInt = pI (Wv 0) := (ci_at (j := 0) h38 rfl).symm.trans (hQ (hq (by omega))).1
        have h47 : z43.toInt = nR (Wv 0) := (ci_at (j := 1) h42 rfl).symm.trans (hQ (hq (by omega))).2.1
        have h48 := pI_rng (s := Wv 0) (by omega) (by omega)
        have h49 := nR_rg (s := Wv 0) (by omega) (by omega)
        have h50 := hB.2.2.2.2.2.2 (a.toInt) (by omega) (by omega)
        refine En_Ps 1 (pc' := 37) (lv' := [(3, .ref a36), (0, .ref 0), (1, .int a), (2, .int b)]) (st' := [.ref 0]) rfl ?_
        refine En_getU (j := 2) (u := 4) (g' := 4) (q := 0) rfl rfl rfl (by decide +kernel : TG 0 = 0) (by decide +kernel) hσ0 (by decide +kernel) (by decide +kernel) (fun h51 => ?_)
        refine En_Ps 2 (pc' := 42) (lv' := [(3, .ref a36), (0, .ref 0), (1, .int a), (2, .int b)]) (st' := [.int ((Int32.ofInt 1)), .ref a36, .ref 4]) rfl ?_
        obtain ⟨a54, h53, ha54⟩ := WT_peekR (g := 20) (j := 0) (g' := 21) (u := 0) hσ0 ha36 (by decide +kernel) (by decide +kernel)
        have t55 : a54 = p + 12 + 4 * (a.toInt).toNat := DKk (d := a.toInt) (FXP_fr hP hX hF0 (by decide +kernel)) t37 h53 (by omega) (by omega)
        obtain ⟨a57, h56, ha57⟩ := WT_peekR (g := 20) (j := 1) (g' := 22) (u := 0) hσ0 ha36 (by decide +kernel) (by decide +kernel)
        have t58 : a57 = p + 13 + 4 * (a.toInt).toNat := DKo (d := a.toInt) (FXP_fr hP hX hF0 (by decide +kernel)) t37 h56 (by omega) (by omega)
        obtain ⟨z60, h59, h61, h62⟩ := WT_peekI hσ0 ha36 (by decide +kernel : FT 20 2 = (0, 0, 13)) (by decide +kernel)
        have t63 : Wv (12 + 4 * (a.toInt)) = z60.toInt := KN_v hK (Or.inr (Or.inl ⟨by omega, by omega, by omega⟩)) (by omega) (by omega) (by omega) (by omega) h59
        have := (by decide : ((Int32.ofInt 1)).toInt = 1)
        refine En_callV rfl rfl rfl rfl rfl rfl rfl rfl ha36 (by decide +kernel) rfl (c_39x σ0 hσ0 a36 ha36 ((Int32.ofInt 1)) a54 ha54 h53 a57 ha57 h56 z60 h59) (by decide) (by decide) (fun v65 σ66 h64 => ?_)
        obtain ⟨h67, h68, z70, rfl, h69⟩ := h64
        have h71 := h69.2.2
        obtain rfl : σ0 = σ66 := Fr_nil h68
        refine En_Ps 2 (pc' := 47) (lv' := [(3, .ref a36), (0, .ref 0), (1, .int a), (2, .int b)]) (st' := [.int ((Int32.ofInt 0)), .ref a36, .int z70, .ref 4]) rfl ?_
        have := (by decide : ((Int32.ofInt 0)).toInt = 0)
        refine En_callV rfl rfl rfl rfl rfl rfl rfl rfl ha36 (by decide +kernel) rfl (c_39x σ0 hσ0 a36 ha36 ((Int32.ofInt 0)) a54 ha54 h53 a57 ha57 h56 z60 h59) (by decide) (by decide) (fun v73 σ74 h72 => ?_)
        obtain ⟨h75, h76, z78, rfl, h77⟩ := h72
        have h79 := h77.2.2
        obtain rfl : σ0 = σ74 := Fr_nil h76
        refine En_callV rfl rfl rfl rfl rfl rfl rfl rfl (by decide +kernel : TG 4 = 4) (by decide +kernel) rfl (c_78x σ0 hσ0 z70 z78 (geI rfl (by omega)) (leI rfl (by omega)) (geI rfl (by omega)) (leI rfl (by omega)) z43 h42 (fun i i0 i1 => TB_rg (hQ (hq (by omega))).2.2 (by omega) i i0 (by omega))) (by decide) (by decide) (fun v81 σ82 h80 => ?_)
        obtain ⟨h83, h84, z86, rfl, h85⟩ := h80
        have h87 := h85.2.2
        obtain rfl : σ0 = σ82 := Fr_nil h84
        have h88 := FIR_ag (fun i i0 i1 => TB_rg (hQ (hq (by omega))).2.2 (by omega) i i0 (by omega)) (by omega) (fun i i0 i1 => row_rg (n := 13) (l := 0) (u := 15) hσ0 ha54 (by decide +kernel) i i0 (by omega)) (fun i i0 i1 => row_rg (n := 13) (l := 0) (u := 1) hσ0 ha57 (by decide +kernel) i i0 (by omega)) h71 h79 h87
        have h89 : z86.toInt = fr1 Wv a.toInt := fr1_of t63 h47 (KN_lk hK (by omega) (by omega) (by omega) t63.symm (by omega) t55) (KN_lo hK (by omega) (by omega) (by omega) t63.symm (by omega) t58) (fun i i0 i1 => TB_D (hQ (hq (by omega))).2.2 i i0 (by omega)) h88
        have h90 := fr1_rg (w := Wv) (d := a.toInt)
        refine En_Ps 3 (pc' := 58) (lv' := [(4, .int z86), (3, .ref a36), (0, .ref 0), (1, .int a), (2, .int b)]) (st' := [.int ((Int32.ofInt (-1))), .int z86]) rfl ?_
        refine En_icEq _ rfl (by decide : (Int32.ofInt (-1)).toInt = -1) rfl (fun h91 => ?_) (fun h91 => ?_)
        · refine En_Ps 1 (pc' := 68) (lv' := [(4, .int z86), (3, .ref a36), (0, .ref 0), (1, .int a), (2, .int b)]) (st' := [.int z86]) rfl ?_
          exact En_ret (v := some (.int z86)) rfl rfl rfl ⟨hσ0, hF0, z86, rfl, ⟨by omega, by omega, ruR_y ⟨by omega, by omega, by omega, by omega⟩ h89 (pkR_1 (by omega) (by omega))⟩⟩
        · refine En_Ps 2 (pc' := 63) (lv' := [(4, .int z86), (3, .ref a36), (0, .ref 0), (1, .int a), (2, .int b)]) (st' := [.int ((Int32.ofInt 2)), .int b]) rfl ?_
          refine En_icNe _ rfl (by decide : (Int32.ofInt 2).toInt = 2) rfl (fun h92 => ?_) (fun h92 => ?_)
          · refine En_Ps 1 (pc' := 70) (lv' := [(4, .int z86), (3, .ref a36), (0, .ref 0), (1, .int a), (2, .int b)]) (st' := [.int b]) rfl ?_
            refine En_iNe _ rfl rfl (fun h93 => ?_) (fun h93 => ?_)
            · refine En_Ps 1 (pc' := 87) (lv' := [(4, .int z86), (3, .ref a36), (0, .ref 0), (1, .int a), (2, .int b)]) (st' := [.ref 0]) rfl ?_
              refine En_getK (j := 2) h51 rfl rfl rfl (by decide +kernel : TG 0 = 0) (by decide +kernel) ?_
              refine En_getU (j := 3) (u := 6) (g' := 6) (q := 0) rfl rfl rfl (by decide +kernel : TG 4 = 4) (by decide +kernel) hσ0 (by decide +kernel) (by decide +kernel) (fun h94 => ?_)
              refine En_Ps 1 (pc' := 95) (lv' := [(4, .int z86), (3, .ref a36), (0, .ref 0), (1, .int a), (2, .int b)]) (st' := [.int z86, .ref 6]) rfl ?_
              refine En_iald (l := 0) (u := 15) rfl rfl (by decide +kernel : TG 6 = 6) (by decide +kernel) hσ0 (by omega) (lnI (by decide +kernel : LN _ = 81) (by omega)) (FTsgl (by decide +kernel)) (fun z97 h96 h98 h99 => ?_)
              have h100 : ci σ0 6 (z86.toInt) = z97.toInt := ci_at h96 rfl
              exact En_ret (v := some (.int z97)) rfl rfl rfl ⟨hσ0, hF0, z97, rfl, ⟨by omega, by omega, ruR_y ⟨by omega, by omega, by omega, by omega⟩ h89 (pkR_V (by omega) (by omega) (by omega) (h100.symm.trans (TB_MV (hQ (hq (by omega))).2.2 (by omega) (by omega)).2))⟩⟩
            · refine En_Ps 1 (pc' := 74) (lv' := [(4, .int z86), (3, .ref a36), (0, .ref 0), (1, .int a), (2, .int b)]) (st' := [.ref 0]) rfl ?_
              refine En_getK (j := 2) h51 rfl rfl rfl (by decide +kernel : TG 0 = 0) (by decide +kernel) ?_
              refine En_getU (j := 2) (u := 5) (g' := 5) (q := 0) rfl rfl rfl (by decide +kernel : TG 4 = 4) (by decide +kernel) hσ0 (by decide +kernel) (by decide +kernel) (fun h101 => ?_)
              refine En_Ps 1 (pc' := 82) (lv' := [(4, .int z86), (3, .ref a36), (0, .ref 0), (1, .int a), (2, .int b)]) (st' := [.int z86, .ref 5]) rfl ?_
              refine En_iald (l := 0) (u := 15) rfl rfl (by decide +kernel : TG 5 = 5) (by decide +kernel) hσ0 (by omega) (lnI (by decide +kernel : LN _ = 81) (by omega)) (FTsgl (by decide +kernel)) (fun z104 h103 h105 h106 => ?_)
              have h107 : ci σ0 5 (z86.toInt) = z104.toInt := ci_at h103 rfl
              refine En_Ps 1 (pc' := 96) (lv' := [(4, .int z86), (3, .ref a36), (0, .ref 0), (1, .int a), (2, .int b)]) (st' := [.int z104]) rfl ?_
              exact En_ret (v := some (.int z104)) rfl rfl rfl ⟨hσ0, hF0, z104, rfl, ⟨by omega, by omega, ruR_y ⟨by omega, by omega, by omega, by omega⟩ h89 (pkR_M (by omega) (by omega) (h107.symm.trans (TB_MV (hQ (hq (by omega))).2.2 (by omega) (by omega)).1))⟩⟩
          · refine En_Ps 1 (pc' := 68) (lv' := [(4, .int z86), (3, .ref a36), (0, .ref 0), (1, .int a), (2, .int b)]) (st' := [.int z86]) rfl ?_
            exact En_ret (v := some (.int z86)) rfl rfl rfl ⟨hσ0, hF0, z86, rfl, ⟨by omega, by omega, ruR_y ⟨by omega, by omega, by omega, by omega⟩ h89 (pkR_1 (by omega) (by omega))⟩⟩
      · refine En_Ps 1 (pc' := 22) (lv' := [(0, .ref 0), (1, .int a), (2, .int b)]) (st' := [.int (((Int8.ofInt (-2)).toInt32))]) rfl ?_
        refine En_top (by decide : ((Int8.ofInt (-2)).toInt32).toInt = -2) (fun z108 h109 => ?_)
        exact En_ret (v := some (.int z108)) rfl rfl rfl ⟨hσ0, hF0, z108, rfl, ⟨by omega, by omega, ruR_n (fun ⟨q1, q2, q3, q4⟩ => by omega) (by omega)⟩⟩
/-- DoorSchool.rules(I)I -/
abbrev P_167x (σ0 : SG) (Wv : Int → Int) (a : Int32) (p : Nat) (sg : Int32) : PO := fun v σ => WT σ ∧ Fr [] σ0 σ ∧ ∃ ret : Int32, v = some (.int ret) ∧ -ret.toInt - 2 ≤ 0 ∧ ret.toInt - 81 ≤ 0 ∧ ret.toInt = rsR Wv a.toInt
set_option maxRecDepth 10000 in
set_option maxHeartbeats 4000000 in
theorem c_167x {Wv : Int → Int} (σ0 : SG) (hσ0 : WT σ0) (a : Int32) (p : Nat) (hp : TG p = 18) (h_p : (σ0 0)[9]? = some (.ref p)) (sg : Int32) (h_sg : (σ0 p)[1]? = some (.int sg)) (hp0 : -sg.toInt ≤ 0) (hP : PLA p) (hX : FXP σ0 p) (hK : KN σ0 p Wv (act Wv)) (hB : WFw Wv) (hT : TWN Wv) (hQ : 0 < Wv 7 → RULx σ0 (Wv 0)) (hq : QX Wv) : En 2 46 none mr_167 (P_167x σ0 Wv a p sg) 0 [(0, .ref 0), (1, .int a)] [] σ0 := by
  obtain ⟨hl_sg, hu_sg⟩ := WT_int hσ0 (g := 18) hp (by decide +kernel) (l := (-1)) (u := 4) (by decide +kernel) h_sg
  have hF0 : Fr [] σ0 σ0 := Fr_rfl
  have t1 : Wv (0) = sg.toInt := KN_v hK (Or.inl (by decide)) (by omega) (by omega) (by rw [lcO_lt (by decide) (by decide), Nat.add_zero]) rfl h_sg
  obtain ⟨z3, h2, h4, h5⟩ := WT_peekI hσ0 hp (by decide +kernel : FT 18 3 = (0, 0, 4)) (by decide +kernel)
  have t6 : Wv (2) = z3.toInt := KN_v hK (Or.inl (by decide)) (by omega) (by omega) (by rw [lcO_lt (by decide) (by decide), Nat.add_zero]) rfl h2
  have h7 := hB.2.2.1
  have h8 := hB.1
  have h9 := hB.2.1
  refine En_Ps 1 (pc' := 1) (lv' := [(0, .ref 0), (1, .int a)]) (st' := [.ref 0]) rfl ?_
  refine En_getK (j := 9) h_p rfl rfl rfl (by decide +kernel : TG 0 = 0) (by decide +kernel) ?_
  refine En_Ps 1 (pc' := 5) (lv' := [(0, .ref 0), (1, .int a)]) (st' := [.int a, .ref p]) rfl ?_
  refine En_callV rfl rfl rfl rfl rfl rfl rfl rfl hp (by decide +kernel) rfl (c_47x σ0 hσ0 p hp a z3 h2) (by decide) (by decide) (fun v11 σ12 h10 => ?_)
  obtain ⟨h13, h14, z16, rfl, h15⟩ := h10
  obtain rfl : σ0 = σ12 := Fr_nil h14
  refine En_iNe _ rfl rfl (fun h17 => ?_) (fun h17 => ?_)
  · have h18 := Imp_m h15.2.2.1 (by omega)
    have h19 := Imp_m h15.2.2.2.1 (by omega)
    have h20 := Imp_m h15.2.2.2.2.2 (by omega)
    refine En_Ps 1 (pc' := 15) (lv' := [(0, .ref 0), (1, .int a)]) (st' := [.ref 0]) rfl ?_
    refine En_getK (j := 9) h_p rfl rfl rfl (by decide +kernel : TG 0 = 0) (by decide +kernel) ?_
    refine En_getR (j := 4) (g' := 19) (u := 0) rfl rfl rfl hp (by decide +kernel) hσ0 (by decide +kernel) (fun a22 h21 ha22 => ?_)
    have t23 : a22 = p + 1 := ref_uniq h21 (FXP_fr hP hX hF0 (by decide +kernel)).1
    refine En_Ps 1 (pc' := 22) (lv' := [(0, .ref 0), (1, .int a)]) (st' := [.int a, .ref a22]) rfl ?_
    refine En_aald (g' := 28) (u := 0) rfl rfl ha22 (by decide +kernel) hσ0 (by omega) (lnI (by decide +kernel : LN _ = 4) (by omega)) (FTsgl (by decide +kernel)) (fun a25 h24 ha25 => ?_)
    have t26 : a25 = p + 10 + 4 * (a.toInt).toNat := DRe (d := a.toInt) (FXP_fr hP hX hF0 (by decide +kernel)) t23 h24 (by omega) (by omega)
    have t27 := lc_d (d := a.toInt) (by omega) (by omega)
    refine En_getR (j := 0) (g' := 20) (u := 0) rfl rfl rfl ha25 (by decide +kernel) hσ0 (by decide +kernel) (fun a29 h28 ha29 => ?_)
    have t30 : a29 = p + 11 + 4 * (a.toInt).toNat := DLc (d := a.toInt) (FXP_fr hP hX hF0 (by decide +kernel)) t26 h28 (by omega) (by omega)
    refine En_Ps 1 (pc' := 27) (lv' := [(2, .ref a29), (0, .ref 0), (1, .int a)]) (st' := []) rfl ?_
    obtain ⟨z32, h31, h33, h34⟩ := WT_peekI hσ0 (by decide +kernel : TG 4 = 4) (by decide +kernel : FT 4 0 = (0, 0, 16)) (by decide +kernel)
    obtain ⟨z36, h35, h37, h38⟩ := WT_peekI hσ0 (by decide +kernel : TG 4 = 4) (by decide +kernel : FT 4 1 = (0, 0, 81)) (by decide +kernel)
    have h39 : z32.toInt = pI (Wv 0) := (ci_at (j := 0) h31 rfl).symm.trans (hQ (hq (by omega))).1
    have h40 : z36.toInt = nR (Wv 0) := (ci_at (j := 1) h35 rfl).symm.trans (hQ (hq (by omega))).2.1
    have h41 := pI_rng (s := Wv 0) (by omega) (by omega)
    have h42 := nR_rg (s := Wv 0) (by omega) (by omega)
    have h43 := hB.2.2.2.2.2.2 (a.toInt) (by omega) (by omega)
    refine En_Ps 1 (pc' := 28) (lv' := [(2, .ref a29), (0, .ref 0), (1, .int a)]) (st' := [.ref 0]) rfl ?_
    refine En_getU (j := 2) (u := 4) (g' := 4) (q := 0) rfl rfl rfl (by decide +kernel : TG 0 = 0) (by decide +kernel) hσ0 (by decide +kernel) (by decide +kernel) (fun h44 => ?_)
    refine En_Ps 2 (pc' := 33) (lv' := [(2, .ref a29), (0, .ref 0), (1, .int a)]) (st' := [.int ((Int32.ofInt 1)), .ref a29, .ref 4]) rfl ?_
    obtain ⟨a47, h46, ha47⟩ := WT_peekR (g := 20) (j := 0) (g' := 21) (u := 0) hσ0 ha29 (by decide +kernel) (by decide +kernel)
    have t48 : a47 = p + 12 + 4 * (a.toInt).toNat := DKk (d := a.toInt) (FXP_fr hP hX hF0 (by decide +kernel)) t30 h46 (by omega) (by omega)
    obtain ⟨a50, h49, ha50⟩ := WT_peekR (g := 20) (j := 1) (g' := 22) (u := 0) hσ0 ha29 (by decide +kernel) (by decide +kernel)
    have t51 : a50 = p + 13 + 4 * (a.toInt).toNat := DKo (d := a.toInt) (FXP_fr hP hX hF0 (by decide +kernel)) t30 h49 (by omega) (by omega)
    obtain ⟨z53, h52, h54, h55⟩ := WT_peekI hσ0 ha29 (by decide +kernel : FT 20 2 = (0, 0, 13)) (by decide +kernel)
    have t56 : Wv (12 + 4 * (a.toInt)) = z53.toInt := KN_v hK (Or.inr (Or.inl ⟨by omega, by omega, by omega⟩)) (by omega) (by omega) (by omega) (by omega) h52
    have := (by decide : ((Int32.ofInt 1)).toInt = 1)
    refine En_callV rfl rfl rfl rfl rfl rfl rfl rfl ha29 (by decide +kernel) rfl (c_39x σ0 hσ0 a29 ha29 ((Int32.ofInt 1)) a47 ha47 h46 a50 ha50 h49 z53 h52) (by decide) (by decide) (fun v58 σ59 h57 => ?_)
    obtain ⟨h60, h61, z63, rfl, h62⟩ := h57
    have h64 := h62.2.2
    obtain rfl : σ0 = σ59 := Fr_nil h61
    refine En_Ps 2 (pc' := 38) (lv' := [(2, .ref a29), (0, .ref 0), (1, .int a)]) (st' := [.int ((Int32.ofInt 0)), .ref a29, .int z63, .ref 4]) rfl ?_
    have := (by decide : ((Int32.ofInt 0)).toInt = 0)
    refine En_callV rfl rfl rfl rfl rfl rfl rfl rfl ha29 (by decide +kernel) rfl (c_39x σ0 hσ0 a29 ha29 ((Int32.ofInt 0)) a47 ha47 h46 a50 ha50 h49 z53 h52) (by decide) (by decide) (fun v66 σ67 h65 => ?_)
    obtain ⟨h68, h69, z71, rfl, h70⟩ := h65
    have h72 := h70.2.2
    obtain rfl : σ0 = σ67 := Fr_nil h69
    refine En_callV rfl rfl rfl rfl rfl rfl rfl rfl (by decide +kernel : TG 4 = 4) (by decide +kernel) rfl (c_79x σ0 hσ0 z63 z71 (geI rfl (by omega)) (leI rfl (by omega)) (geI rfl (by omega)) (leI rfl (by omega)) z36 h35 (fun i i0 i1 => TB_rg (hQ (hq (by omega))).2.2 (by omega) i i0 (by omega))) (by decide) (by decide) (fun v74 σ75 h73 => ?_)
    obtain ⟨h76, h77, z79, rfl, h78⟩ := h73
    have h80 := h78.2.2
    obtain rfl : σ0 = σ75 := Fr_nil h77
    have h81 := CNT_ag (fun i i0 i1 => TB_rg (hQ (hq (by omega))).2.2 (by omega) i i0 (by omega)) (by omega) (fun i i0 i1 => row_rg (n := 13) (l := 0) (u := 15) hσ0 ha47 (by decide +kernel) i i0 (by omega)) (fun i i0 i1 => row_rg (n := 13) (l := 0) (u := 1) hσ0 ha50 (by decide +kernel) i i0 (by omega)) h64 h72 h80
    have h82 : z79.toInt = fc1 Wv a.toInt := fc1_of t56 h40 (KN_lk hK (by omega) (by omega) (by omega) t56.symm (by omega) t48) (KN_lo hK (by omega) (by omega) (by omega) t56.symm (by omega) t51) (fun i i0 i1 => TB_D (hQ (hq (by omega))).2.2 i i0 (by omega)) h81
    exact En_ret (v := some (.int z79)) rfl rfl rfl ⟨hσ0, hF0, z79, rfl, ⟨by omega, by omega, rsR_y ⟨by omega, by omega⟩ h82⟩⟩
  · have h83 := Imp_m h15.2.2.2.2.1 (by omega)
    refine En_Ps 1 (pc' := 13) (lv' := [(0, .ref 0), (1, .int a)]) (st' := [.int (((Int8.ofInt (-2)).toInt32))]) rfl ?_
    refine En_top (by decide : ((Int8.ofInt (-2)).toInt32).toInt = -2) (fun z84 h85 => ?_)
    exact En_ret (v := some (.int z84)) rfl rfl rfl ⟨hσ0, hF0, z84, rfl, ⟨by omega, by omega, rsR_n (fun ⟨q1, q2⟩ => by omega) (by omega)⟩⟩
/-- DoorSchool.school()I -/
abbrev P_169x (σ0 : SG) (By : Int → Int) (Nb : Int) (p : Nat) (sg : Int32) (p2 : Nat) : PO := fun v σ => WT σ ∧ Fr [(0, 9), (0, 10), (1, 1), (3, 1), (3, 2), (3, 3), (3, 4), (3, 5), (3, 6), (4, 0), (4, 1), (5, 0), (6, 0), (7, 0), (18, 0), (18, 1), (18, 2), (18, 3), (18, 6), (18, 7), (18, 8), (18, 11), (18, 14), (20, 2), (21, 0), (22, 0), (23, 0), (24, 0), (25, 0), (26, 0), (28, 1), (28, 2), (28, 3)] σ0 σ ∧ ∃ m1 : Int32, (σ 1)[1]? = some (.int m1) ∧ ∃ ret : Int32, v = some (.int ret) ∧ OUT σ0 σ p2 ∧ -ret.toInt - 4 ≤ 0 ∧ ret.toInt - 1601 ≤ 0 ∧ -m1.toInt ≤ 0 ∧ m1.toInt ≤ 0 ∧ -m1.toInt + sg.toInt - 4 ≤ 0 ∧ m1.toInt - sg.toInt ≤ 0 ∧ m1.toInt ≤ 0 ∧ -m1.toInt ≤ 0 ∧ ((INVc σ ∧ SCC By Nb σ ret.toInt) ∧ SPL By Nb σ p p2 ∧ RSC By Nb σ0 σ p2)
set_option maxRecDepth 10000 in
set_option maxHeartbeats 4000000 in
theorem c_169x {By : Int → Int} {Nb : Int} (σ0 : SG) (hσ0 : WT σ0) (p : Nat) (hp : TG p = 18) (h_p : (σ0 0)[9]? = some (.ref p)) (sg : Int32) (h_sg : (σ0 p)[1]? = some (.int sg)) (p2 : Nat) (hp2 : TG p2 = 18) (h_p2 : (σ0 0)[10]? = some (.ref p2)) (hp0 : -sg.toInt ≤ 0) (hne : p ≠ p2) (hB : TPc By Nb σ0) (hP2 : PLA p2) (hX2 : FXP σ0 p2) : En 8 181 none mr_169 (P_169x σ0 By Nb p sg p2) 0 [(0, .ref 0)] [] σ0 := by
  obtain ⟨hl_sg, hu_sg⟩ := WT_int hσ0 (g := 18) hp (by decide +kernel) (l := (-1)) (u := 4) (by decide +kernel) h_sg
  have hF0 : Fr [(0, 9), (0, 10), (1, 1), (3, 1), (3, 2), (3, 3), (3, 4), (3, 5), (3, 6), (4, 0), (4, 1), (5, 0), (6, 0), (7, 0), (18, 0), (18, 1), (18, 2), (18, 3), (18, 6), (18, 7), (18, 8), (18, 11), (18, 14), (20, 2), (21, 0), (22, 0), (23, 0), (24, 0), (25, 0), (26, 0), (28, 1), (28, 2), (28, 3)] σ0 σ0 := Fr_rfl
  refine En_Ps 1 (pc' := 1) (lv' := [(0, .ref 0)]) (st' := [.ref 0]) rfl ?_
  refine En_getU (j := 1) (u := 3) (g' := 3) (q := 0) rfl rfl rfl (by decide +kernel : TG 0 = 0) (by decide +kernel) hσ0 (by decide +kernel) (by decide +kernel) (fun h1 => ?_)
  refine En_Ps 1 (pc' := 5) (lv' := [(0, .ref 0)]) (st' := [.ref 0, .ref 3]) rfl ?_
  refine En_getK (j := 10) h_p2 rfl rfl rfl (by decide +kernel : TG 0 = 0) (by decide +kernel) ?_
  refine En_callV rfl rfl rfl rfl rfl rfl rfl rfl (by decide +kernel : TG 3 = 3) (by decide +kernel) rfl (c_60x σ0 hσ0 p2 hp2 hB hP2 hX2) (by decide) (by decide) (fun v4 σ5 h3 => ?_)
  obtain ⟨h6, h7, z9, h10, z11, h12, rfl, h8⟩ := h3
  have h13 := h8.2.2.2.2.2.2
  have h14 := Fr_trans hF0 h7 (by decide +kernel)
  have h15 := RSAM_tr (RSAM_0 (σ := σ0)) (RSAM_fr h7 (by decide +kernel))
  have o16 := OUT_tr OUT_0 h8.1
  obtain ⟨z18, h17, h19, h20⟩ := WT_peekI h6 hp2 (by decide +kernel : FT 18 0 = (0, 0, 1601)) (by decide +kernel)
  obtain ⟨z22, h21, h23, h24⟩ := WT_peekI h6 (by decide +kernel : TG 3 = 3) (by decide +kernel : FT 3 6 = (0, (-1), 1600)) (by decide +kernel)
  have h25 := CT_k h13.2.1 h10
  have h26 : (fRead By Nb 1601 S00).1 = 0 → (fRead By Nb 1601 S00).2.2.2 7 = z18.toInt := fun zz => KN_v (h13.2.2 zz) (Or.inl (by decide)) (by decide) (by decide) (by rw [lcO_lt (by decide) (by decide), Nat.add_zero]) (by decide) h17
  have h27 : (fRead By Nb 1601 S00).2.1 = z22.toInt := h13.2.1.2.2.1.symm.trans (ci_at (j := 6) h21 rfl)
  have h28 : ((fRead By Nb 1601 S00).1 = 0 → KN σ5 p2 (fRead By Nb 1601 S00).2.2.2 (act (fRead By Nb 1601 S00).2.2.2)) := h13.2.2
  refine En_Ps 1 (pc' := 12) (lv' := [(0, .ref 0)]) (st' := [.ref 0]) rfl ?_
  refine En_getU (j := 0) (u := 1) (g' := 1) (q := 0) rfl rfl rfl (by decide +kernel : TG 0 = 0) (by decide +kernel) h6 (by decide +kernel) (by decide +kernel) (fun h29 => ?_)
  refine En_Ps 1 (pc' := 16) (lv' := [(0, .ref 0)]) (st' := [.int ((Int32.ofInt 0)), .ref 1]) rfl ?_
  refine En_put (j := 1) rfl rfl rfl (by decide +kernel : TG 1 = 1) (by decide +kernel) rfl (vI (l := 0) (u := 1600) (by decide +kernel) (by decide : (Int32.ofInt 0).toInt = 0) (by omega) (by omega)) h6 h14 (by decide +kernel) (fun σ31 h32 h33 h34 h35 => ?_)
  have h36 : ((fRead By Nb 1601 S00).1 = 0 → KN σ31 p2 (fRead By Nb 1601 S00).2.2.2 (act (fRead By Nb 1601 S00).2.2.2)) := fun zz => KN_ne (h28 zz) h35 (by have := hP2; unfold PLA at this; omega)
  have h37 := RSAM_ne h15 h35 (by decide)
  have o38 := OUT_pn o16 h35 (by decide +kernel : TG 1 = 1) (by decide)
  refine En_Ps 1 (pc' := 20) (lv' := [(0, .ref 0)]) (st' := [.ref 0]) rfl ?_
  refine En_getK (j := 1) ((h35 _ _ (Or.inl (neTG (by decide +kernel : TG 0 = 0) (by decide +kernel : TG 1 = 1) (by decide)))).trans ((h7 _ _ (inW (by decide +kernel : TG 0 = 0) (by decide +kernel))).trans h1)) rfl rfl rfl (by decide +kernel : TG 0 = 0) (by decide +kernel) ?_
  refine En_getK (j := 5) ((h35 _ _ (Or.inr (by decide))).trans h10) rfl rfl rfl (by decide +kernel : TG 3 = 3) (by decide +kernel) ?_
  refine En_iEq _ rfl rfl (fun h39 => ?_) (fun h39 => ?_)
  · refine En_Ps 1 (pc' := 33) (lv' := [(0, .ref 0)]) (st' := [.ref 0]) rfl ?_
    refine En_getK (j := 9) ((h35 _ _ (Or.inr (by decide))).trans ((h7 _ _ (inW (by decide +kernel : TG 0 = 0) (by decide +kernel))).trans h_p)) rfl rfl rfl (by decide +kernel : TG 0 = 0) (by decide +kernel) ?_
    refine En_Ps 3 (pc' := 39) (lv' := [(1, .ref p), (0, .ref 0)]) (st' := [.ref 0, .ref 0]) rfl ?_
    refine En_getK (j := 10) ((h35 _ _ (Or.inr (by decide))).trans ((h7 _ _ (inW (by decide +kernel : TG 0 = 0) (by decide +kernel))).trans h_p2)) rfl rfl rfl (by decide +kernel : TG 0 = 0) (by decide +kernel) ?_
    refine En_put (j := 9) rfl rfl rfl (by decide +kernel : TG 0 = 0) (by decide +kernel) rfl (vR (g' := 18) (u := 0) (by decide +kernel) hp2) h32 h33 (by decide +kernel) (fun σ40 h41 h42 h43 h44 => ?_)
    have h45 : ((fRead By Nb 1601 S00).1 = 0 → KN σ40 p2 (fRead By Nb 1601 S00).2.2.2 (act (fRead By Nb 1601 S00).2.2.2)) := fun zz => KN_ne (h36 zz) h44 (by have := hP2; unfold PLA at this; omega)
    have h46 := RSAM_ne h37 h44 (by decide)
    have o47 := OUT_pn o38 h44 (by decide +kernel : TG 0 = 0) (by decide)
    refine En_Ps 2 (pc' := 47) (lv' := [(1, .ref p), (0, .ref 0)]) (st' := [.ref p, .ref 0]) rfl ?_
    refine En_put (j := 10) rfl rfl rfl (by decide +kernel : TG 0 = 0) (by decide +kernel) rfl (vR (g' := 18) (u := 0) (by decide +kernel) hp) h41 h42 (by decide +kernel) (fun σ48 h49 h50 h51 h52 => ?_)
    have h53 : ((fRead By Nb 1601 S00).1 = 0 → KN σ48 p2 (fRead By Nb 1601 S00).2.2.2 (act (fRead By Nb 1601 S00).2.2.2)) := fun zz => KN_ne (h45 zz) h52 (by have := hP2; unfold PLA at this; omega)
    have h54 := RSAM_ne h46 h52 (by decide)
    have o55 := OUT_pn o47 h52 (by decide +kernel : TG 0 = 0) (by decide)
    refine En_Ps 1 (pc' := 51) (lv' := [(1, .ref p), (0, .ref 0)]) (st' := [.ref 0]) rfl ?_
    refine En_getU (j := 2) (u := 4) (g' := 4) (q := 0) rfl rfl rfl (by decide +kernel : TG 0 = 0) (by decide +kernel) h49 (by decide +kernel) (by decide +kernel) (fun h56 => ?_)
    refine En_Ps 1 (pc' := 55) (lv' := [(1, .ref p), (0, .ref 0)]) (st' := [.ref 0, .ref 4]) rfl ?_
    refine En_getK (j := 9) ((h52 _ _ (Or.inr (by decide))).trans h43) rfl rfl rfl (by decide +kernel : TG 0 = 0) (by decide +kernel) ?_
    refine En_getK (j := 1) ((h52 _ _ (Or.inr (by decide))).trans ((h44 _ _ (Or.inr (by decide))).trans ((h35 _ _ (Or.inl (neTG hp2 (by decide +kernel : TG 1 = 1) (by decide)))).trans h12))) rfl rfl rfl hp2 (by decide +kernel) ?_
    refine En_callV rfl rfl rfl rfl rfl rfl rfl rfl (by decide +kernel : TG 4 = 4) (by decide +kernel) rfl (c_82x σ48 h49 z11 (geI rfl (by omega)) (leI rfl (by omega))) (by decide) (by decide) (fun v59 σ60 h58 => ?_)
    obtain ⟨h61, h62, rfl, h63⟩ := h58
    have h64 := h63
    have h65 := Fr_trans h50 h62 (by decide +kernel)
    have h66 : ((fRead By Nb 1601 S00).1 = 0 → KN σ60 p2 (fRead By Nb 1601 S00).2.2.2 (act (fRead By Nb 1601 S00).2.2.2)) := fun zz => KN_fr hP2 (h53 zz) h62 (by decide +kernel)
    have o67 := OUT_fr o55 h62 (by decide +kernel)
    refine En_Ps 1 (pc' := 65) (lv' := [(1, .ref p), (0, .ref 0)]) (st' := [.ref 0]) rfl ?_
    refine En_getK (j := 9) ((h62 _ _ (inW (by decide +kernel : TG 0 = 0) (by decide +kernel))).trans ((h52 _ _ (Or.inr (by decide))).trans h43)) rfl rfl rfl (by decide +kernel : TG 0 = 0) (by decide +kernel) ?_
    refine En_getK (j := 0) ((h62 _ _ (inW hp2 (by decide +kernel))).trans ((h52 _ _ (Or.inr (by decide))).trans ((h44 _ _ (Or.inr (by decide))).trans ((h35 _ _ (Or.inr (by decide))).trans h17)))) rfl rfl rfl hp2 (by decide +kernel) ?_
    have := (by decide : (Int32.ofInt 0).toInt = 0)
    exact En_ret (v := some (.int z18)) rfl rfl rfl ⟨h61, h65, (Int32.ofInt 0), ((h62 _ _ (inW (by decide +kernel : TG 1 = 1) (by decide +kernel))).trans ((h52 _ _ (Or.inr (by decide))).trans ((h44 _ _ (Or.inr (by decide))).trans h34))), z18, rfl, ⟨o67, by omega, by omega, by omega, by omega, by omega, by omega, by omega, by omega, ⟨⟨⟨p2, p, z11, hp2, hp, ((h62 _ _ (inW (by decide +kernel : TG 0 = 0) (by decide +kernel))).trans ((h52 _ _ (Or.inr (by decide))).trans h43)), ((h62 _ _ (inW (by decide +kernel : TG 0 = 0) (by decide +kernel))).trans h51), (fun e => hne e.symm), ((h62 _ _ (inW hp2 (by decide +kernel))).trans ((h52 _ _ (Or.inr (by decide))).trans ((h44 _ _ (Or.inr (by decide))).trans ((h35 _ _ (Or.inl (neTG hp2 (by decide +kernel : TG 1 = 1) (by decide)))).trans h12)))), (by omega)⟩, ⟨(ci_at (j := 5) ((h62 _ _ (inW (by decide +kernel : TG 3 = 3) (by decide +kernel))).trans ((h52 _ _ (Or.inr (by decide))).trans ((h44 _ _ (Or.inr (by decide))).trans ((h35 _ _ (Or.inr (by decide))).trans h10)))) rfl).trans (by omega), (ci_at (j := 6) ((h62 _ _ (inW (by decide +kernel : TG 3 = 3) (by decide +kernel))).trans ((h52 _ _ (Or.inr (by decide))).trans ((h44 _ _ (Or.inr (by decide))).trans ((h35 _ _ (Or.inr (by decide))).trans h21)))) rfl).trans (by omega), fun zz => by omega, fun zz => by omega⟩⟩, ⟨fun zz => absurd (by omega) zz, fun zz => ⟨((h62 _ _ (inW (by decide +kernel : TG 0 = 0) (by decide +kernel))).trans ((h52 _ _ (Or.inr (by decide))).trans h43)), h66 zz⟩⟩, ⟨fun _ => (RULx_eq h64 (ci_at (j := 1) ((h62 _ _ (inW hp2 (by decide +kernel))).trans ((h52 _ _ (Or.inr (by decide))).trans ((h44 _ _ (Or.inr (by decide))).trans ((h35 _ _ (Or.inl (neTG hp2 (by decide +kernel : TG 1 = 1) (by decide)))).trans h12)))) rfl)), fun zz => absurd (by omega) zz⟩⟩⟩⟩
  · refine En_Ps 1 (pc' := 31) (lv' := [(0, .ref 0)]) (st' := [.int (((Int8.ofInt (-4)).toInt32))]) rfl ?_
    have := (by decide : (Int32.ofInt 0).toInt = 0)
    refine En_top (by decide : ((Int8.ofInt (-4)).toInt32).toInt = -4) (fun z68 h69 => ?_)
    exact En_ret (v := some (.int z68)) rfl rfl rfl ⟨h32, h33, (Int32.ofInt 0), h34, z68, rfl, ⟨o38, by omega, by omega, by omega, by omega, by omega, by omega, by omega, by omega, ⟨⟨⟨p, p2, sg, hp, hp2, ((h35 _ _ (Or.inr (by decide))).trans ((h7 _ _ (inW (by decide +kernel : TG 0 = 0) (by decide +kernel))).trans h_p)), ((h35 _ _ (Or.inr (by decide))).trans ((h7 _ _ (inW (by decide +kernel : TG 0 = 0) (by decide +kernel))).trans h_p2)), hne, ((h35 _ _ (Or.inl (neTG hp (by decide +kernel : TG 1 = 1) (by decide)))).trans (((h13.1 p hp hne)).trans h_sg)), (by omega)⟩, ⟨(ci_at (j := 5) ((h35 _ _ (Or.inr (by decide))).trans h10) rfl).trans (by omega), (ci_at (j := 6) ((h35 _ _ (Or.inr (by decide))).trans h21) rfl).trans (by omega), fun zz => by omega, fun zz => by omega⟩⟩, ⟨fun _ => ((h35 _ _ (Or.inr (by decide))).trans ((h7 _ _ (inW (by decide +kernel : TG 0 = 0) (by decide +kernel))).trans h_p)), fun zz => absurd zz (by omega)⟩, ⟨fun zz => absurd zz (by omega), fun _ => h37⟩⟩⟩⟩

