/-- DoorSchool.teach(III)I -/
abbrev P_174x (σ0 : SG) (Wv : Int → Int) (a : Int32) (b : Int32) (c : Int32) (p : Nat) (sg : Int32) : PO := fun v σ => WT σ ∧ Fr [(18, 14), (20, 2), (21, 0), (22, 0), (27, 0)] σ0 σ ∧ ∃ ret : Int32, v = some (.int ret) ∧ -ret.toInt - 5 ≤ 0 ∧ ret.toInt - 12 ≤ 0 ∧ (ret.toInt = tcR Wv a.toInt b.toInt c.toInt ∧ KN σ p (tcW Wv a.toInt b.toInt c.toInt) (act (tcW Wv a.toInt b.toInt c.toInt)) ∧ OUT σ0 σ p)
set_option maxRecDepth 10000 in
set_option maxHeartbeats 4000000 in
theorem c_174x {Wv : Int → Int} (σ0 : SG) (hσ0 : WT σ0) (a : Int32) (b : Int32) (c : Int32) (p : Nat) (hp : TG p = 18) (h_p : (σ0 0)[9]? = some (.ref p)) (sg : Int32) (h_sg : (σ0 p)[1]? = some (.int sg)) (hp0 : -sg.toInt ≤ 0) (hP : PLA p) (hX : FXP σ0 p) (hK : KN σ0 p Wv (act Wv)) : En 3 64 none mr_174 (P_174x σ0 Wv a b c p sg) 0 [(0, .ref 0), (1, .int a), (2, .int b), (3, .int c)] [] σ0 := by
  obtain ⟨hl_sg, hu_sg⟩ := WT_int hσ0 (g := 18) hp (by decide +kernel) (l := (-1)) (u := 4) (by decide +kernel) h_sg
  have hF0 : Fr [(18, 14), (20, 2), (21, 0), (22, 0), (27, 0)] σ0 σ0 := Fr_rfl
  have t1 : Wv (0) = sg.toInt := KN_v hK (Or.inl (by decide)) (by omega) (by omega) (by rw [lcO_lt (by decide) (by decide), Nat.add_zero]) rfl h_sg
  refine En_Ps 4 (pc' := 4) (lv' := [(0, .ref 0), (1, .int a), (2, .int b), (3, .int c)]) (st' := [.int c, .int b, .int a, .ref 0]) rfl ?_
  refine En_callV rfl rfl rfl rfl rfl rfl rfl rfl (by decide +kernel : TG 0 = 0) (by decide +kernel) rfl (c_144x σ0 hσ0 a b c p hp h_p sg h_sg (by omega) hP (FXP_fr hP hX hF0 (by decide +kernel)) hK) (by decide) (by decide) (fun v3 σ4 h2 => ?_)
  obtain ⟨h5, h6, z8, rfl, h7⟩ := h2
  have h9 := h7.2.2.2.2
  obtain rfl : σ0 = σ4 := Fr_nil h6
  have h10 := h9
  refine En_iNe _ rfl rfl (fun h11 => ?_) (fun h11 => ?_)
  · have h12 := Imp_m h7.2.2.2.1 (by omega)
    have h13 : okL Wv a.toInt b.toInt c.toInt := by rcases h10 with q | q; exact q.2; exfalso; omega
    have h14 := h13.1
    have h15 := h13.2.1
    refine En_Ps 1 (pc' := 14) (lv' := [(0, .ref 0), (1, .int a), (2, .int b), (3, .int c)]) (st' := [.ref 0]) rfl ?_
    refine En_getK (j := 9) h_p rfl rfl rfl (by decide +kernel : TG 0 = 0) (by decide +kernel) ?_
    refine En_getR (j := 4) (g' := 19) (u := 0) rfl rfl rfl hp (by decide +kernel) hσ0 (by decide +kernel) (fun a17 h16 ha17 => ?_)
    have t18 : a17 = p + 1 := ref_uniq h16 (FXP_fr hP hX hF0 (by decide +kernel)).1
    obtain ⟨z20, h19, h21, h22⟩ := WT_peekI hσ0 hp (by decide +kernel : FT 18 3 = (0, 0, 4)) (by decide +kernel)
    have t23 : Wv (2) = z20.toInt := KN_v hK (Or.inl (by decide)) (by omega) (by omega) (by rw [lcO_lt (by decide) (by decide), Nat.add_zero]) rfl h19
    refine En_Ps 1 (pc' := 21) (lv' := [(0, .ref 0), (1, .int a), (2, .int b), (3, .int c)]) (st' := [.int a, .ref a17]) rfl ?_
    refine En_aald (g' := 28) (u := 0) rfl rfl ha17 (by decide +kernel) hσ0 (by omega) (lnI (by decide +kernel : LN _ = 4) (by omega)) (FTsgl (by decide +kernel)) (fun a25 h24 ha25 => ?_)
    have t26 : a25 = p + 10 + 4 * (a.toInt).toNat := DRe (d := a.toInt) (FXP_fr hP hX hF0 (by decide +kernel)) t18 h24 (by omega) (by omega)
    have t27 := lc_d (d := a.toInt) (by omega) (by omega)
    refine En_getR (j := 0) (g' := 20) (u := 0) rfl rfl rfl ha25 (by decide +kernel) hσ0 (by decide +kernel) (fun a29 h28 ha29 => ?_)
    have t30 : a29 = p + 11 + 4 * (a.toInt).toNat := DLc (d := a.toInt) (FXP_fr hP hX hF0 (by decide +kernel)) t26 h28 (by omega) (by omega)
    refine En_Ps 2 (pc' := 29) (lv' := [(4, .ref a29), (0, .ref 0), (1, .int a), (2, .int b), (3, .int c)]) (st' := [.ref a29]) rfl ?_
    refine En_getI (j := 2) (l := 0) (u := 13) rfl rfl rfl ha29 (by decide +kernel) hσ0 (by decide +kernel) (fun z32 h31 h33 h34 => ?_)
    have t35 : Wv (12 + 4 * (a.toInt)) = z32.toInt := KN_v hK (Or.inr (Or.inl ⟨by omega, by omega, by omega⟩)) (by omega) (by omega) (by omega) (by omega) h31
    refine En_Ps 1 (pc' := 34) (lv' := [(4, .ref a29), (0, .ref 0), (1, .int a), (2, .int b), (3, .int c)]) (st' := [.int (((Int8.ofInt 12).toInt32)), .int z32]) rfl ?_
    refine En_icLt _ rfl (by decide : ((Int8.ofInt 12).toInt32).toInt = 12) rfl (fun h36 => ?_) (fun h36 => ?_)
    · refine En_Ps 1 (pc' := 41) (lv' := [(4, .ref a29), (0, .ref 0), (1, .int a), (2, .int b), (3, .int c)]) (st' := [.ref 0]) rfl ?_
      refine En_getK (j := 9) h_p rfl rfl rfl (by decide +kernel : TG 0 = 0) (by decide +kernel) ?_
      refine En_getI (j := 14) (l := 0) (u := 60) rfl rfl rfl hp (by decide +kernel) hσ0 (by decide +kernel) (fun z38 h37 h39 h40 => ?_)
      have t41 : Wv (6) = z38.toInt := KN_v hK (Or.inl (by decide)) (by omega) (by omega) (by rw [lcO_lt (by decide) (by decide), Nat.add_zero]) rfl h37
      refine En_Ps 1 (pc' := 49) (lv' := [(4, .ref a29), (0, .ref 0), (1, .int a), (2, .int b), (3, .int c)]) (st' := [.int (((Int8.ofInt 60).toInt32)), .int z38]) rfl ?_
      refine En_icLt _ rfl (by decide : ((Int8.ofInt 60).toInt32).toInt = 60) rfl (fun h42 => ?_) (fun h42 => ?_)
      · refine En_Ps 3 (pc' := 59) (lv' := [(4, .ref a29), (0, .ref 0), (1, .int a), (2, .int b), (3, .int c)]) (st' := [.int c, .int b, .ref a29]) rfl ?_
        obtain ⟨a44, h43, ha44⟩ := WT_peekR (g := 20) (j := 0) (g' := 21) (u := 0) hσ0 ha29 (by decide +kernel) (by decide +kernel)
        have t45 : a44 = p + 12 + 4 * (a.toInt).toNat := DKk (d := a.toInt) (FXP_fr hP hX hF0 (by decide +kernel)) t30 h43 (by omega) (by omega)
        obtain ⟨a47, h46, ha47⟩ := WT_peekR (g := 20) (j := 1) (g' := 22) (u := 0) hσ0 ha29 (by decide +kernel) (by decide +kernel)
        have t48 : a47 = p + 13 + 4 * (a.toInt).toNat := DKo (d := a.toInt) (FXP_fr hP hX hF0 (by decide +kernel)) t30 h46 (by omega) (by omega)
        refine En_callV rfl rfl rfl rfl rfl rfl rfl rfl ha29 (by decide +kernel) rfl (c_31x σ0 hσ0 a29 ha29 b c (geI rfl (by omega)) (leI rfl (by omega)) (geI rfl (by omega)) (leI rfl (by omega)) a44 ha44 h43 a47 ha47 h46 z32 h31 (by omega)) (by decide) (by decide) (fun v50 σ51 h49 => ?_)
        obtain ⟨h52, h53, z55, h56, rfl, h54⟩ := h49
        have h57 := h54.2.2.2.2
        have h58 := Fr_trans hF0 h53 (by decide +kernel)
        refine En_Ps 1 (pc' := 63) (lv' := [(4, .ref a29), (0, .ref 0), (1, .int a), (2, .int b), (3, .int c)]) (st' := [.ref 0]) rfl ?_
        refine En_getK (j := 9) ((h53 _ _ (inW (by decide +kernel : TG 0 = 0) (by decide +kernel))).trans h_p) rfl rfl rfl (by decide +kernel : TG 0 = 0) (by decide +kernel) ?_
        refine En_getR (j := 15) (g' := 27) (u := 0) rfl rfl rfl hp (by decide +kernel) h52 (by decide +kernel) (fun a60 h59 ha60 => ?_)
        have t61 : a60 = p + 9 := ref_uniq h59 (FXP_fr hP hX h58 (by decide +kernel)).2.2.2.2.2.2.1
        refine En_Ps 1 (pc' := 70) (lv' := [(4, .ref a29), (0, .ref 0), (1, .int a), (2, .int b), (3, .int c)]) (st' := [.ref 0, .ref a60]) rfl ?_
        refine En_getK (j := 9) ((h53 _ _ (inW (by decide +kernel : TG 0 = 0) (by decide +kernel))).trans h_p) rfl rfl rfl (by decide +kernel : TG 0 = 0) (by decide +kernel) ?_
        refine En_getK (j := 14) ((h53 _ _ (inW hp (by decide +kernel))).trans h37) rfl rfl rfl hp (by decide +kernel) ?_
        refine En_Ps 1 (pc' := 77) (lv' := [(4, .ref a29), (0, .ref 0), (1, .int a), (2, .int b), (3, .int c)]) (st' := [.int a, .int z38, .ref a60]) rfl ?_
        refine En_iast (l := 0) (u := 3) rfl rfl ha60 (by decide +kernel) (by omega) (lnI (by decide +kernel : LN _ = 60) (by omega)) (FTsgl (by decide +kernel)) (rngI rfl (by omega) (by omega)) h52 h58 (by decide +kernel) (fun σ62 h63 h64 h65 h66 => ?_)
        refine En_Ps 1 (pc' := 79) (lv' := [(4, .ref a29), (0, .ref 0), (1, .int a), (2, .int b), (3, .int c)]) (st' := [.ref 0]) rfl ?_
        refine En_getK (j := 9) ((h66 _ _ (Or.inl (neTG (by decide +kernel : TG 0 = 0) ha60 (by decide)))).trans ((h53 _ _ (inW (by decide +kernel : TG 0 = 0) (by decide +kernel))).trans h_p)) rfl rfl rfl (by decide +kernel : TG 0 = 0) (by decide +kernel) ?_
        refine En_Ps 1 (pc' := 83) (lv' := [(4, .ref a29), (0, .ref 0), (1, .int a), (2, .int b), (3, .int c)]) (st' := [.ref p, .ref p]) rfl ?_
        refine En_getK (j := 14) ((h66 _ _ (Or.inl (neTG hp ha60 (by decide)))).trans ((h53 _ _ (inW hp (by decide +kernel))).trans h37)) rfl rfl rfl hp (by decide +kernel) ?_
        refine En_Ps 2 (pc' := 88) (lv' := [(4, .ref a29), (0, .ref 0), (1, .int a), (2, .int b), (3, .int c)]) (st' := [.int ((z38 + ((Int32.ofInt 1)))), .ref p]) rfl ?_
        refine En_top (addI rfl (by decide : (Int32.ofInt 1).toInt = 1) (by omega) (by omega)) (fun z67 h68 => ?_)
        refine En_put (j := 14) rfl rfl rfl hp (by decide +kernel) rfl (vI (l := 0) (u := 60) (by decide +kernel) rfl (by omega) (by omega)) h63 h64 (by decide +kernel) (fun σ69 h70 h71 h72 h73 => ?_)
        refine En_Ps 1 (pc' := 93) (lv' := [(4, .ref a29), (0, .ref 0), (1, .int a), (2, .int b), (3, .int c)]) (st' := [.ref a29]) rfl ?_
        refine En_getK (j := 2) ((h73 _ _ (Or.inr (by decide))).trans ((h66 _ _ (Or.inl (neTG ha29 ha60 (by decide)))).trans h56)) rfl rfl rfl ha29 (by decide +kernel) ?_
        exact En_ret (v := some (.int z55)) rfl rfl rfl ⟨h70, h71, z55, rfl, ⟨by omega, by omega, (by rw [tcW_y h13 (by omega) (by omega)]; exact ⟨tcR_y h13 (by omega) (by omega) (by omega), KN_teach hK (PLA_B hP) t35 t41 h57 rfl rfl h65 h66 h72 h73 t30 t45 t48 t61 rfl (by omega) (by omega) (by omega) (by omega) (by omega) (by omega) (by omega)⟩)⟩⟩
      · refine En_Ps 1 (pc' := 54) (lv' := [(4, .ref a29), (0, .ref 0), (1, .int a), (2, .int b), (3, .int c)]) (st' := [.int (((Int8.ofInt (-5)).toInt32))]) rfl ?_
        refine En_top (by decide : ((Int8.ofInt (-5)).toInt32).toInt = -5) (fun z74 h75 => ?_)
        exact En_ret (v := some (.int z74)) rfl rfl rfl ⟨hσ0, hF0, z74, rfl, ⟨by omega, by omega, (by rw [tcW_n (fun q => by omega)]; exact ⟨tcR_5 h13 (by omega) (by omega) (by omega), hK, OUT_0⟩)⟩⟩
    · refine En_Ps 1 (pc' := 39) (lv' := [(4, .ref a29), (0, .ref 0), (1, .int a), (2, .int b), (3, .int c)]) (st' := [.int (((Int8.ofInt (-3)).toInt32))]) rfl ?_
      refine En_top (by decide : ((Int8.ofInt (-3)).toInt32).toInt = -3) (fun z76 h77 => ?_)
      exact En_ret (v := some (.int z76)) rfl rfl rfl ⟨hσ0, hF0, z76, rfl, ⟨by omega, by omega, (by rw [tcW_n (fun q => by omega)]; exact ⟨tcR_3 h13 (by omega) (by omega), hK, OUT_0⟩)⟩⟩
  · have h78 := Imp_m h7.2.2.1 (by omega)
    refine En_Ps 1 (pc' := 12) (lv' := [(0, .ref 0), (1, .int a), (2, .int b), (3, .int c)]) (st' := [.int (((Int8.ofInt (-2)).toInt32))]) rfl ?_
    refine En_top (by decide : ((Int8.ofInt (-2)).toInt32).toInt = -2) (fun z79 h80 => ?_)
    exact En_ret (v := some (.int z79)) rfl rfl rfl ⟨hσ0, hF0, z79, rfl, ⟨by omega, by omega, (by have q0 : ¬ okL Wv a.toInt b.toInt c.toInt := (by rcases h10 with q | q; exfalso; omega; exact q.2); rw [tcW_n (fun q => q0 q.1)]; exact ⟨tcR_2 q0 (by omega), hK, OUT_0⟩)⟩⟩
/-- DoorSchool.told(II)I -/
abbrev P_176x (σ0 : SG) (Wv : Int → Int) (a : Int32) (b : Int32) (p : Nat) (sg : Int32) : PO := fun v σ => WT σ ∧ Fr [] σ0 σ ∧ ∃ ret : Int32, v = some (.int ret) ∧ -ret.toInt - 2 ≤ 0 ∧ ret.toInt - 15 ≤ 0 ∧ ret.toInt = tdR Wv a.toInt b.toInt
set_option maxRecDepth 10000 in
set_option maxHeartbeats 4000000 in
theorem c_176x {Wv : Int → Int} (σ0 : SG) (hσ0 : WT σ0) (a : Int32) (b : Int32) (p : Nat) (hp : TG p = 18) (h_p : (σ0 0)[9]? = some (.ref p)) (sg : Int32) (h_sg : (σ0 p)[1]? = some (.int sg)) (hp0 : -sg.toInt ≤ 0) (hP : PLA p) (hX : FXP σ0 p) (hK : KN σ0 p Wv (act Wv)) (hB : WFw Wv) (hT : TWN Wv) (hQ : 0 < Wv 7 → RULx σ0 (Wv 0)) (hq : QX Wv) : En 2 41 none mr_176 (P_176x σ0 Wv a b p sg) 0 [(0, .ref 0), (1, .int a), (2, .int b)] [] σ0 := by
  obtain ⟨hl_sg, hu_sg⟩ := WT_int hσ0 (g := 18) hp (by decide +kernel) (l := (-1)) (u := 4) (by decide +kernel) h_sg
  have hF0 : Fr [] σ0 σ0 := Fr_rfl
  have t1 : Wv (0) = sg.toInt := KN_v hK (Or.inl (by decide)) (by omega) (by omega) (by rw [lcO_lt (by decide) (by decide), Nat.add_zero]) rfl h_sg
  obtain ⟨z3, h2, h4, h5⟩ := WT_peekI hσ0 hp (by decide +kernel : FT 18 3 = (0, 0, 4)) (by decide +kernel)
  have t6 : Wv (2) = z3.toInt := KN_v hK (Or.inl (by decide)) (by omega) (by omega) (by rw [lcO_lt (by decide) (by decide), Nat.add_zero]) rfl h2
  have h7 := hB.2.2.1
  have h8 := hB.1
  have h9 := hB.2.1
  refine En_Ps 1 (pc' := 1) (lv' := [(0, .ref 0), (1, .int a), (2, .int b)]) (st' := [.ref 0]) rfl ?_
  refine En_getK (j := 9) h_p rfl rfl rfl (by decide +kernel : TG 0 = 0) (by decide +kernel) ?_
  refine En_Ps 1 (pc' := 5) (lv' := [(0, .ref 0), (1, .int a), (2, .int b)]) (st' := [.int a, .ref p]) rfl ?_
  obtain ⟨z11, h10, h12, h13⟩ := WT_peekI hσ0 hp (by decide +kernel : FT 18 0 = (0, 0, 1601)) (by decide +kernel)
  have t14 : Wv (7) = z11.toInt := KN_v hK (Or.inl (by decide)) (by omega) (by omega) (by rw [lcO_lt (by decide) (by decide), Nat.add_zero]) rfl h10
  refine En_callV rfl rfl rfl rfl rfl rfl rfl rfl hp (by decide +kernel) rfl (c_46x σ0 hσ0 p hp a z11 h10 sg h_sg (by omega)) (by decide) (by decide) (fun v16 σ17 h15 => ?_)
  obtain ⟨h18, h19, z21, rfl, h20⟩ := h15
  have h22 := h20.2.2.2
  obtain rfl : σ0 = σ17 := Fr_nil h19
  have h23 := h22
  have h24 : pI (pI (Wv 0)) = pI (pI (sg.toInt)) := by rw [t1]
  refine En_iEq _ rfl rfl (fun h25 => ?_) (fun h25 => ?_)
  · refine En_Ps 1 (pc' := 20) (lv' := [(0, .ref 0), (1, .int a), (2, .int b)]) (st' := [.int (((Int8.ofInt (-2)).toInt32))]) rfl ?_
    refine En_top (by decide : ((Int8.ofInt (-2)).toInt32).toInt = -2) (fun z26 h27 => ?_)
    exact En_ret (v := some (.int z26)) rfl rfl rfl ⟨hσ0, hF0, z26, rfl, ⟨by omega, by omega, tdR_n (fun ⟨q1, q2, q3, q4, q5⟩ => by omega) (by omega)⟩⟩
  · have h28 := Imp_m h20.2.2.1 (by omega)
    refine En_Ps 1 (pc' := 12) (lv' := [(0, .ref 0), (1, .int a), (2, .int b)]) (st' := [.int b]) rfl ?_
    refine En_callS rfl rfl rfl rfl rfl rfl rfl rfl rfl (c_149 σ0 hσ0 b) (by decide) (by decide) (fun v30 σ31 h29 => ?_)
    obtain ⟨h32, h33, z35, rfl, h34⟩ := h29
    obtain rfl : σ0 = σ31 := Fr_nil h33
    refine En_iNe _ rfl rfl (fun h36 => ?_) (fun h36 => ?_)
    · obtain ⟨z38, h37, h39, h40⟩ := WT_peekI hσ0 (by decide +kernel : TG 4 = 4) (by decide +kernel : FT 4 0 = (0, 0, 16)) (by decide +kernel)
      obtain ⟨z42, h41, h43, h44⟩ := WT_peekI hσ0 (by decide +kernel : TG 4 = 4) (by decide +kernel : FT 4 1 = (0, 0, 81)) (by decide +kernel)
      have h45 : z38.toInt = pI (Wv 0) := (ci_at (j := 0) h37 rfl).symm.trans (hQ (by omega)).1
      have h46 : z42.toInt = nR (Wv 0) := (ci_at (j := 1) h41 rfl).symm.trans (hQ (by omega)).2.1
      have h47 := pI_rng (s := Wv 0) (by omega) (by omega)
      have h48 := nR_rg (s := Wv 0) (by omega) (by omega)
      refine En_Ps 1 (pc' := 22) (lv' := [(0, .ref 0), (1, .int a), (2, .int b)]) (st' := [.ref 0]) rfl ?_
      refine En_getU (j := 2) (u := 4) (g' := 4) (q := 0) rfl rfl rfl (by decide +kernel : TG 0 = 0) (by decide +kernel) hσ0 (by decide +kernel) (by decide +kernel) (fun h49 => ?_)
      refine En_Ps 1 (pc' := 26) (lv' := [(0, .ref 0), (1, .int a), (2, .int b)]) (st' := [.int a, .ref 4]) rfl ?_
      refine En_callV rfl rfl rfl rfl rfl rfl rfl rfl (by decide +kernel : TG 4 = 4) (by decide +kernel) rfl (c_81x σ0 hσ0 a z42 h41) (by decide) (by decide) (fun v52 σ53 h51 => ?_)
      obtain ⟨h54, h55, z57, rfl, h56⟩ := h51
      have h58 := h56.2.2
      obtain rfl : σ0 = σ53 := Fr_nil h55
      have h59 : z57.toInt = fr2 Wv a.toInt := fr2_of h46 (fun i i0 i1 => TB_D (hQ (by omega)).2.2 i i0 (by omega)) h58
      have h60 := fr2_rg (w := Wv) (a := a.toInt)
      refine En_Ps 3 (pc' := 32) (lv' := [(3, .int z57), (0, .ref 0), (1, .int a), (2, .int b)]) (st' := [.int ((Int32.ofInt (-1))), .int z57]) rfl ?_
      refine En_icNe _ rfl (by decide : (Int32.ofInt (-1)).toInt = -1) rfl (fun h61 => ?_) (fun h61 => ?_)
      · refine En_Ps 1 (pc' := 38) (lv' := [(3, .int z57), (0, .ref 0), (1, .int a), (2, .int b)]) (st' := [.int b]) rfl ?_
        refine En_iNe _ rfl rfl (fun h62 => ?_) (fun h62 => ?_)
        · refine En_Ps 1 (pc' := 54) (lv' := [(3, .int z57), (0, .ref 0), (1, .int a), (2, .int b)]) (st' := [.ref 0]) rfl ?_
          refine En_getK (j := 2) h49 rfl rfl rfl (by decide +kernel : TG 0 = 0) (by decide +kernel) ?_
          refine En_getU (j := 3) (u := 6) (g' := 6) (q := 0) rfl rfl rfl (by decide +kernel : TG 4 = 4) (by decide +kernel) hσ0 (by decide +kernel) (by decide +kernel) (fun h63 => ?_)
          refine En_Ps 1 (pc' := 61) (lv' := [(3, .int z57), (0, .ref 0), (1, .int a), (2, .int b)]) (st' := [.int z57, .ref 6]) rfl ?_
          refine En_iald (l := 0) (u := 15) rfl rfl (by decide +kernel : TG 6 = 6) (by decide +kernel) hσ0 (by omega) (lnI (by decide +kernel : LN _ = 81) (by omega)) (FTsgl (by decide +kernel)) (fun z66 h65 h67 h68 => ?_)
          have h69 : ci σ0 6 (z57.toInt) = z66.toInt := ci_at h65 rfl
          exact En_ret (v := some (.int z66)) rfl rfl rfl ⟨hσ0, hF0, z66, rfl, ⟨by omega, by omega, tdR_y ⟨by omega, by omega, by omega, by omega, by omega⟩ h59 (pkR_V (by omega) (by omega) (by omega) (h69.symm.trans (TB_MV (hQ (by omega)).2.2 (by omega) (by omega)).2))⟩⟩
        · refine En_Ps 1 (pc' := 42) (lv' := [(3, .int z57), (0, .ref 0), (1, .int a), (2, .int b)]) (st' := [.ref 0]) rfl ?_
          refine En_getK (j := 2) h49 rfl rfl rfl (by decide +kernel : TG 0 = 0) (by decide +kernel) ?_
          refine En_getU (j := 2) (u := 5) (g' := 5) (q := 0) rfl rfl rfl (by decide +kernel : TG 4 = 4) (by decide +kernel) hσ0 (by decide +kernel) (by decide +kernel) (fun h70 => ?_)
          refine En_Ps 1 (pc' := 49) (lv' := [(3, .int z57), (0, .ref 0), (1, .int a), (2, .int b)]) (st' := [.int z57, .ref 5]) rfl ?_
          refine En_iald (l := 0) (u := 15) rfl rfl (by decide +kernel : TG 5 = 5) (by decide +kernel) hσ0 (by omega) (lnI (by decide +kernel : LN _ = 81) (by omega)) (FTsgl (by decide +kernel)) (fun z73 h72 h74 h75 => ?_)
          have h76 : ci σ0 5 (z57.toInt) = z73.toInt := ci_at h72 rfl
          refine En_Ps 1 (pc' := 62) (lv' := [(3, .int z57), (0, .ref 0), (1, .int a), (2, .int b)]) (st' := [.int z73]) rfl ?_
          exact En_ret (v := some (.int z73)) rfl rfl rfl ⟨hσ0, hF0, z73, rfl, ⟨by omega, by omega, tdR_y ⟨by omega, by omega, by omega, by omega, by omega⟩ h59 (pkR_M (by omega) (by omega) (h76.symm.trans (TB_MV (hQ (by omega)).2.2 (by omega) (by omega)).1))⟩⟩
      · refine En_Ps 1 (pc' := 36) (lv' := [(3, .int z57), (0, .ref 0), (1, .int a), (2, .int b)]) (st' := [.int ((Int32.ofInt (-1)))]) rfl ?_
        refine En_top (by decide : (Int32.ofInt (-1)).toInt = -1) (fun z77 h78 => ?_)
        exact En_ret (v := some (.int z77)) rfl rfl rfl ⟨hσ0, hF0, z77, rfl, ⟨by omega, by omega, tdR_y ⟨by omega, by omega, by omega, by omega, by omega⟩ h59 (pkR_1 (by omega) (by omega))⟩⟩
    · refine En_Ps 1 (pc' := 20) (lv' := [(0, .ref 0), (1, .int a), (2, .int b)]) (st' := [.int (((Int8.ofInt (-2)).toInt32))]) rfl ?_
      refine En_top (by decide : ((Int8.ofInt (-2)).toInt32).toInt = -2) (fun z79 h80 => ?_)
      exact En_ret (v := some (.int z79)) rfl rfl rfl ⟨hσ0, hF0, z79, rfl, ⟨by omega, by omega, tdR_n (fun ⟨q1, q2, q3, q4, q5⟩ => by omega) (by omega)⟩⟩
/-- DoorSchool.train(III)I -/
abbrev P_177x (σ0 : SG) (Wv : Int → Int) (a : Int32) (b : Int32) (c : Int32) (p : Nat) (sg : Int32) : PO := fun v σ => WT σ ∧ Fr [(28, 1), (28, 2)] σ0 σ ∧ ∃ ret : Int32, v = some (.int ret) ∧ -ret.toInt - 2 ≤ 0 ∧ ret.toInt - 50 ≤ 0 ∧ (ret.toInt = trR Wv a.toInt b.toInt c.toInt ∧ KN σ p (trW Wv a.toInt b.toInt c.toInt) (act (trW Wv a.toInt b.toInt c.toInt)) ∧ OUT σ0 σ p)
set_option maxRecDepth 10000 in
set_option maxHeartbeats 4000000 in
theorem c_177x {Wv : Int → Int} (σ0 : SG) (hσ0 : WT σ0) (a : Int32) (b : Int32) (c : Int32) (p : Nat) (hp : TG p = 18) (h_p : (σ0 0)[9]? = some (.ref p)) (sg : Int32) (h_sg : (σ0 p)[1]? = some (.int sg)) (hp0 : -sg.toInt ≤ 0) (hP : PLA p) (hX : FXP σ0 p) (hK : KN σ0 p Wv (act Wv)) : En 1 21 none mr_177 (P_177x σ0 Wv a b c p sg) 0 [(0, .ref 0), (1, .int a), (2, .int b), (3, .int c)] [] σ0 := by
  obtain ⟨hl_sg, hu_sg⟩ := WT_int hσ0 (g := 18) hp (by decide +kernel) (l := (-1)) (u := 4) (by decide +kernel) h_sg
  have hF0 : Fr [(28, 1), (28, 2)] σ0 σ0 := Fr_rfl
  have t1 : Wv (0) = sg.toInt := KN_v hK (Or.inl (by decide)) (by omega) (by omega) (by rw [lcO_lt (by decide) (by decide), Nat.add_zero]) rfl h_sg
  obtain ⟨z3, h2, h4, h5⟩ := WT_peekI hσ0 hp (by decide +kernel : FT 18 3 = (0, 0, 4)) (by decide +kernel)
  have t6 : Wv (2) = z3.toInt := KN_v hK (Or.inl (by decide)) (by omega) (by omega) (by rw [lcO_lt (by decide) (by decide), Nat.add_zero]) rfl h2
  refine En_Ps 1 (pc' := 1) (lv' := [(0, .ref 0), (1, .int a), (2, .int b), (3, .int c)]) (st' := [.ref 0]) rfl ?_
  refine En_getK (j := 9) h_p rfl rfl rfl (by decide +kernel : TG 0 = 0) (by decide +kernel) ?_
  refine En_Ps 1 (pc' := 5) (lv' := [(0, .ref 0), (1, .int a), (2, .int b), (3, .int c)]) (st' := [.int a, .ref p]) rfl ?_
  refine En_callV rfl rfl rfl rfl rfl rfl rfl rfl hp (by decide +kernel) rfl (c_47x σ0 hσ0 p hp a z3 h2) (by decide) (by decide) (fun v8 σ9 h7 => ?_)
  obtain ⟨h10, h11, z13, rfl, h12⟩ := h7
  obtain rfl : σ0 = σ9 := Fr_nil h11
  refine En_iEq _ rfl rfl (fun h14 => ?_) (fun h14 => ?_)
  · have h15 := Imp_m h12.2.2.2.2.1 (by omega)
    refine En_Ps 1 (pc' := 20) (lv' := [(0, .ref 0), (1, .int a), (2, .int b), (3, .int c)]) (st' := [.int (((Int8.ofInt (-2)).toInt32))]) rfl ?_
    refine En_top (by decide : ((Int8.ofInt (-2)).toInt32).toInt = -2) (fun z16 h17 => ?_)
    exact En_ret (v := some (.int z16)) rfl rfl rfl ⟨hσ0, hF0, z16, rfl, ⟨by omega, by omega, (by have q0 : ¬ trC Wv a.toInt b.toInt c.toInt := (by omega); rw [trW_n q0]; exact ⟨trR_n q0 (by omega), hK, OUT_0⟩)⟩⟩
  · have h18 := Imp_m h12.2.2.1 (by omega)
    have h19 := Imp_m h12.2.2.2.1 (by omega)
    have h20 := Imp_m h12.2.2.2.2.2 (by omega)
    refine En_Ps 1 (pc' := 12) (lv' := [(0, .ref 0), (1, .int a), (2, .int b), (3, .int c)]) (st' := [.int b]) rfl ?_
    refine En_callS rfl rfl rfl rfl rfl rfl rfl rfl rfl (c_149 σ0 hσ0 b) (by decide) (by decide) (fun v22 σ23 h21 => ?_)
    obtain ⟨h24, h25, z27, rfl, h26⟩ := h21
    obtain rfl : σ0 = σ23 := Fr_nil h25
    refine En_iNe _ rfl rfl (fun h28 => ?_) (fun h28 => ?_)
    · refine En_Ps 1 (pc' := 22) (lv' := [(0, .ref 0), (1, .int a), (2, .int b), (3, .int c)]) (st' := [.ref 0]) rfl ?_
      refine En_getK (j := 9) h_p rfl rfl rfl (by decide +kernel : TG 0 = 0) (by decide +kernel) ?_
      refine En_getR (j := 4) (g' := 19) (u := 0) rfl rfl rfl hp (by decide +kernel) hσ0 (by decide +kernel) (fun a30 h29 ha30 => ?_)
      have t31 : a30 = p + 1 := ref_uniq h29 (FXP_fr hP hX hF0 (by decide +kernel)).1
      refine En_Ps 1 (pc' := 29) (lv' := [(0, .ref 0), (1, .int a), (2, .int b), (3, .int c)]) (st' := [.int a, .ref a30]) rfl ?_
      refine En_aald (g' := 28) (u := 0) rfl rfl ha30 (by decide +kernel) hσ0 (by omega) (lnI (by decide +kernel : LN _ = 4) (by omega)) (FTsgl (by decide +kernel)) (fun a33 h32 ha33 => ?_)
      have t34 : a33 = p + 10 + 4 * (a.toInt).toNat := DRe (d := a.toInt) (FXP_fr hP hX hF0 (by decide +kernel)) t31 h32 (by omega) (by omega)
      have t35 := lc_d (d := a.toInt) (by omega) (by omega)
      refine En_Ps 2 (pc' := 33) (lv' := [(4, .ref a33), (0, .ref 0), (1, .int a), (2, .int b), (3, .int c)]) (st' := [.int b]) rfl ?_
      refine En_iNe _ rfl rfl (fun h36 => ?_) (fun h36 => ?_)
      · refine En_Ps 1 (pc' := 63) (lv' := [(4, .ref a33), (0, .ref 0), (1, .int a), (2, .int b), (3, .int c)]) (st' := [.int c]) rfl ?_
        refine En_iLt _ rfl rfl (fun h37 => ?_) (fun h37 => ?_)
        · refine En_Ps 1 (pc' := 74) (lv' := [(4, .ref a33), (0, .ref 0), (1, .int a), (2, .int b), (3, .int c)]) (st' := [.int (((Int8.ofInt (-2)).toInt32))]) rfl ?_
          refine En_top (by decide : ((Int8.ofInt (-2)).toInt32).toInt = -2) (fun z38 h39 => ?_)
          exact En_ret (v := some (.int z38)) rfl rfl rfl ⟨hσ0, hF0, z38, rfl, ⟨by omega, by omega, (by have q0 : ¬ trC Wv a.toInt b.toInt c.toInt := (by omega); rw [trW_n q0]; exact ⟨trR_n q0 (by omega), hK, OUT_0⟩)⟩⟩
        · refine En_Ps 2 (pc' := 69) (lv' := [(4, .ref a33), (0, .ref 0), (1, .int a), (2, .int b), (3, .int c)]) (st' := [.int (((Int8.ofInt 50).toInt32)), .int c]) rfl ?_
          refine En_icLe _ rfl (by decide : ((Int8.ofInt 50).toInt32).toInt = 50) rfl (fun h40 => ?_) (fun h40 => ?_)
          · refine En_Ps 1 (pc' := 77) (lv' := [(4, .ref a33), (0, .ref 0), (1, .int a), (2, .int b), (3, .int c)]) (st' := [.ref a33]) rfl ?_
            refine En_getI (j := 2) (l := 0) (u := 50) rfl rfl rfl ha33 (by decide +kernel) hσ0 (by decide +kernel) (fun z42 h41 h43 h44 => ?_)
            have t45 : Wv (11 + 4 * (a.toInt)) = z42.toInt := KN_v hK (Or.inr (Or.inl ⟨by omega, by omega, by omega⟩)) (by omega) (by omega) (by omega) (by omega) h41
            refine En_Ps 3 (pc' := 85) (lv' := [(5, .int z42), (4, .ref a33), (0, .ref 0), (1, .int a), (2, .int b), (3, .int c)]) (st' := [.int c, .ref a33]) rfl ?_
            refine En_put (j := 2) rfl rfl rfl ha33 (by decide +kernel) rfl (vI (l := 0) (u := 50) (by decide +kernel) rfl (by omega) (by omega)) hσ0 hF0 (by decide +kernel) (fun σ46 h47 h48 h49 h50 => ?_)
            refine En_Ps 1 (pc' := 90) (lv' := [(5, .int z42), (4, .ref a33), (0, .ref 0), (1, .int a), (2, .int b), (3, .int c)]) (st' := [.int z42]) rfl ?_
            exact En_ret (v := some (.int z42)) rfl rfl rfl ⟨h47, h48, z42, rfl, ⟨by omega, by omega, (by have l := lc_d (d := a.toInt) (by omega) (by omega); have q0 := KN_one hK (PLA_B hP) (i := 11 + 4 * (a.toInt)) (v := c.toInt) h49 h50 (by omega) (by omega) ⟨by omega, by omega⟩ rfl (by omega) (Or.inr (Or.inl ⟨by omega, by omega, by omega⟩)); rw [trW_y (i := 11 + 4 * (a.toInt)) (by omega) (by omega)]; exact ⟨trR_y (i := 11 + 4 * (a.toInt)) (by omega) (by omega) t45, q0⟩)⟩⟩
          · refine En_Ps 1 (pc' := 74) (lv' := [(4, .ref a33), (0, .ref 0), (1, .int a), (2, .int b), (3, .int c)]) (st' := [.int (((Int8.ofInt (-2)).toInt32))]) rfl ?_
            refine En_top (by decide : ((Int8.ofInt (-2)).toInt32).toInt = -2) (fun z51 h52 => ?_)
            exact En_ret (v := some (.int z51)) rfl rfl rfl ⟨hσ0, hF0, z51, rfl, ⟨by omega, by omega, (by have q0 : ¬ trC Wv a.toInt b.toInt c.toInt := (by omega); rw [trW_n q0]; exact ⟨trR_n q0 (by omega), hK, OUT_0⟩)⟩⟩
      · refine En_Ps 1 (pc' := 37) (lv' := [(4, .ref a33), (0, .ref 0), (1, .int a), (2, .int b), (3, .int c)]) (st' := [.int c]) rfl ?_
        refine En_callS rfl rfl rfl rfl rfl rfl rfl rfl rfl (c_148 σ0 hσ0 c) (by decide) (by decide) (fun v54 σ55 h53 => ?_)
        obtain ⟨h56, h57, z59, rfl, h58⟩ := h53
        obtain rfl : σ0 = σ55 := Fr_nil h57
        refine En_iNe _ rfl rfl (fun h60 => ?_) (fun h60 => ?_)
        · refine En_Ps 1 (pc' := 48) (lv' := [(4, .ref a33), (0, .ref 0), (1, .int a), (2, .int b), (3, .int c)]) (st' := [.ref a33]) rfl ?_
          refine En_getI (j := 1) (l := 0) (u := 2) rfl rfl rfl ha33 (by decide +kernel) hσ0 (by decide +kernel) (fun z62 h61 h63 h64 => ?_)
          have t65 : Wv (10 + 4 * (a.toInt)) = z62.toInt := KN_v hK (Or.inr (Or.inl ⟨by omega, by omega, by omega⟩)) (by omega) (by omega) (by omega) (by omega) h61
          refine En_Ps 3 (pc' := 56) (lv' := [(5, .int z62), (4, .ref a33), (0, .ref 0), (1, .int a), (2, .int b), (3, .int c)]) (st' := [.int c, .ref a33]) rfl ?_
          refine En_put (j := 1) rfl rfl rfl ha33 (by decide +kernel) rfl (vI (l := 0) (u := 2) (by decide +kernel) rfl (by omega) (by omega)) hσ0 hF0 (by decide +kernel) (fun σ66 h67 h68 h69 h70 => ?_)
          refine En_Ps 1 (pc' := 61) (lv' := [(5, .int z62), (4, .ref a33), (0, .ref 0), (1, .int a), (2, .int b), (3, .int c)]) (st' := [.int z62]) rfl ?_
          exact En_ret (v := some (.int z62)) rfl rfl rfl ⟨h67, h68, z62, rfl, ⟨by omega, by omega, (by have l := lc_d (d := a.toInt) (by omega) (by omega); have q0 := KN_one hK (PLA_B hP) (i := 10 + 4 * (a.toInt)) (v := c.toInt) h69 h70 (by omega) (by omega) ⟨by omega, by omega⟩ rfl (by omega) (Or.inr (Or.inl ⟨by omega, by omega, by omega⟩)); rw [trW_y (i := 10 + 4 * (a.toInt)) (by omega) (by omega)]; exact ⟨trR_y (i := 10 + 4 * (a.toInt)) (by omega) (by omega) t65, q0⟩)⟩⟩
        · refine En_Ps 1 (pc' := 45) (lv' := [(4, .ref a33), (0, .ref 0), (1, .int a), (2, .int b), (3, .int c)]) (st' := [.int (((Int8.ofInt (-2)).toInt32))]) rfl ?_
          refine En_top (by decide : ((Int8.ofInt (-2)).toInt32).toInt = -2) (fun z71 h72 => ?_)
          exact En_ret (v := some (.int z71)) rfl rfl rfl ⟨hσ0, hF0, z71, rfl, ⟨by omega, by omega, (by have q0 : ¬ trC Wv a.toInt b.toInt c.toInt := (by omega); rw [trW_n q0]; exact ⟨trR_n q0 (by omega), hK, OUT_0⟩)⟩⟩
    · refine En_Ps 1 (pc' := 20) (lv' := [(0, .ref 0), (1, .int a), (2, .int b), (3, .int c)]) (st' := [.int (((Int8.ofInt (-2)).toInt32))]) rfl ?_
      refine En_top (by decide : ((Int8.ofInt (-2)).toInt32).toInt = -2) (fun z73 h74 => ?_)
      exact En_ret (v := some (.int z73)) rfl rfl rfl ⟨hσ0, hF0, z73, rfl, ⟨by omega, by omega, (by have q0 : ¬ trC Wv a.toInt b.toInt c.toInt := (by omega); rw [trW_n q0]; exact ⟨trR_n q0 (by omega), hK, OUT_0⟩)⟩⟩
/-- DoorSchool.unteach()I -/
abbrev P_181x (σ0 : SG) (Wv : Int → Int) (p : Nat) (sg : Int32) : PO := fun v σ => WT σ ∧ Fr [(18, 14), (20, 2)] σ0 σ ∧ ∃ ret : Int32, v = some (.int ret) ∧ -ret.toInt - 5 ≤ 0 ∧ ret.toInt - 3 ≤ 0 ∧ (ret.toInt = utR Wv ∧ KN σ p (utW Wv) (act (utW Wv)) ∧ OUT σ0 σ p)
set_option maxRecDepth 10000 in
set_option maxHeartbeats 4000000 in
theorem c_181x {Wv : Int → Int} (σ0 : SG) (hσ0 : WT σ0) (p : Nat) (hp : TG p = 18) (h_p : (σ0 0)[9]? = some (.ref p)) (sg : Int32) (h_sg : (σ0 p)[1]? = some (.int sg)) (hp0 : -sg.toInt ≤ 0) (hP : PLA p) (hX : FXP σ0 p) (hK : KN σ0 p Wv (act Wv)) (hI : WINV Wv) (hT : TGT Wv) : En 2 42 none mr_181 (P_181x σ0 Wv p sg) 0 [(0, .ref 0)] [] σ0 := by
  obtain ⟨hl_sg, hu_sg⟩ := WT_int hσ0 (g := 18) hp (by decide +kernel) (l := (-1)) (u := 4) (by decide +kernel) h_sg
  have hF0 : Fr [(18, 14), (20, 2)] σ0 σ0 := Fr_rfl
  have t1 : Wv (0) = sg.toInt := KN_v hK (Or.inl (by decide)) (by omega) (by omega) (by rw [lcO_lt (by decide) (by decide), Nat.add_zero]) rfl h_sg
  refine En_Ps 1 (pc' := 1) (lv' := [(0, .ref 0)]) (st' := [.ref 0]) rfl ?_
  refine En_getK (j := 9) h_p rfl rfl rfl (by decide +kernel : TG 0 = 0) (by decide +kernel) ?_
  obtain ⟨z3, h2, h4, h5⟩ := WT_peekI hσ0 hp (by decide +kernel : FT 18 0 = (0, 0, 1601)) (by decide +kernel)
  have t6 : Wv (7) = z3.toInt := KN_v hK (Or.inl (by decide)) (by omega) (by omega) (by rw [lcO_lt (by decide) (by decide), Nat.add_zero]) rfl h2
  refine En_callV rfl rfl rfl rfl rfl rfl rfl rfl hp (by decide +kernel) rfl (c_43x σ0 hσ0 p hp z3 h2) (by decide) (by decide) (fun v8 σ9 h7 => ?_)
  obtain ⟨h10, h11, z13, rfl, h12⟩ := h7
  obtain rfl : σ0 = σ9 := Fr_nil h11
  refine En_iNe _ rfl rfl (fun h14 => ?_) (fun h14 => ?_)
  · have h15 := Imp_m h12.2.2.1 (by omega)
    have h16 := Imp_m h12.2.2.2 (by omega)
    refine En_Ps 1 (pc' := 14) (lv' := [(0, .ref 0)]) (st' := [.ref 0]) rfl ?_
    refine En_getK (j := 9) h_p rfl rfl rfl (by decide +kernel : TG 0 = 0) (by decide +kernel) ?_
    refine En_getI (j := 14) (l := 0) (u := 60) rfl rfl rfl hp (by decide +kernel) hσ0 (by decide +kernel) (fun z18 h17 h19 h20 => ?_)
    have t21 : Wv (6) = z18.toInt := KN_v hK (Or.inl (by decide)) (by omega) (by omega) (by rw [lcO_lt (by decide) (by decide), Nat.add_zero]) rfl h17
    refine En_iGt _ rfl rfl (fun h22 => ?_) (fun h22 => ?_)
    · obtain ⟨z24, h23, h25, h26⟩ := WT_peekI hσ0 hp (by decide +kernel : FT 18 3 = (0, 0, 4)) (by decide +kernel)
      have t27 : Wv (2) = z24.toInt := KN_v hK (Or.inl (by decide)) (by omega) (by omega) (by rw [lcO_lt (by decide) (by decide), Nat.add_zero]) rfl h23
      obtain ⟨a29, h28, ha29⟩ := WT_peekR (g := 18) (j := 15) (g' := 27) (u := 0) hσ0 hp (by decide +kernel) (by decide +kernel)
      have t30 : a29 = p + 9 := ref_uniq h28 (FXP_fr hP hX hF0 (by decide +kernel)).2.2.2.2.2.2.1
      obtain ⟨a32, h31, ha32⟩ := WT_peekR (g := 18) (j := 4) (g' := 19) (u := 0) hσ0 hp (by decide +kernel) (by decide +kernel)
      have t33 : a32 = p + 1 := ref_uniq h31 (FXP_fr hP hX hF0 (by decide +kernel)).1
      refine En_Ps 1 (pc' := 27) (lv' := [(0, .ref 0)]) (st' := [.ref 0]) rfl ?_
      refine En_getK (j := 9) h_p rfl rfl rfl (by decide +kernel : TG 0 = 0) (by decide +kernel) ?_
      refine En_Ps 1 (pc' := 31) (lv' := [(0, .ref 0)]) (st' := [.ref p, .ref p]) rfl ?_
      refine En_getK (j := 14) h17 rfl rfl rfl hp (by decide +kernel) ?_
      refine En_Ps 2 (pc' := 36) (lv' := [(0, .ref 0)]) (st' := [.int ((z18 - ((Int32.ofInt 1)))), .ref p]) rfl ?_
      refine En_top (subI rfl (by decide : (Int32.ofInt 1).toInt = 1) (by omega) (by omega)) (fun z34 h35 => ?_)
      refine En_put (j := 14) rfl rfl rfl hp (by decide +kernel) rfl (vI (l := 0) (u := 60) (by decide +kernel) rfl (by omega) (by omega)) hσ0 hF0 (by decide +kernel) (fun σ36 h37 h38 h39 h40 => ?_)
      refine En_Ps 1 (pc' := 40) (lv' := [(0, .ref 0)]) (st' := [.ref 0]) rfl ?_
      refine En_getK (j := 9) ((h40 _ _ (Or.inr (by decide))).trans h_p) rfl rfl rfl (by decide +kernel : TG 0 = 0) (by decide +kernel) ?_
      refine En_getK (j := 15) ((h40 _ _ (Or.inr (by decide))).trans h28) rfl rfl rfl hp (by decide +kernel) ?_
      refine En_Ps 1 (pc' := 47) (lv' := [(0, .ref 0)]) (st' := [.ref 0, .ref a29]) rfl ?_
      refine En_getK (j := 9) ((h40 _ _ (Or.inr (by decide))).trans h_p) rfl rfl rfl (by decide +kernel : TG 0 = 0) (by decide +kernel) ?_
      refine En_getK (j := 14) h39 rfl rfl rfl hp (by decide +kernel) ?_
      refine En_iald (l := 0) (u := 3) rfl rfl ha29 (by decide +kernel) h37 (by omega) (lnI (by decide +kernel : LN _ = 60) (by omega)) (FTsgl (by decide +kernel)) (fun z42 h41 h43 h44 => ?_)
      have t45 := lc_t (m := z34.toInt) (by omega) (by omega)
      have h50 := lc_t (m := z18.toInt - 1) (by omega) (by omega)
      have h46 : Wv (166 + (z18.toInt - 1)) = z42.toInt := KN_v hK (Or.inr (Or.inr (Or.inr (Or.inr (Or.inr (Or.inr ⟨by omega, by omega⟩)))))) (by omega) (by omega) (by omega) (by omega) ((h40 _ _ (Or.inl (by omega))).symm.trans h41)
      have h47 : utD Wv = z42.toInt := by unfold utD; rw [t21]; exact h46
      have h48 := hT (z18.toInt - 1) (by omega) (by omega)
      rw [h46] at h48
      have h49 := WINV_ge hI (d := z42.toInt) (nt := z18.toInt) (by omega) (by omega) h46.symm (by omega) (by omega)
      refine En_Ps 2 (pc' := 56) (lv' := [(1, .int z42), (0, .ref 0)]) (st' := [.ref 0]) rfl ?_
      refine En_getK (j := 9) ((h40 _ _ (Or.inr (by decide))).trans h_p) rfl rfl rfl (by decide +kernel : TG 0 = 0) (by decide +kernel) ?_
      refine En_getK (j := 4) ((h40 _ _ (Or.inr (by decide))).trans h31) rfl rfl rfl hp (by decide +kernel) ?_
      refine En_Ps 1 (pc' := 63) (lv' := [(1, .int z42), (0, .ref 0)]) (st' := [.int z42, .ref a32]) rfl ?_
      refine En_aald (g' := 28) (u := 0) rfl rfl ha32 (by decide +kernel) h37 (by omega) (lnI (by decide +kernel : LN _ = 4) (by omega)) (FTsgl (by decide +kernel)) (fun a52 h51 ha52 => ?_)
      have t53 : a52 = p + 10 + 4 * (z42.toInt).toNat := DRe (d := z42.toInt) (FXP_fr hP hX h38 (by decide +kernel)) t33 h51 (by omega) (by omega)
      have t54 := lc_d (d := z42.toInt) (by omega) (by omega)
      refine En_getR (j := 0) (g' := 20) (u := 0) rfl rfl rfl ha52 (by decide +kernel) h37 (by decide +kernel) (fun a56 h55 ha56 => ?_)
      have t57 : a56 = p + 11 + 4 * (z42.toInt).toNat := DLc (d := z42.toInt) (FXP_fr hP hX h38 (by decide +kernel)) t53 h55 (by omega) (by omega)
      obtain ⟨a59, h58, ha59⟩ := WT_peekR (g := 20) (j := 0) (g' := 21) (u := 0) h37 ha56 (by decide +kernel) (by decide +kernel)
      have t60 : a59 = p + 12 + 4 * (z42.toInt).toNat := DKk (d := z42.toInt) (FXP_fr hP hX h38 (by decide +kernel)) t57 h58 (by omega) (by omega)
      obtain ⟨a62, h61, ha62⟩ := WT_peekR (g := 20) (j := 1) (g' := 22) (u := 0) h37 ha56 (by decide +kernel) (by decide +kernel)
      have t63 : a62 = p + 13 + 4 * (z42.toInt).toNat := DKo (d := z42.toInt) (FXP_fr hP hX h38 (by decide +kernel)) t57 h61 (by omega) (by omega)
      obtain ⟨z65, h64, h66, h67⟩ := WT_peekI h37 ha56 (by decide +kernel : FT 20 2 = (0, 0, 13)) (by decide +kernel)
      have h69 := ((h40 _ _ (Or.inl (by omega))).symm.trans h64)
      have h68 : Wv (12 + 4 * (z42.toInt)) = z65.toInt := KN_v hK (Or.inr (Or.inl ⟨by omega, by omega, by omega⟩)) (by omega) (by omega) (by omega) (by omega) h69
      have : 1 ≤ z65.toInt := by omega
      refine En_callV rfl rfl rfl rfl rfl rfl rfl rfl ha56 (by decide +kernel) rfl (c_33x σ36 h37 a56 ha56 a59 ha59 h58 a62 ha62 h61 z65 h64 (by omega)) (by decide) (by decide) (fun v71 σ72 h70 => ?_)
      obtain ⟨h73, h74, z76, h77, rfl, h75⟩ := h70
      have h78 := h75.2.2.2.2.2.2
      have h79 := Fr_trans h38 h74 (by decide +kernel)
      refine En_Ps 1 (pc' := 71) (lv' := [(1, .int z42), (0, .ref 0)]) (st' := [.int z42]) rfl ?_
      exact En_ret (v := some (.int z42)) rfl rfl rfl ⟨h73, h79, z42, rfl, ⟨by omega, by omega, (by have q0 := KN_unteach hK (PLA_B hP) h68 t21 h47 h39 h40 h78 t57 (by omega) (by omega) (by omega); exact ⟨by unfold utR; rw [if_neg (by omega), if_neg (by omega), h47], by unfold utW; rw [if_neg (by omega), if_neg (by omega)]; exact q0.1, q0.2⟩)⟩⟩
    · refine En_Ps 1 (pc' := 25) (lv' := [(0, .ref 0)]) (st' := [.int (((Int8.ofInt (-5)).toInt32))]) rfl ?_
      refine En_top (by decide : ((Int8.ofInt (-5)).toInt32).toInt = -5) (fun z80 h81 => ?_)
      exact En_ret (v := some (.int z80)) rfl rfl rfl ⟨hσ0, hF0, z80, rfl, ⟨by omega, by omega, ⟨by unfold utR; rw [if_neg (by omega), if_pos (by omega)]; omega, by unfold utW; rw [if_neg (by omega), if_pos (by omega)]; exact hK, OUT_0⟩⟩⟩
  · refine En_Ps 1 (pc' := 12) (lv' := [(0, .ref 0)]) (st' := [.int (((Int8.ofInt (-2)).toInt32))]) rfl ?_
    refine En_top (by decide : ((Int8.ofInt (-2)).toInt32).toInt = -2) (fun z82 h83 => ?_)
    exact En_ret (v := some (.int z82)) rfl rfl rfl ⟨hσ0, hF0, z82, rfl, ⟨by omega, by omega, ⟨by unfold utR; rw [if_pos (by omega)]; omega, by unfold utW; rw [if_pos (by omega)]; exact hK, OUT_0⟩⟩⟩
/-- DoorSchool.why(II)I -/
abbrev P_183x (σ0 : SG) (Wv : Int → Int) (a : Int32) (b : Int32) (p : Nat) (sg : Int32) : PO := fun v σ => WT σ ∧ Fr [] σ0 σ ∧ ∃ ret : Int32, v = some (.int ret) ∧ -ret.toInt - 2 ≤ 0 ∧ ret.toInt - 12 ≤ 0 ∧ ret.toInt = whR Wv a.toInt b.toInt
set_option maxRecDepth 10000 in
set_option maxHeartbeats 4000000 in
theorem c_183x {Wv : Int → Int} (σ0 : SG) (hσ0 : WT σ0) (a : Int32) (b : Int32) (p : Nat) (hp : TG p = 18) (h_p : (σ0 0)[9]? = some (.ref p)) (sg : Int32) (h_sg : (σ0 p)[1]? = some (.int sg)) (hp0 : -sg.toInt ≤ 0) (hP : PLA p) (hX : FXP σ0 p) (hK : KN σ0 p Wv (act Wv)) (hB : WFw Wv) (hT : TWN Wv) (hQ : 0 < Wv 7 → RULx σ0 (Wv 0)) (hq : QX Wv) : En 2 45 none mr_183 (P_183x σ0 Wv a b p sg) 0 [(0, .ref 0), (1, .int a), (2, .int b)] [] σ0 := by
  obtain ⟨hl_sg, hu_sg⟩ := WT_int hσ0 (g := 18) hp (by decide +kernel) (l := (-1)) (u := 4) (by decide +kernel) h_sg
  have hF0 : Fr [] σ0 σ0 := Fr_rfl
  have t1 : Wv (0) = sg.toInt := KN_v hK (Or.inl (by decide)) (by omega) (by omega) (by rw [lcO_lt (by decide) (by decide), Nat.add_zero]) rfl h_sg
  obtain ⟨z3, h2, h4, h5⟩ := WT_peekI hσ0 hp (by decide +kernel : FT 18 3 = (0, 0, 4)) (by decide +kernel)
  have t6 : Wv (2) = z3.toInt := KN_v hK (Or.inl (by decide)) (by omega) (by omega) (by rw [lcO_lt (by decide) (by decide), Nat.add_zero]) rfl h2
  have h7 := hB.2.2.1
  have h8 := hB.1
  have h9 := hB.2.1
  refine En_Ps 1 (pc' := 1) (lv' := [(0, .ref 0), (1, .int a), (2, .int b)]) (st' := [.ref 0]) rfl ?_
  refine En_getK (j := 9) h_p rfl rfl rfl (by decide +kernel : TG 0 = 0) (by decide +kernel) ?_
  refine En_Ps 1 (pc' := 5) (lv' := [(0, .ref 0), (1, .int a), (2, .int b)]) (st' := [.int a, .ref p]) rfl ?_
  refine En_callV rfl rfl rfl rfl rfl rfl rfl rfl hp (by decide +kernel) rfl (c_47x σ0 hσ0 p hp a z3 h2) (by decide) (by decide) (fun v11 σ12 h10 => ?_)
  obtain ⟨h13, h14, z16, rfl, h15⟩ := h10
  obtain rfl : σ0 = σ12 := Fr_nil h14
  refine En_iEq _ rfl rfl (fun h17 => ?_) (fun h17 => ?_)
  · have h18 := Imp_m h15.2.2.2.2.1 (by omega)
    refine En_Ps 1 (pc' := 24) (lv' := [(0, .ref 0), (1, .int a), (2, .int b)]) (st' := [.int (((Int8.ofInt (-2)).toInt32))]) rfl ?_
    refine En_top (by decide : ((Int8.ofInt (-2)).toInt32).toInt = -2) (fun z19 h20 => ?_)
    exact En_ret (v := some (.int z19)) rfl rfl rfl ⟨hσ0, hF0, z19, rfl, ⟨by omega, by omega, whR_n (fun ⟨q1, q2, q3, q4, q5⟩ => by omega) (by omega)⟩⟩
  · have h21 := Imp_m h15.2.2.1 (by omega)
    have h22 := Imp_m h15.2.2.2.1 (by omega)
    have h23 := Imp_m h15.2.2.2.2.2 (by omega)
    refine En_Ps 1 (pc' := 12) (lv' := [(0, .ref 0), (1, .int a), (2, .int b)]) (st' := [.ref 0]) rfl ?_
    refine En_getK (j := 9) h_p rfl rfl rfl (by decide +kernel : TG 0 = 0) (by decide +kernel) ?_
    refine En_Ps 1 (pc' := 16) (lv' := [(0, .ref 0), (1, .int a), (2, .int b)]) (st' := [.int b, .ref p]) rfl ?_
    obtain ⟨z25, h24, h26, h27⟩ := WT_peekI hσ0 hp (by decide +kernel : FT 18 0 = (0, 0, 1601)) (by decide +kernel)
    have t28 : Wv (7) = z25.toInt := KN_v hK (Or.inl (by decide)) (by omega) (by omega) (by rw [lcO_lt (by decide) (by decide), Nat.add_zero]) rfl h24
    refine En_callV rfl rfl rfl rfl rfl rfl rfl rfl hp (by decide +kernel) rfl (c_49x σ0 hσ0 p hp b z25 h24 sg h_sg (by omega)) (by decide) (by decide) (fun v30 σ31 h29 => ?_)
    obtain ⟨h32, h33, z35, rfl, h34⟩ := h29
    have h36 := h34.2.2.2
    obtain rfl : σ0 = σ31 := Fr_nil h33
    have h37 := h36
    have h38 : pI (Wv 0) = pI (sg.toInt) := by rw [t1]
    refine En_iNe _ rfl rfl (fun h39 => ?_) (fun h39 => ?_)
    · have h40 := Imp_m h34.2.2.1 (by omega)
      have h41 := pI_rng (s := Wv 0) (by omega) (by omega)
      have h42 : 0 ≤ b.toInt ∧ b.toInt ≤ 15 := by omega
      refine En_Ps 1 (pc' := 26) (lv' := [(0, .ref 0), (1, .int a), (2, .int b)]) (st' := [.ref 0]) rfl ?_
      refine En_getK (j := 9) h_p rfl rfl rfl (by decide +kernel : TG 0 = 0) (by decide +kernel) ?_
      refine En_Ps 1 (pc' := 30) (lv' := [(0, .ref 0), (1, .int a), (2, .int b)]) (st' := [.int a, .ref p]) rfl ?_
      refine En_callV rfl rfl rfl rfl rfl rfl rfl rfl hp (by decide +kernel) rfl (c_52x σ0 hσ0 p hp a (geI rfl (by omega)) (leI rfl (by omega)) hP (FXP_fr hP hX hF0 (by decide +kernel)) hK (by omega)) (by decide) (by decide) (fun v44 σ45 h43 => ?_)
      obtain ⟨h46, h47, a49, ha49, rfl, h48⟩ := h43
      have h50 := h48
      obtain rfl : σ0 = σ45 := Fr_nil h47
      have h51 := rlW_rg hT (by omega) (by omega) (by omega) h50.2
      have t52 := lc_d (d := rlW Wv a.toInt) (by omega) (by omega)
      have h53 := hB.2.2.2.2.2.2 (rlW Wv a.toInt) (by omega) (by omega)
      refine En_Ps 2 (pc' := 35) (lv' := [(3, .ref a49), (0, .ref 0), (1, .int a), (2, .int b)]) (st' := [.ref a49]) rfl ?_
      refine En_getI (j := 1) (l := 0) (u := 2) rfl rfl rfl ha49 (by decide +kernel) hσ0 (by decide +kernel) (fun z55 h54 h56 h57 => ?_)
      have t58 : Wv (10 + 4 * (rlW Wv a.toInt)) = z55.toInt := KN_v hK (Or.inr (Or.inl ⟨by omega, by omega, by omega⟩)) (by omega) (by omega) (by omega) (by omega) h54
      rcases (show z55.toInt = 0 ∨ z55.toInt = 2 ∨ z55.toInt = 1 by omega) with h59 | h59 | h59
      · refine En_lsw (t := 64) (n := 0) rfl h59 rfl (by decide +kernel) ?_
        refine En_Ps 1 (pc' := 65) (lv' := [(3, .ref a49), (0, .ref 0), (1, .int a), (2, .int b)]) (st' := [.ref a49]) rfl ?_
        refine En_getR (j := 0) (g' := 20) (u := 0) rfl rfl rfl ha49 (by decide +kernel) hσ0 (by decide +kernel) (fun a61 h60 ha61 => ?_)
        have t62 : a61 = p + 11 + 4 * (rlW Wv a.toInt).toNat := DLc (d := rlW Wv a.toInt) (FXP_fr hP hX hF0 (by decide +kernel)) h50.1 h60 (by omega) (by omega)
        refine En_Ps 1 (pc' := 69) (lv' := [(3, .ref a49), (0, .ref 0), (1, .int a), (2, .int b)]) (st' := [.int b, .ref a61]) rfl ?_
        obtain ⟨a64, h63, ha64⟩ := WT_peekR (g := 20) (j := 0) (g' := 21) (u := 0) hσ0 ha61 (by decide +kernel) (by decide +kernel)
        have t65 : a64 = p + 12 + 4 * (rlW Wv a.toInt).toNat := DKk (d := rlW Wv a.toInt) (FXP_fr hP hX hF0 (by decide +kernel)) t62 h63 (by omega) (by omega)
        obtain ⟨a67, h66, ha67⟩ := WT_peekR (g := 20) (j := 1) (g' := 22) (u := 0) hσ0 ha61 (by decide +kernel) (by decide +kernel)
        have t68 : a67 = p + 13 + 4 * (rlW Wv a.toInt).toNat := DKo (d := rlW Wv a.toInt) (FXP_fr hP hX hF0 (by decide +kernel)) t62 h66 (by omega) (by omega)
        obtain ⟨z70, h69, h71, h72⟩ := WT_peekI hσ0 ha61 (by decide +kernel : FT 20 2 = (0, 0, 13)) (by decide +kernel)
        have t73 : Wv (12 + 4 * (rlW Wv a.toInt)) = z70.toInt := KN_v hK (Or.inr (Or.inl ⟨by omega, by omega, by omega⟩)) (by omega) (by omega) (by omega) (by omega) h69
        refine En_callV rfl rfl rfl rfl rfl rfl rfl rfl ha61 (by decide +kernel) rfl (c_36x σ0 hσ0 a61 ha61 b a64 ha64 h63 a67 ha67 h66 z70 h69) (by decide) (by decide) (fun v75 σ76 h74 => ?_)
        obtain ⟨h77, h78, z80, rfl, h79⟩ := h74
        have h81 := h79.2.2
        obtain rfl : σ0 = σ76 := Fr_nil h78
        exact En_ret (v := some (.int z80)) rfl rfl rfl ⟨hσ0, hF0, z80, rfl, ⟨by omega, by omega, whR_y ⟨by omega, by omega, by omega, by omega, by omega⟩ rfl t58 t73 (KN_lk hK (by omega) (by omega) (by omega) t73.symm (by omega) t65) (whL_0 (by omega) h81)⟩⟩
      · refine En_lsw (t := 73) (n := 2) rfl h59 rfl (by decide +kernel) ?_
        refine En_Ps 1 (pc' := 74) (lv' := [(3, .ref a49), (0, .ref 0), (1, .int a), (2, .int b)]) (st' := [.ref a49]) rfl ?_
        refine En_getR (j := 0) (g' := 20) (u := 0) rfl rfl rfl ha49 (by decide +kernel) hσ0 (by decide +kernel) (fun a83 h82 ha83 => ?_)
        have t84 : a83 = p + 11 + 4 * (rlW Wv a.toInt).toNat := DLc (d := rlW Wv a.toInt) (FXP_fr hP hX hF0 (by decide +kernel)) h50.1 h82 (by omega) (by omega)
        refine En_Ps 1 (pc' := 78) (lv' := [(3, .ref a49), (0, .ref 0), (1, .int a), (2, .int b)]) (st' := [.int b, .ref a83]) rfl ?_
        obtain ⟨a86, h85, ha86⟩ := WT_peekR (g := 20) (j := 0) (g' := 21) (u := 0) hσ0 ha83 (by decide +kernel) (by decide +kernel)
        have t87 : a86 = p + 12 + 4 * (rlW Wv a.toInt).toNat := DKk (d := rlW Wv a.toInt) (FXP_fr hP hX hF0 (by decide +kernel)) t84 h85 (by omega) (by omega)
        obtain ⟨a89, h88, ha89⟩ := WT_peekR (g := 20) (j := 1) (g' := 22) (u := 0) hσ0 ha83 (by decide +kernel) (by decide +kernel)
        have t90 : a89 = p + 13 + 4 * (rlW Wv a.toInt).toNat := DKo (d := rlW Wv a.toInt) (FXP_fr hP hX hF0 (by decide +kernel)) t84 h88 (by omega) (by omega)
        obtain ⟨z92, h91, h93, h94⟩ := WT_peekI hσ0 ha83 (by decide +kernel : FT 20 2 = (0, 0, 13)) (by decide +kernel)
        have t95 : Wv (12 + 4 * (rlW Wv a.toInt)) = z92.toInt := KN_v hK (Or.inr (Or.inl ⟨by omega, by omega, by omega⟩)) (by omega) (by omega) (by omega) (by omega) h91
        refine En_callV rfl rfl rfl rfl rfl rfl rfl rfl ha83 (by decide +kernel) rfl (c_37x σ0 hσ0 a83 ha83 b (geI rfl (by omega)) (leI rfl (by omega)) a86 ha86 h85 a89 ha89 h88 z92 h91) (by decide) (by decide) (fun v97 σ98 h96 => ?_)
        obtain ⟨h99, h100, z102, rfl, h101⟩ := h96
        have h103 := h101.2.2
        obtain rfl : σ0 = σ98 := Fr_nil h100
        exact En_ret (v := some (.int z102)) rfl rfl rfl ⟨hσ0, hF0, z102, rfl, ⟨by omega, by omega, whR_y ⟨by omega, by omega, by omega, by omega, by omega⟩ rfl t58 t95 (KN_lk hK (by omega) (by omega) (by omega) t95.symm (by omega) t87) (whL_2 (by omega) h103)⟩⟩
      · refine En_lsw (t := 82) (n := 1) rfl h59 rfl (by decide +kernel) ?_
        refine En_Ps 1 (pc' := 83) (lv' := [(3, .ref a49), (0, .ref 0), (1, .int a), (2, .int b)]) (st' := [.int ((Int32.ofInt (-1)))]) rfl ?_
        refine En_top (by decide : (Int32.ofInt (-1)).toInt = -1) (fun z104 h105 => ?_)
        exact En_ret (v := some (.int z104)) rfl rfl rfl ⟨hσ0, hF0, z104, rfl, ⟨by omega, by omega, whR_y (n := Wv (12 + 4 * (rlW Wv a.toInt))) (k := lkW Wv (rlW Wv a.toInt)) ⟨by omega, by omega, by omega, by omega, by omega⟩ rfl t58 rfl (fun i _ _ => rfl) (whL_1 (by omega) (by omega))⟩⟩
    · refine En_Ps 1 (pc' := 24) (lv' := [(0, .ref 0), (1, .int a), (2, .int b)]) (st' := [.int (((Int8.ofInt (-2)).toInt32))]) rfl ?_
      refine En_top (by decide : ((Int8.ofInt (-2)).toInt32).toInt = -2) (fun z106 h107 => ?_)
      exact En_ret (v := some (.int z106)) rfl rfl rfl ⟨hσ0, hF0, z106, rfl, ⟨by omega, by omega, whR_n (fun ⟨q1, q2, q3, q4, q5⟩ => by omega) (by omega)⟩⟩

