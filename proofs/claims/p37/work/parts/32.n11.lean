/-- DoorSchool.hard()I -/
abbrev P_134x (σ0 : SG) (Wv : Int → Int) (p : Nat) (sg : Int32) : PO := fun v σ => WT σ ∧ Fr [] σ0 σ ∧ ∃ ret : Int32, v = some (.int ret) ∧ -ret.toInt - 2 ≤ 0 ∧ ret.toInt - 4095 ≤ 0 ∧ ret.toInt = hdR Wv
set_option maxRecDepth 10000 in
set_option maxHeartbeats 4000000 in
theorem c_134x {Wv : Int → Int} (σ0 : SG) (hσ0 : WT σ0) (p : Nat) (hp : TG p = 18) (h_p : (σ0 0)[9]? = some (.ref p)) (sg : Int32) (h_sg : (σ0 p)[1]? = some (.int sg)) (hp0 : -sg.toInt ≤ 0) (hP : PLA p) (hX : FXP σ0 p) (hK : KN σ0 p Wv (act Wv)) (hB : WFw Wv) (hT : TWN Wv) (hQ : 0 < Wv 7 → RULx σ0 (Wv 0)) (hq : QX Wv) : En 4 92 none mr_134 (P_134x σ0 Wv p sg) 0 [(0, .ref 0)] [] σ0 := by
  obtain ⟨hl_sg, hu_sg⟩ := WT_int hσ0 (g := 18) hp (by decide +kernel) (l := (-1)) (u := 4) (by decide +kernel) h_sg
  have hF0 : Fr [] σ0 σ0 := Fr_rfl
  have t1 : Wv (0) = sg.toInt := KN_v hK (Or.inl (by decide)) (by omega) (by omega) (by rw [lcO_lt (by decide) (by decide), Nat.add_zero]) rfl h_sg
  obtain ⟨z3, h2, h4, h5⟩ := WT_peekI hσ0 hp (by decide +kernel : FT 18 3 = (0, 0, 4)) (by decide +kernel)
  have t6 : Wv (2) = z3.toInt := KN_v hK (Or.inl (by decide)) (by omega) (by omega) (by rw [lcO_lt (by decide) (by decide), Nat.add_zero]) rfl h2
  have h7 := hB.2.2.1
  have h8 := hB.1
  have h9 := hB.2.1
  have h10 := hB.2.2.2.1
  refine En_Ps 1 (pc' := 1) (lv' := [(0, .ref 0)]) (st' := [.ref 0]) rfl ?_
  refine En_getK (j := 9) h_p rfl rfl rfl (by decide +kernel : TG 0 = 0) (by decide +kernel) ?_
  obtain ⟨z12, h11, h13, h14⟩ := WT_peekI hσ0 hp (by decide +kernel : FT 18 0 = (0, 0, 1601)) (by decide +kernel)
  have t15 : Wv (7) = z12.toInt := KN_v hK (Or.inl (by decide)) (by omega) (by omega) (by rw [lcO_lt (by decide) (by decide), Nat.add_zero]) rfl h11
  refine En_callV rfl rfl rfl rfl rfl rfl rfl rfl hp (by decide +kernel) rfl (c_43x σ0 hσ0 p hp z12 h11) (by decide) (by decide) (fun v17 σ18 h16 => ?_)
  obtain ⟨h19, h20, z22, rfl, h21⟩ := h16
  obtain rfl : σ0 = σ18 := Fr_nil h20
  have h23 := Imp_m h21.2.2.1
  have h24 := Imp_m h21.2.2.2
  refine En_iNe _ rfl rfl (fun h25 => ?_) (fun h25 => ?_)
  · have h26 := Imp_m h21.2.2.1 (by omega)
    have h27 := Imp_m h21.2.2.2 (by omega)
    refine En_Ps 2 (pc' := 15) (lv' := [(0, .ref 0)]) (st' := [.ref 0, .int ((Int32.ofInt 1))]) rfl ?_
    refine En_getK (j := 9) h_p rfl rfl rfl (by decide +kernel : TG 0 = 0) (by decide +kernel) ?_
    refine En_getR (j := 5) (g' := 20) (u := 0) rfl rfl rfl hp (by decide +kernel) hσ0 (by decide +kernel) (fun a29 h28 ha29 => ?_)
    have t30 : a29 = p + 2 := ref_uniq h28 (FXP_fr hP hX hF0 (by decide +kernel)).2.1
    refine En_getI (j := 2) (l := 0) (u := 13) rfl rfl rfl ha29 (by decide +kernel) hσ0 (by decide +kernel) (fun z32 h31 h33 h34 => ?_)
    have t35 : Wv (3) = z32.toInt := KN_v hK (Or.inl (by decide)) (by omega) (by omega) (by rw [lcO_3]; omega) (by decide) h31
    have h36 := t35
    have h37 : z32.toInt ≤ 12 := by omega
    refine En_Ps 1 (pc' := 25) (lv' := [(0, .ref 0)]) (st' := [.int ((((Int32.ofInt 1)) <<< (z32 &&& 31)))]) rfl ?_
    refine En_nam (fun z38 h39 => ?_)
    have h40 : z38.toInt = pI z32.toInt := shl_v h39 rfl (by omega) (by omega)
    have := pI_pos z32.toInt
    have : pI z32.toInt ≤ 4096 := pI_mono (Y := 12) (by omega)
    refine En_Ps 2 (pc' := 27) (lv' := [(0, .ref 0)]) (st' := [.int ((z38 - ((Int32.ofInt 1))))]) rfl ?_
    refine En_top (subI rfl (by decide : (Int32.ofInt 1).toInt = 1) (by omega) (by omega)) (fun z41 h42 => ?_)
    refine En_Ps 3 (pc' := 30) (lv' := [(2, .int ((Int32.ofInt 0))), (1, .int z41), (0, .ref 0)]) (st' := []) rfl ?_
    have key30 : ∀ (n30 : Nat) (y43 : Int32) (y44 : Int32), 0 ≤ y43.toInt → y43.toInt ≤ 4095 → 0 ≤ y44.toInt → y44.toInt ≤ 4 → y44.toInt - z3.toInt ≤ 0 → z3.toInt - y44.toInt < (n30 : Int) → y43.toInt = HRD Wv y44.toInt → y44.toInt ≤ Wv 2 → En 4 92 none mr_134 (P_134x σ0 Wv p sg) 30 [(0, .ref 0), (1, .int y43), (2, .int y44)] [] σ0 := by
      intro n30
      induction n30 with
      | zero =>
        intro y43 y44 h48 h49 h50 h51 h52 h53 h54 h55
        exfalso; omega
      | succ n30 ih30 =>
        intro y43 y44 h48 h49 h50 h51 h52 h53 h54 h55
        refine En_Ps 2 (pc' := 32) (lv' := [(0, .ref 0), (1, .int y43), (2, .int y44)]) (st' := [.ref 0, .int y44]) rfl ?_
        refine En_getK (j := 9) h_p rfl rfl rfl (by decide +kernel : TG 0 = 0) (by decide +kernel) ?_
        refine En_getK (j := 3) h2 rfl rfl rfl hp (by decide +kernel) ?_
        refine En_icGe _ rfl rfl rfl (fun h56 => ?_) (fun h56 => ?_)
        · refine En_Ps 1 (pc' := 68) (lv' := [(0, .ref 0), (1, .int y43), (2, .int y44)]) (st' := [.int y43]) rfl ?_
          exact En_ret (v := some (.int y43)) rfl rfl rfl ⟨hσ0, hF0, y43, rfl, ⟨by omega, by omega, hdR_y (by omega) (i := y44.toInt) (by omega) h54 rfl⟩⟩
        · refine En_Ps 2 (pc' := 43) (lv' := [(0, .ref 0), (1, .int y43), (2, .int y44)]) (st' := [.ref 0, .int y43]) rfl ?_
          refine En_getK (j := 9) h_p rfl rfl rfl (by decide +kernel : TG 0 = 0) (by decide +kernel) ?_
          refine En_getK (j := 5) h28 rfl rfl rfl hp (by decide +kernel) ?_
          refine En_Ps 2 (pc' := 51) (lv' := [(0, .ref 0), (1, .int y43), (2, .int y44)]) (st' := [.int y44, .ref 0, .ref a29, .int y43]) rfl ?_
          refine En_callV rfl rfl rfl rfl rfl rfl rfl rfl (by decide +kernel : TG 0 = 0) (by decide +kernel) rfl (c_114ax σ0 hσ0 y44 (geI rfl (by omega)) (leI rfl (by omega)) p hp h_p sg h_sg (by omega) hP (FXP_fr hP hX hF0 (by decide +kernel)) hK hB hT (by omega) (hQ (hq (by omega)))) (by decide) (by decide) (fun v58 σ59 h57 => ?_)
          obtain ⟨h60, h61, z63, rfl, h62⟩ := h57
          have h64 := h62.2.2
          obtain rfl : σ0 = σ59 := Fr_nil h61
          obtain ⟨a66, h65, ha66⟩ := WT_peekR (g := 20) (j := 0) (g' := 21) (u := 0) hσ0 ha29 (by decide +kernel) (by decide +kernel)
          have t67 : a66 = p + 3 := EKk (FXP_fr hP hX hF0 (by decide +kernel)) t30 h65
          obtain ⟨a69, h68, ha69⟩ := WT_peekR (g := 20) (j := 1) (g' := 22) (u := 0) hσ0 ha29 (by decide +kernel) (by decide +kernel)
          have t70 : a69 = p + 4 := EKo (FXP_fr hP hX hF0 (by decide +kernel)) t30 h68
          refine En_callV rfl rfl rfl rfl rfl rfl rfl rfl ha29 (by decide +kernel) rfl (c_32x σ0 hσ0 a29 ha29 z63 (geI rfl (by omega)) (leI rfl (by omega)) a66 ha66 h65 a69 ha69 h68 z32 h31) (by decide) (by decide) (fun v72 σ73 h71 => ?_)
          obtain ⟨h74, h75, z77, rfl, h76⟩ := h71
          have h78 := h76.2.2
          obtain rfl : σ0 = σ73 := Fr_nil h75
          refine En_Ps 2 (pc' := 59) (lv' := [(0, .ref 0), (1, .int y43), (2, .int y44)]) (st' := [.int ((z77 ^^^ ((Int32.ofInt (-1))))), .int y43]) rfl ?_
          refine En_nam (fun z79 h80 => ?_)
          refine En_Ps 1 (pc' := 60) (lv' := [(0, .ref 0), (1, .int y43), (2, .int y44)]) (st' := [.int ((y43 &&& z79))]) rfl ?_
          refine En_nam (fun z82 h83 => ?_)
          have h84 : z82.toInt = y43.toInt - aN y43.toInt z77.toInt := andn_v h83 h80 rfl rfl (by omega) (by omega)
          have := aN_le (X := y43.toInt) (Y := z77.toInt) (by omega) (by omega)
          refine En_Ps 2 (pc' := 64) (lv' := [(2, .int ((y44 + Int32.ofInt 1))), (1, .int z82), (0, .ref 0)]) (st' := []) rfl ?_
          refine En_lv1 (addI rfl (by decide : (Int32.ofInt 1).toInt = 1) (by omega) (by omega)) (fun z85 h86 => ?_)
          refine En_Ps 1 (pc' := 30) (lv' := [(2, .int z85), (1, .int z82), (0, .ref 0)]) (st' := []) rfl ?_
          refine En_lv (lv := [(0, .ref 0), (1, .int z82), (2, .int z85)]) ⟨rfl, rfl, rfl, trivial⟩ ?_
          exact ih30 z82 z85 (by omega) (by omega) (by omega) (by omega) (by omega) (by omega) (HRD_s (by omega) h54 t35.symm (by omega) (by omega) (KN_ek hK t35.symm (by omega) t67) (KN_eo hK t35.symm (by omega) t70) h64 h78 (by omega) (by omega)) ((by omega))
    have := (by decide : (Int32.ofInt 0).toInt = 0)
    refine En_lv (lv := [(0, .ref 0), (1, .int z41), (2, .int ((Int32.ofInt 0)))]) ⟨rfl, rfl, rfl, trivial⟩ ?_
    exact key30 (Int.toNat (z3.toInt) + 1) z41 ((Int32.ofInt 0)) (by omega) (by omega) (by omega) (by omega) (by omega) (by omega) (HRD_0 (by omega) t35 (by omega) (by omega)) ((by omega))
  · refine En_Ps 1 (pc' := 12) (lv' := [(0, .ref 0)]) (st' := [.int (((Int8.ofInt (-2)).toInt32))]) rfl ?_
    refine En_top (by decide : ((Int8.ofInt (-2)).toInt32).toInt = -2) (fun z87 h88 => ?_)
    exact En_ret (v := some (.int z87)) rfl rfl rfl ⟨hσ0, hF0, z87, rfl, ⟨by omega, by omega, hdR_n (by omega) (by omega)⟩⟩
/-- DoorSchool.harden(I)I -/
abbrev P_135x (σ0 : SG) (Wv : Int → Int) (a : Int32) (p : Nat) (sg : Int32) : PO := fun v σ => WT σ ∧ Fr [(20, 2), (21, 0), (22, 0)] σ0 σ ∧ ∃ ret : Int32, v = some (.int ret) ∧ -ret.toInt - 2 ≤ 0 ∧ ret.toInt - 15 ≤ 0 ∧ Imp (-ret.toInt - 1 ≤ 0) (-a.toInt ≤ 0 ∧ a.toInt - 3 ≤ 0) ∧ Imp (-ret.toInt ≤ 0) (ret.toInt - 15 ≤ 0) ∧ Imp (-ret.toInt - 1 ≤ 0) (a.toInt - Wv 2 + 1 ≤ 0) ∧ (ret.toInt = hnR Wv a.toInt ∧ (KN σ p Wv (act Wv) ∧ OUT σ0 σ p))
set_option maxRecDepth 10000 in
set_option maxHeartbeats 4000000 in
theorem c_135x {Wv : Int → Int} (σ0 : SG) (hσ0 : WT σ0) (a : Int32) (p : Nat) (hp : TG p = 18) (h_p : (σ0 0)[9]? = some (.ref p)) (sg : Int32) (h_sg : (σ0 p)[1]? = some (.int sg)) (hp0 : -sg.toInt ≤ 0) (hP : PLA p) (hX : FXP σ0 p) (hK : KN σ0 p Wv (act Wv)) (hB : WFw Wv) (hT : TWN Wv) (hQ : 0 < Wv 7 → RULx σ0 (Wv 0)) (hq : QX Wv) : En 5 116 none mr_135 (P_135x σ0 Wv a p sg) 0 [(0, .ref 0), (1, .int a)] [] σ0 := by
  obtain ⟨hl_sg, hu_sg⟩ := WT_int hσ0 (g := 18) hp (by decide +kernel) (l := (-1)) (u := 4) (by decide +kernel) h_sg
  have hF0 : Fr [(20, 2), (21, 0), (22, 0)] σ0 σ0 := Fr_rfl
  have t1 : Wv (0) = sg.toInt := KN_v hK (Or.inl (by decide)) (by omega) (by omega) (by rw [lcO_lt (by decide) (by decide), Nat.add_zero]) rfl h_sg
  obtain ⟨z3, h2, h4, h5⟩ := WT_peekI hσ0 hp (by decide +kernel : FT 18 3 = (0, 0, 4)) (by decide +kernel)
  have t6 : Wv (2) = z3.toInt := KN_v hK (Or.inl (by decide)) (by omega) (by omega) (by rw [lcO_lt (by decide) (by decide), Nat.add_zero]) rfl h2
  refine En_Ps 1 (pc' := 1) (lv' := [(0, .ref 0), (1, .int a)]) (st' := [.ref 0]) rfl ?_
  refine En_getK (j := 9) h_p rfl rfl rfl (by decide +kernel : TG 0 = 0) (by decide +kernel) ?_
  refine En_Ps 1 (pc' := 5) (lv' := [(0, .ref 0), (1, .int a)]) (st' := [.int a, .ref p]) rfl ?_
  refine En_callV rfl rfl rfl rfl rfl rfl rfl rfl hp (by decide +kernel) rfl (c_47x σ0 hσ0 p hp a z3 h2) (by decide) (by decide) (fun v8 σ9 h7 => ?_)
  obtain ⟨h10, h11, z13, rfl, h12⟩ := h7
  obtain rfl : σ0 = σ9 := Fr_nil h11
  have h14 := Imp_m h12.2.2.1
  have h15 := Imp_m h12.2.2.2.1
  have h16 := Imp_m h12.2.2.2.2.1
  have h17 := Imp_m h12.2.2.2.2.2
  refine En_iNe _ rfl rfl (fun h18 => ?_) (fun h18 => ?_)
  · have h19 := Imp_m h12.2.2.1 (by omega)
    have h20 := Imp_m h12.2.2.2.1 (by omega)
    have h21 := Imp_m h12.2.2.2.2.2 (by omega)
    refine En_Ps 4 (pc' := 18) (lv' := [(2, .int ((Int32.ofInt (-1)))), (0, .ref 0), (1, .int a)]) (st' := [.int a, .ref 0]) rfl ?_
    refine En_callV rfl rfl rfl rfl rfl rfl rfl rfl (by decide +kernel : TG 0 = 0) (by decide +kernel) rfl (c_126x σ0 hσ0 a (geI rfl (by omega)) (leI rfl (by omega)) p hp h_p sg h_sg (by omega) hP (FXP_fr hP hX hF0 (by decide +kernel)) hK hB hT (hQ (hq (by omega))) (by omega)) (by decide) (by decide) (fun v23 σ24 h22 => ?_)
    obtain ⟨h25, h26, z28, rfl, h27⟩ := h22
    have h29 := h27.2.2
    obtain rfl : σ0 = σ24 := Fr_nil h26
    refine En_callS rfl rfl rfl rfl rfl rfl rfl rfl rfl (c_7bx σ0 hσ0 z28 (geI rfl (by omega)) (leI rfl (by omega))) (by decide) (by decide) (fun v31 σ32 h30 => ?_)
    obtain ⟨h33, h34, z36, rfl, h35⟩ := h30
    have h37 := h35.2.2
    obtain rfl : σ0 = σ32 := Fr_nil h34
    refine En_Ps 3 (pc' := 28) (lv' := [(4, .int ((Int32.ofInt 0))), (3, .int z36), (2, .int ((Int32.ofInt (-1)))), (0, .ref 0), (1, .int a)]) (st' := []) rfl ?_
    have key28 : ∀ (n28 : Nat) (σ41 : SG) (y38 : Int32) (y39 : Int32) (y40 : Int32), WT σ41 → Fr [(20, 2), (21, 0), (22, 0)] σ0 σ41 → (σ41 0)[9]? = some (.ref p) → (σ41 p)[1]? = some (.int sg) → (σ41 p)[3]? = some (.int z3) → (-1) ≤ y38.toInt → y38.toInt ≤ 15 → 0 ≤ y39.toInt → y39.toInt ≤ 16 → 0 ≤ y40.toInt → y40.toInt ≤ 16 → y38.toInt - y40.toInt + 1 ≤ 0 → -y40.toInt + 16 < (n28 : Int) → KN σ41 p Wv (act Wv) → OUT σ0 σ41 p → HDI Wv a.toInt y40.toInt y38.toInt y39.toInt → y40.toInt ≤ pI (Wv 0) → En 5 116 none mr_135 (P_135x σ0 Wv a p sg) 28 [(0, .ref 0), (1, .int a), (2, .int y38), (3, .int y39), (4, .int y40)] [] σ41 := by
      intro n28
      induction n28 with
      | zero =>
        intro σ41 y38 y39 y40 h42 h43 h44 h45 h46 h47 h48 h49 h50 h51 h52 h53 h54 h55 h56 h57 h58
        exfalso; omega
      | succ n28 ih28 =>
        intro σ41 y38 y39 y40 h42 h43 h44 h45 h46 h47 h48 h49 h50 h51 h52 h53 h54 h55 h56 h57 h58
        refine En_Ps 2 (pc' := 31) (lv' := [(0, .ref 0), (1, .int a), (2, .int y38), (3, .int y39), (4, .int y40)]) (st' := [.ref 0, .int y40]) rfl ?_
        refine En_getK (j := 9) h44 rfl rfl rfl (by decide +kernel : TG 0 = 0) (by decide +kernel) ?_
        refine En_callV rfl rfl rfl rfl rfl rfl rfl rfl hp (by decide +kernel) rfl (c_51x σ41 h42 p hp sg h45 (by omega)) (by decide) (by decide) (fun v60 σ61 h59 => ?_)
        obtain ⟨h62, h63, z65, rfl, h64⟩ := h59
        have h66 := h64.2.2
        obtain rfl : σ41 = σ61 := Fr_nil h63
        have h67 := h66
        have h68 : pI (Wv 0) = pI (sg.toInt) := by rw [t1]
        refine En_icGe _ rfl rfl rfl (fun h69 => ?_) (fun h69 => ?_)
        · refine En_Ps 1 (pc' := 68) (lv' := [(0, .ref 0), (1, .int a), (2, .int y38), (3, .int y39), (4, .int y40)]) (st' := [.int y38]) rfl ?_
          exact En_ret (v := some (.int y38)) rfl rfl rfl ⟨h42, h43, y38, rfl, ⟨by omega, by omega, fun _ => by omega, fun _ => by omega, fun _ => by omega, ⟨hnR_y ⟨by omega, by omega⟩ (hnN_of h57 (by omega) (by omega)), ⟨h55, h56⟩⟩⟩⟩
        · refine En_Ps 3 (pc' := 44) (lv' := [(0, .ref 0), (1, .int a), (2, .int y38), (3, .int y39), (4, .int y40)]) (st' := [.int y40, .int a, .ref 0]) rfl ?_
          refine En_callV rfl rfl rfl rfl rfl rfl rfl rfl (by decide +kernel : TG 0 = 0) (by decide +kernel) rfl (c_127x σ41 h42 a y40 (geI rfl (by omega)) (leI rfl (by omega)) (geI rfl (by omega)) (leI rfl (by omega)) p hp h44 sg h45 (by omega) hP (FXP_fr hP hX h43 (by decide +kernel)) h55 hB hT (by omega) (RULx_sam (hQ (hq (by omega))) (RSAM_fr h43 (by decide +kernel)))) (by decide) (by decide) (fun v71 σ72 h70 => ?_)
          obtain ⟨h73, h74, z76, rfl, h75⟩ := h70
          have h77 := h75.2.2
          have h78 := Fr_trans h43 h74 (by decide +kernel)
          have h79 := OUT_tr h56 h77.2.2
          refine En_Ps 3 (pc' := 52) (lv' := [(5, .int z76), (0, .ref 0), (1, .int a), (2, .int y38), (3, .int y39), (4, .int y40)]) (st' := [.int y39, .int z76]) rfl ?_
          refine En_icGe _ rfl rfl rfl (fun h80 => ?_) (fun h80 => ?_)
          · refine En_Ps 1 (pc' := 64) (lv' := [(4, .int ((y40 + Int32.ofInt 1))), (5, .int z76), (0, .ref 0), (1, .int a), (2, .int y38), (3, .int y39)]) (st' := []) rfl ?_
            refine En_lv1 (addI rfl (by decide : (Int32.ofInt 1).toInt = 1) (by omega) (by omega)) (fun z81 h82 => ?_)
            refine En_Ps 1 (pc' := 28) (lv' := [(4, .int z81), (5, .int z76), (0, .ref 0), (1, .int a), (2, .int y38), (3, .int y39)]) (st' := []) rfl ?_
            refine En_lv (lv := [(0, .ref 0), (1, .int a), (2, .int y38), (3, .int y39), (4, .int z81)]) ⟨rfl, rfl, rfl, rfl, rfl, trivial⟩ ?_
            exact ih28 σ72 y38 y39 z81 h73 h78 ((h74 _ _ (inW (by decide +kernel : TG 0 = 0) (by decide +kernel))).trans h44) ((h74 _ _ (inW hp (by decide +kernel))).trans h45) ((h74 _ _ (inW hp (by decide +kernel))).trans h46) (by omega) (by omega) (by omega) (by omega) (by omega) (by omega) (by omega) (by omega) (h77.2.1) (h79) ((by first | exact HDI_y h57 (by omega) h77.1 (by omega) (by omega) (by omega) (by omega) | exact HDI_n h57 (by omega) h77.1 (by omega) (by omega) (by omega) (by omega))) ((by omega))
          · refine En_Ps 5 (pc' := 64) (lv' := [(4, .int ((y40 + Int32.ofInt 1))), (2, .int y40), (3, .int z76), (5, .int z76), (0, .ref 0), (1, .int a)]) (st' := []) rfl ?_
            refine En_lv1 (addI rfl (by decide : (Int32.ofInt 1).toInt = 1) (by omega) (by omega)) (fun z83 h84 => ?_)
            refine En_Ps 1 (pc' := 28) (lv' := [(4, .int z83), (2, .int y40), (3, .int z76), (5, .int z76), (0, .ref 0), (1, .int a)]) (st' := []) rfl ?_
            refine En_lv (lv := [(0, .ref 0), (1, .int a), (2, .int y40), (3, .int z76), (4, .int z83)]) ⟨rfl, rfl, rfl, rfl, rfl, trivial⟩ ?_
            exact ih28 σ72 y40 z76 z83 h73 h78 ((h74 _ _ (inW (by decide +kernel : TG 0 = 0) (by decide +kernel))).trans h44) ((h74 _ _ (inW hp (by decide +kernel))).trans h45) ((h74 _ _ (inW hp (by decide +kernel))).trans h46) (by omega) (by omega) (by omega) (by omega) (by omega) (by omega) (by omega) (by omega) (h77.2.1) (h79) ((by first | exact HDI_y h57 (by omega) h77.1 (by omega) (by omega) (by omega) (by omega) | exact HDI_n h57 (by omega) h77.1 (by omega) (by omega) (by omega) (by omega))) ((by omega))
    have := (by decide : (Int32.ofInt (-1)).toInt = -1)
    have := (by decide : (Int32.ofInt 0).toInt = 0)
    refine En_lv (lv := [(0, .ref 0), (1, .int a), (2, .int ((Int32.ofInt (-1)))), (3, .int z36), (4, .int ((Int32.ofInt 0)))]) ⟨rfl, rfl, rfl, rfl, rfl, trivial⟩ ?_
    exact key28 (Int.toNat (16) + 1) σ0 ((Int32.ofInt (-1))) z36 ((Int32.ofInt 0)) hσ0 hF0 h_p h_sg h2 (by omega) (by omega) (by omega) (by omega) (by omega) (by omega) (by omega) (by omega) (hK) (OUT_0) (HDI_0 (by omega) (by omega) (fon_of h29 h37)) ((by have := pI_pos (Wv 0); omega))
  · have h85 := Imp_m h12.2.2.2.2.1 (by omega)
    refine En_Ps 1 (pc' := 13) (lv' := [(0, .ref 0), (1, .int a)]) (st' := [.int (((Int8.ofInt (-2)).toInt32))]) rfl ?_
    refine En_top (by decide : ((Int8.ofInt (-2)).toInt32).toInt = -2) (fun z86 h87 => ?_)
    exact En_ret (v := some (.int z86)) rfl rfl rfl ⟨hσ0, hF0, z86, rfl, ⟨by omega, by omega, fun _ => by omega, fun _ => by omega, fun _ => by omega, ⟨hnR_n (fun ⟨q1, q2⟩ => by omega) (by omega), ⟨hK, OUT_0⟩⟩⟩⟩
/-- DoorSchool.help(I)I -/
abbrev P_136x (σ0 : SG) (Wv : Int → Int) (a : Int32) (p : Nat) (sg : Int32) : PO := fun v σ => WT σ ∧ Fr [(20, 2), (21, 0), (22, 0)] σ0 σ ∧ ∃ ret : Int32, v = some (.int ret) ∧ -ret.toInt - 2 ≤ 0 ∧ ret.toInt - 49 ≤ 0 ∧ (ret.toInt = hlR Wv a.toInt ∧ (KN σ p Wv (act Wv) ∧ OUT σ0 σ p))
set_option maxRecDepth 10000 in
set_option maxHeartbeats 4000000 in
theorem c_136x {Wv : Int → Int} (σ0 : SG) (hσ0 : WT σ0) (a : Int32) (p : Nat) (hp : TG p = 18) (h_p : (σ0 0)[9]? = some (.ref p)) (sg : Int32) (h_sg : (σ0 p)[1]? = some (.int sg)) (hp0 : -sg.toInt ≤ 0) (hP : PLA p) (hX : FXP σ0 p) (hK : KN σ0 p Wv (act Wv)) (hB : WFw Wv) (hT : TWN Wv) (hQ : 0 < Wv 7 → RULx σ0 (Wv 0)) (hq : QX Wv) : En 5 118 none mr_136 (P_136x σ0 Wv a p sg) 0 [(0, .ref 0), (1, .int a)] [] σ0 := by
  obtain ⟨hl_sg, hu_sg⟩ := WT_int hσ0 (g := 18) hp (by decide +kernel) (l := (-1)) (u := 4) (by decide +kernel) h_sg
  have hF0 : Fr [(20, 2), (21, 0), (22, 0)] σ0 σ0 := Fr_rfl
  have t1 : Wv (0) = sg.toInt := KN_v hK (Or.inl (by decide)) (by omega) (by omega) (by rw [lcO_lt (by decide) (by decide), Nat.add_zero]) rfl h_sg
  obtain ⟨z3, h2, h4, h5⟩ := WT_peekI hσ0 hp (by decide +kernel : FT 18 3 = (0, 0, 4)) (by decide +kernel)
  have t6 : Wv (2) = z3.toInt := KN_v hK (Or.inl (by decide)) (by omega) (by omega) (by rw [lcO_lt (by decide) (by decide), Nat.add_zero]) rfl h2
  refine En_Ps 1 (pc' := 1) (lv' := [(0, .ref 0), (1, .int a)]) (st' := [.ref 0]) rfl ?_
  refine En_getK (j := 9) h_p rfl rfl rfl (by decide +kernel : TG 0 = 0) (by decide +kernel) ?_
  refine En_Ps 1 (pc' := 5) (lv' := [(0, .ref 0), (1, .int a)]) (st' := [.int a, .ref p]) rfl ?_
  refine En_callV rfl rfl rfl rfl rfl rfl rfl rfl hp (by decide +kernel) rfl (c_47x σ0 hσ0 p hp a z3 h2) (by decide) (by decide) (fun v8 σ9 h7 => ?_)
  obtain ⟨h10, h11, z13, rfl, h12⟩ := h7
  obtain rfl : σ0 = σ9 := Fr_nil h11
  have h14 := Imp_m h12.2.2.1
  have h15 := Imp_m h12.2.2.2.1
  have h16 := Imp_m h12.2.2.2.2.1
  have h17 := Imp_m h12.2.2.2.2.2
  refine En_iNe _ rfl rfl (fun h18 => ?_) (fun h18 => ?_)
  · have h19 := Imp_m h12.2.2.1 (by omega)
    have h20 := Imp_m h12.2.2.2.1 (by omega)
    have h21 := Imp_m h12.2.2.2.2.2 (by omega)
    refine En_Ps 6 (pc' := 21) (lv' := [(4, .int ((Int32.ofInt 0))), (3, .int ((Int32.ofInt 0))), (2, .int ((Int32.ofInt (-1)))), (0, .ref 0), (1, .int a)]) (st' := []) rfl ?_
    have key21 : ∀ (n21 : Nat) (σ25 : SG) (y22 : Int32) (y23 : Int32) (y24 : Int32), WT σ25 → Fr [(20, 2), (21, 0), (22, 0)] σ0 σ25 → (σ25 0)[9]? = some (.ref p) → (σ25 p)[1]? = some (.int sg) → (σ25 p)[3]? = some (.int z3) → (-1) ≤ y22.toInt → y22.toInt ≤ 50 → 0 ≤ y23.toInt → y23.toInt ≤ 16 → 0 ≤ y24.toInt → y24.toInt ≤ 50 → y22.toInt - y24.toInt + 1 ≤ 0 → -y24.toInt + 50 < (n21 : Int) → KN σ25 p Wv (act Wv) → OUT σ0 σ25 p → HLI Wv a.toInt y24.toInt y22.toInt y23.toInt → y24.toInt ≤ 2 * pI (Wv 0) → En 5 118 none mr_136 (P_136x σ0 Wv a p sg) 21 [(0, .ref 0), (1, .int a), (2, .int y22), (3, .int y23), (4, .int y24)] [] σ25 := by
      intro n21
      induction n21 with
      | zero =>
        intro σ25 y22 y23 y24 h26 h27 h28 h29 h30 h31 h32 h33 h34 h35 h36 h37 h38 h39 h40 h41 h42
        exfalso; omega
      | succ n21 ih21 =>
        intro σ25 y22 y23 y24 h26 h27 h28 h29 h30 h31 h32 h33 h34 h35 h36 h37 h38 h39 h40 h41 h42
        refine En_Ps 3 (pc' := 25) (lv' := [(0, .ref 0), (1, .int a), (2, .int y22), (3, .int y23), (4, .int y24)]) (st' := [.ref 0, .int ((Int32.ofInt 2)), .int y24]) rfl ?_
        refine En_getK (j := 9) h28 rfl rfl rfl (by decide +kernel : TG 0 = 0) (by decide +kernel) ?_
        refine En_callV rfl rfl rfl rfl rfl rfl rfl rfl hp (by decide +kernel) rfl (c_51x σ25 h26 p hp sg h29 (by omega)) (by decide) (by decide) (fun v44 σ45 h43 => ?_)
        obtain ⟨h46, h47, z49, rfl, h48⟩ := h43
        have h50 := h48.2.2
        obtain rfl : σ25 = σ45 := Fr_nil h47
        have h51 := h50
        have h52 : pI (Wv 0) = pI (sg.toInt) := by rw [t1]
        refine En_Ps 1 (pc' := 32) (lv' := [(0, .ref 0), (1, .int a), (2, .int y22), (3, .int y23), (4, .int y24)]) (st' := [.int ((((Int32.ofInt 2)) * z49)), .int y24]) rfl ?_
        refine En_top (mulI (by decide : (Int32.ofInt 2).toInt = 2) rfl (Z := 2 * z49.toInt) (by omega) (by omega) (by omega)) (fun z53 h54 => ?_)
        refine En_icGe _ rfl rfl rfl (fun h55 => ?_) (fun h55 => ?_)
        · refine En_Ps 1 (pc' := 69) (lv' := [(0, .ref 0), (1, .int a), (2, .int y22), (3, .int y23), (4, .int y24)]) (st' := [.int y22]) rfl ?_
          exact En_ret (v := some (.int y22)) rfl rfl rfl ⟨h26, h27, y22, rfl, ⟨by omega, by omega, ⟨hlR_y ⟨by omega, by omega⟩ h41 (by omega) (by omega), ⟨h39, h40⟩⟩⟩⟩
        · refine En_Ps 4 (pc' := 40) (lv' := [(0, .ref 0), (1, .int a), (2, .int y22), (3, .int y23), (4, .int y24)]) (st' := [.int ((Int32.ofInt 2)), .int y24, .int a, .ref 0]) rfl ?_
          refine En_idiv (c := 2) rfl rfl (by decide : (Int32.ofInt 2).toInt = 2) (by omega) (by decide) (fun z56 h57 => ?_)
          refine En_Ps 2 (pc' := 44) (lv' := [(0, .ref 0), (1, .int a), (2, .int y22), (3, .int y23), (4, .int y24)]) (st' := [.int ((Int32.ofInt 2)), .int y24, .int z56, .int a, .ref 0]) rfl ?_
          refine En_irem (c := 2) rfl rfl (by decide : (Int32.ofInt 2).toInt = 2) (by omega) (by decide) (fun z58 h59 => ?_)
          refine En_callV rfl rfl rfl rfl rfl rfl rfl rfl (by decide +kernel : TG 0 = 0) (by decide +kernel) rfl (c_129x σ25 h26 a z56 z58 (geI rfl (by omega)) (leI rfl (by omega)) (geI rfl (by omega)) (leI rfl (by omega)) (geI rfl (by omega)) (leI rfl (by omega)) p hp h28 sg h29 (by omega) hP (FXP_fr hP hX h27 (by decide +kernel)) h39 hB hT (by omega) (RULx_sam (hQ (hq (by omega))) (RSAM_fr h27 (by decide +kernel)))) (by decide) (by decide) (fun v61 σ62 h60 => ?_)
          obtain ⟨h63, h64, z66, rfl, h65⟩ := h60
          have h67 := h65.2.2
          have h68 := Fr_trans h27 h64 (by decide +kernel)
          have h69 := OUT_tr h40 h67.2.2
          refine En_Ps 3 (pc' := 53) (lv' := [(5, .int z66), (0, .ref 0), (1, .int a), (2, .int y22), (3, .int y23), (4, .int y24)]) (st' := [.int y23, .int z66]) rfl ?_
          refine En_icLe _ rfl rfl rfl (fun h70 => ?_) (fun h70 => ?_)
          · refine En_Ps 1 (pc' := 65) (lv' := [(4, .int ((y24 + Int32.ofInt 1))), (5, .int z66), (0, .ref 0), (1, .int a), (2, .int y22), (3, .int y23)]) (st' := []) rfl ?_
            refine En_lv1 (addI rfl (by decide : (Int32.ofInt 1).toInt = 1) (by omega) (by omega)) (fun z71 h72 => ?_)
            refine En_Ps 1 (pc' := 21) (lv' := [(4, .int z71), (5, .int z66), (0, .ref 0), (1, .int a), (2, .int y22), (3, .int y23)]) (st' := []) rfl ?_
            refine En_lv (lv := [(0, .ref 0), (1, .int a), (2, .int y22), (3, .int y23), (4, .int z71)]) ⟨rfl, rfl, rfl, rfl, rfl, trivial⟩ ?_
            exact ih21 σ62 y22 y23 z71 h63 h68 ((h64 _ _ (inW (by decide +kernel : TG 0 = 0) (by decide +kernel))).trans h28) ((h64 _ _ (inW hp (by decide +kernel))).trans h29) ((h64 _ _ (inW hp (by decide +kernel))).trans h30) (by omega) (by omega) (by omega) (by omega) (by omega) (by omega) (by omega) (by omega) (h67.2.1) (h69) ((by first | exact HLI_y h41 (by omega) (q := z56.toInt) (v := z58.toInt) (by omega) (by omega) h67.1 (by omega) (by omega) (by omega) (by omega) | exact HLI_n h41 (by omega) (q := z56.toInt) (v := z58.toInt) (by omega) (by omega) h67.1 (by omega) (by omega) (by omega) (by omega))) ((by omega))
          · refine En_Ps 5 (pc' := 65) (lv' := [(4, .int ((y24 + Int32.ofInt 1))), (2, .int y24), (3, .int z66), (5, .int z66), (0, .ref 0), (1, .int a)]) (st' := []) rfl ?_
            refine En_lv1 (addI rfl (by decide : (Int32.ofInt 1).toInt = 1) (by omega) (by omega)) (fun z73 h74 => ?_)
            refine En_Ps 1 (pc' := 21) (lv' := [(4, .int z73), (2, .int y24), (3, .int z66), (5, .int z66), (0, .ref 0), (1, .int a)]) (st' := []) rfl ?_
            refine En_lv (lv := [(0, .ref 0), (1, .int a), (2, .int y24), (3, .int z66), (4, .int z73)]) ⟨rfl, rfl, rfl, rfl, rfl, trivial⟩ ?_
            exact ih21 σ62 y24 z66 z73 h63 h68 ((h64 _ _ (inW (by decide +kernel : TG 0 = 0) (by decide +kernel))).trans h28) ((h64 _ _ (inW hp (by decide +kernel))).trans h29) ((h64 _ _ (inW hp (by decide +kernel))).trans h30) (by omega) (by omega) (by omega) (by omega) (by omega) (by omega) (by omega) (by omega) (h67.2.1) (h69) ((by first | exact HLI_y h41 (by omega) (q := z56.toInt) (v := z58.toInt) (by omega) (by omega) h67.1 (by omega) (by omega) (by omega) (by omega) | exact HLI_n h41 (by omega) (q := z56.toInt) (v := z58.toInt) (by omega) (by omega) h67.1 (by omega) (by omega) (by omega) (by omega))) ((by omega))
    have := (by decide : (Int32.ofInt (-1)).toInt = -1)
    have := (by decide : (Int32.ofInt 0).toInt = 0)
    have := (by decide : (Int32.ofInt 0).toInt = 0)
    refine En_lv (lv := [(0, .ref 0), (1, .int a), (2, .int ((Int32.ofInt (-1)))), (3, .int ((Int32.ofInt 0))), (4, .int ((Int32.ofInt 0)))]) ⟨rfl, rfl, rfl, rfl, rfl, trivial⟩ ?_
    exact key21 (Int.toNat (50) + 1) σ0 ((Int32.ofInt (-1))) ((Int32.ofInt 0)) ((Int32.ofInt 0)) hσ0 hF0 h_p h_sg h2 (by omega) (by omega) (by omega) (by omega) (by omega) (by omega) (by omega) (by omega) (hK) (OUT_0) (HLI_0 (by omega) (by omega) (by omega)) ((by have := pI_pos (Wv 0); omega))
  · have h75 := Imp_m h12.2.2.2.2.1 (by omega)
    refine En_Ps 1 (pc' := 13) (lv' := [(0, .ref 0), (1, .int a)]) (st' := [.int (((Int8.ofInt (-2)).toInt32))]) rfl ?_
    refine En_top (by decide : ((Int8.ofInt (-2)).toInt32).toInt = -2) (fun z76 h77 => ?_)
    exact En_ret (v := some (.int z76)) rfl rfl rfl ⟨hσ0, hF0, z76, rfl, ⟨by omega, by omega, ⟨hlR_n (fun ⟨q1, q2⟩ => by omega) (by omega), ⟨hK, OUT_0⟩⟩⟩⟩
/-- DoorSchool.house(II)I -/
abbrev P_138x (σ0 : SG) (Wv : Int → Int) (a : Int32) (b : Int32) (p : Nat) (sg : Int32) : PO := fun v σ => WT σ ∧ Fr [] σ0 σ ∧ ∃ ret : Int32, v = some (.int ret) ∧ -ret.toInt - 2 ≤ 0 ∧ ret.toInt - 16 ≤ 0 ∧ ret.toInt = hsR Wv a.toInt b.toInt
set_option maxRecDepth 10000 in
set_option maxHeartbeats 4000000 in
theorem c_138x {Wv : Int → Int} (σ0 : SG) (hσ0 : WT σ0) (a : Int32) (b : Int32) (p : Nat) (hp : TG p = 18) (h_p : (σ0 0)[9]? = some (.ref p)) (sg : Int32) (h_sg : (σ0 p)[1]? = some (.int sg)) (hp0 : -sg.toInt ≤ 0) (hP : PLA p) (hX : FXP σ0 p) (hK : KN σ0 p Wv (act Wv)) (hB : WFw Wv) (hT : TWN Wv) (hQ : 0 < Wv 7 → RULx σ0 (Wv 0)) (hq : QX Wv) : En 1 24 none mr_138 (P_138x σ0 Wv a b p sg) 0 [(0, .ref 0), (1, .int a), (2, .int b)] [] σ0 := by
  obtain ⟨hl_sg, hu_sg⟩ := WT_int hσ0 (g := 18) hp (by decide +kernel) (l := (-1)) (u := 4) (by decide +kernel) h_sg
  have hF0 : Fr [] σ0 σ0 := Fr_rfl
  have t1 : Wv (0) = sg.toInt := KN_v hK (Or.inl (by decide)) (by omega) (by omega) (by rw [lcO_lt (by decide) (by decide), Nat.add_zero]) rfl h_sg
  have h2 := hB.2.2.1
  have h3 := hB.1
  have h4 := hB.2.1
  have h5 := hB.2.2.2.1
  refine En_Ps 1 (pc' := 1) (lv' := [(0, .ref 0), (1, .int a), (2, .int b)]) (st' := [.ref 0]) rfl ?_
  refine En_getK (j := 9) h_p rfl rfl rfl (by decide +kernel : TG 0 = 0) (by decide +kernel) ?_
  obtain ⟨z7, h6, h8, h9⟩ := WT_peekI hσ0 hp (by decide +kernel : FT 18 0 = (0, 0, 1601)) (by decide +kernel)
  have t10 : Wv (7) = z7.toInt := KN_v hK (Or.inl (by decide)) (by omega) (by omega) (by rw [lcO_lt (by decide) (by decide), Nat.add_zero]) rfl h6
  refine En_callV rfl rfl rfl rfl rfl rfl rfl rfl hp (by decide +kernel) rfl (c_43x σ0 hσ0 p hp z7 h6) (by decide) (by decide) (fun v12 σ13 h11 => ?_)
  obtain ⟨h14, h15, z17, rfl, h16⟩ := h11
  obtain rfl : σ0 = σ13 := Fr_nil h15
  have h18 := Imp_m h16.2.2.1
  have h19 := Imp_m h16.2.2.2
  refine En_iEq _ rfl rfl (fun h20 => ?_) (fun h20 => ?_)
  · refine En_Ps 1 (pc' := 28) (lv' := [(0, .ref 0), (1, .int a), (2, .int b)]) (st' := [.int (((Int8.ofInt (-2)).toInt32))]) rfl ?_
    refine En_top (by decide : ((Int8.ofInt (-2)).toInt32).toInt = -2) (fun z21 h22 => ?_)
    exact En_ret (v := some (.int z21)) rfl rfl rfl ⟨hσ0, hF0, z21, rfl, ⟨by omega, by omega, hsR_n (fun ⟨q1, q2, q3, q4⟩ => by omega) (by omega)⟩⟩
  · have h23 := Imp_m h16.2.2.1 (by omega)
    have h24 := Imp_m h16.2.2.2 (by omega)
    refine En_Ps 2 (pc' := 12) (lv' := [(0, .ref 0), (1, .int a), (2, .int b)]) (st' := [.int ((Int32.ofInt (-1))), .int a]) rfl ?_
    refine En_icEq _ rfl (by decide : (Int32.ofInt (-1)).toInt = -1) rfl (fun h25 => ?_) (fun h25 => ?_)
    · refine En_Ps 2 (pc' := 31) (lv' := [(0, .ref 0), (1, .int a), (2, .int b)]) (st' := [.int ((Int32.ofInt (-1))), .int a]) rfl ?_
      refine En_icNe _ rfl (by decide : (Int32.ofInt (-1)).toInt = -1) rfl (fun hx => by exfalso; omega) (fun h26 => ?_)
      refine En_Ps 1 (pc' := 35) (lv' := [(0, .ref 0), (1, .int a), (2, .int b)]) (st' := [.ref 0]) rfl ?_
      refine En_getK (j := 9) h_p rfl rfl rfl (by decide +kernel : TG 0 = 0) (by decide +kernel) ?_
      refine En_getI (j := 6) (l := 0) (u := 15) rfl rfl rfl hp (by decide +kernel) hσ0 (by decide +kernel) (fun z28 h27 h29 h30 => ?_)
      have t31 : Wv (8) = z28.toInt := KN_v hK (Or.inl (by decide)) (by omega) (by omega) (by rw [lcO_lt (by decide) (by decide), Nat.add_zero]) rfl h27
      refine En_Ps 1 (pc' := 53) (lv' := [(0, .ref 0), (1, .int a), (2, .int b)]) (st' := [.int z28]) rfl ?_
      have h32 : z28.toInt = hsM Wv a.toInt := t31.symm.trans (hsM_o (by omega)).symm
      refine En_Ps 3 (pc' := 56) (lv' := [(3, .int z28), (0, .ref 0), (1, .int a), (2, .int b)]) (st' := [.int ((Int32.ofInt (-1))), .int a]) rfl ?_
      refine En_icNe _ rfl (by decide : (Int32.ofInt (-1)).toInt = -1) rfl (fun hx => by exfalso; omega) (fun h33 => ?_)
      refine En_Ps 1 (pc' := 60) (lv' := [(3, .int z28), (0, .ref 0), (1, .int a), (2, .int b)]) (st' := [.ref 0]) rfl ?_
      refine En_getK (j := 9) h_p rfl rfl rfl (by decide +kernel : TG 0 = 0) (by decide +kernel) ?_
      refine En_getI (j := 7) (l := 0) (u := 15) rfl rfl rfl hp (by decide +kernel) hσ0 (by decide +kernel) (fun z35 h34 h36 h37 => ?_)
      have t38 : Wv (9) = z35.toInt := KN_v hK (Or.inl (by decide)) (by omega) (by omega) (by rw [lcO_lt (by decide) (by decide), Nat.add_zero]) rfl h34
      refine En_Ps 1 (pc' := 78) (lv' := [(3, .int z28), (0, .ref 0), (1, .int a), (2, .int b)]) (st' := [.int z35]) rfl ?_
      have h39 : z35.toInt = hsV Wv a.toInt := t38.symm.trans (hsV_o (by omega)).symm
      refine En_Ps 2 (pc' := 81) (lv' := [(4, .int z35), (3, .int z28), (0, .ref 0), (1, .int a), (2, .int b)]) (st' := [.int b]) rfl ?_
      rcases (show b.toInt = 0 ∨ b.toInt = 1 ∨ b.toInt = 2 ∨ b.toInt < 0 ∨ 2 < b.toInt by omega) with h40 | h40 | h40 | h40 | h40
      · refine En_swI (t := 108) (n := 0) rfl h40 rfl (by decide +kernel) ?_
        refine En_Ps 1 (pc' := 109) (lv' := [(4, .int z35), (3, .int z28), (0, .ref 0), (1, .int a), (2, .int b)]) (st' := [.int z28]) rfl ?_
        exact En_ret (v := some (.int z28)) rfl rfl rfl ⟨hσ0, hF0, z28, rfl, ⟨by omega, by omega, (by first | exact hsR_0 ⟨by omega, by omega, by omega, by omega⟩ (by omega) h32 | exact hsR_1 ⟨by omega, by omega, by omega, by omega⟩ (by omega) h39)⟩⟩
      · refine En_swI (t := 110) (n := 1) rfl h40 rfl (by decide +kernel) ?_
        refine En_Ps 1 (pc' := 112) (lv' := [(4, .int z35), (3, .int z28), (0, .ref 0), (1, .int a), (2, .int b)]) (st' := [.int z35]) rfl ?_
        exact En_ret (v := some (.int z35)) rfl rfl rfl ⟨hσ0, hF0, z35, rfl, ⟨by omega, by omega, (by first | exact hsR_0 ⟨by omega, by omega, by omega, by omega⟩ (by omega) h32 | exact hsR_1 ⟨by omega, by omega, by omega, by omega⟩ (by omega) h39)⟩⟩
      · refine En_swI (t := 113) (n := 2) rfl h40 rfl (by decide +kernel) ?_
        obtain ⟨z42, h41, h43, h44⟩ := WT_peekI hσ0 (by decide +kernel : TG 4 = 4) (by decide +kernel : FT 4 0 = (0, 0, 16)) (by decide +kernel)
        have h45 : z42.toInt = pI (Wv 0) := (ci_at (j := 0) h41 rfl).symm.trans (hQ (by omega)).1
        refine En_Ps 1 (pc' := 114) (lv' := [(4, .int z35), (3, .int z28), (0, .ref 0), (1, .int a), (2, .int b)]) (st' := [.ref 0]) rfl ?_
        refine En_getU (j := 2) (u := 4) (g' := 4) (q := 0) rfl rfl rfl (by decide +kernel : TG 0 = 0) (by decide +kernel) hσ0 (by decide +kernel) (by decide +kernel) (fun h46 => ?_)
        refine En_Ps 2 (pc' := 120) (lv' := [(4, .int z35), (3, .int z28), (0, .ref 0), (1, .int a), (2, .int b)]) (st' := [.int z35, .int z28, .ref 4]) rfl ?_
        refine En_callV rfl rfl rfl rfl rfl rfl rfl rfl (by decide +kernel : TG 4 = 4) (by decide +kernel) rfl (c_77ax σ0 hσ0 z28 z35 (geI rfl (by omega)) (leI rfl (by omega)) z42 h41) (by decide) (by decide) (fun v49 σ50 h48 => ?_)
        obtain ⟨h51, h52, z54, rfl, h53⟩ := h48
        have h55 := h53.2.2
        obtain rfl : σ0 = σ50 := Fr_nil h52
        refine En_callS rfl rfl rfl rfl rfl rfl rfl rfl rfl (c_7bx σ0 hσ0 z54 (geI rfl (by omega)) (leI rfl (by omega))) (by decide) (by decide) (fun v57 σ58 h56 => ?_)
        obtain ⟨h59, h60, z62, rfl, h61⟩ := h56
        have h63 := h61.2.2
        obtain rfl : σ0 = σ58 := Fr_nil h60
        exact En_ret (v := some (.int z62)) rfl rfl rfl ⟨hσ0, hF0, z62, rfl, ⟨by omega, by omega, hsR_2 ⟨by omega, by omega, by omega, by omega⟩ (by omega) h32 h39 h45 h55 h63⟩⟩
      · refine En_swO (t := 127) rfl (by omega) rfl (by decide +kernel) ?_
        refine En_Ps 1 (pc' := 129) (lv' := [(4, .int z35), (3, .int z28), (0, .ref 0), (1, .int a), (2, .int b)]) (st' := [.int (((Int8.ofInt (-2)).toInt32))]) rfl ?_
        refine En_top (by decide : ((Int8.ofInt (-2)).toInt32).toInt = -2) (fun z64 h65 => ?_)
        exact En_ret (v := some (.int z64)) rfl rfl rfl ⟨hσ0, hF0, z64, rfl, ⟨by omega, by omega, hsR_n (fun ⟨q1, q2, q3, q4⟩ => by omega) (by omega)⟩⟩
      · refine En_swO (t := 127) rfl (by omega) rfl (by decide +kernel) ?_
        refine En_Ps 1 (pc' := 129) (lv' := [(4, .int z35), (3, .int z28), (0, .ref 0), (1, .int a), (2, .int b)]) (st' := [.int (((Int8.ofInt (-2)).toInt32))]) rfl ?_
        refine En_top (by decide : ((Int8.ofInt (-2)).toInt32).toInt = -2) (fun z66 h67 => ?_)
        exact En_ret (v := some (.int z66)) rfl rfl rfl ⟨hσ0, hF0, z66, rfl, ⟨by omega, by omega, hsR_n (fun ⟨q1, q2, q3, q4⟩ => by omega) (by omega)⟩⟩
    · refine En_Ps 1 (pc' := 16) (lv' := [(0, .ref 0), (1, .int a), (2, .int b)]) (st' := [.ref 0]) rfl ?_
      refine En_getK (j := 9) h_p rfl rfl rfl (by decide +kernel : TG 0 = 0) (by decide +kernel) ?_
      refine En_Ps 1 (pc' := 20) (lv' := [(0, .ref 0), (1, .int a), (2, .int b)]) (st' := [.int a, .ref p]) rfl ?_
      obtain ⟨z69, h68, h70, h71⟩ := WT_peekI hσ0 hp (by decide +kernel : FT 18 8 = (0, 0, 4)) (by decide +kernel)
      have t72 : Wv (4) = z69.toInt := KN_v hK (Or.inl (by decide)) (by omega) (by omega) (by rw [lcO_lt (by decide) (by decide), Nat.add_zero]) rfl h68
      refine En_callV rfl rfl rfl rfl rfl rfl rfl rfl hp (by decide +kernel) rfl (c_48x σ0 hσ0 p hp a z69 h68) (by decide) (by decide) (fun v74 σ75 h73 => ?_)
      obtain ⟨h76, h77, z79, rfl, h78⟩ := h73
      obtain rfl : σ0 = σ75 := Fr_nil h77
      have h80 := Imp_m h78.2.2.1
      have h81 := Imp_m h78.2.2.2.1
      have h82 := Imp_m h78.2.2.2.2.1
      have h83 := Imp_m h78.2.2.2.2.2
      refine En_iNe _ rfl rfl (fun h84 => ?_) (fun h84 => ?_)
      · have h85 := Imp_m h78.2.2.1 (by omega)
        have h86 := Imp_m h78.2.2.2.1 (by omega)
        have h87 := Imp_m h78.2.2.2.2.2 (by omega)
        refine En_Ps 2 (pc' := 31) (lv' := [(0, .ref 0), (1, .int a), (2, .int b)]) (st' := [.int ((Int32.ofInt (-1))), .int a]) rfl ?_
        refine En_icNe _ rfl (by decide : (Int32.ofInt (-1)).toInt = -1) rfl (fun h88 => ?_) (fun hx => by exfalso; omega)
        refine En_Ps 1 (pc' := 45) (lv' := [(0, .ref 0), (1, .int a), (2, .int b)]) (st' := [.ref 0]) rfl ?_
        refine En_getK (j := 9) h_p rfl rfl rfl (by decide +kernel : TG 0 = 0) (by decide +kernel) ?_
        refine En_getR (j := 9) (g' := 23) (u := 0) rfl rfl rfl hp (by decide +kernel) hσ0 (by decide +kernel) (fun a90 h89 ha90 => ?_)
        have t91 : a90 = p + 5 := ref_uniq h89 (FXP_fr hP hX hF0 (by decide +kernel)).2.2.1
        refine En_Ps 1 (pc' := 52) (lv' := [(0, .ref 0), (1, .int a), (2, .int b)]) (st' := [.int a, .ref a90]) rfl ?_
        refine En_iald (l := 0) (u := 15) rfl rfl ha90 (by decide +kernel) hσ0 (by omega) (lnI (by decide +kernel : LN _ = 4) (by omega)) (FTsgl (by decide +kernel)) (fun z93 h92 h94 h95 => ?_)
        have t96 := lc_h (m := a.toInt) (by omega) (by omega)
        have t97 : Wv (146 + 2 * (a.toInt)) = z93.toInt := KN_v hK (Or.inr (Or.inr (Or.inr (Or.inr (Or.inl ⟨by omega, by omega, by omega⟩))))) (by omega) (by omega) (by omega) (by omega) h92
        have h98 : z93.toInt = hsM Wv a.toInt := t97.symm.trans (hsM_h (by omega)).symm
        refine En_Ps 3 (pc' := 56) (lv' := [(3, .int z93), (0, .ref 0), (1, .int a), (2, .int b)]) (st' := [.int ((Int32.ofInt (-1))), .int a]) rfl ?_
        refine En_icNe _ rfl (by decide : (Int32.ofInt (-1)).toInt = -1) rfl (fun h99 => ?_) (fun hx => by exfalso; omega)
        refine En_Ps 1 (pc' := 70) (lv' := [(3, .int z93), (0, .ref 0), (1, .int a), (2, .int b)]) (st' := [.ref 0]) rfl ?_
        refine En_getK (j := 9) h_p rfl rfl rfl (by decide +kernel : TG 0 = 0) (by decide +kernel) ?_
        refine En_getR (j := 10) (g' := 24) (u := 0) rfl rfl rfl hp (by decide +kernel) hσ0 (by decide +kernel) (fun a101 h100 ha101 => ?_)
        have t102 : a101 = p + 6 := ref_uniq h100 (FXP_fr hP hX hF0 (by decide +kernel)).2.2.2.1
        refine En_Ps 1 (pc' := 77) (lv' := [(3, .int z93), (0, .ref 0), (1, .int a), (2, .int b)]) (st' := [.int a, .ref a101]) rfl ?_
        refine En_iald (l := 0) (u := 15) rfl rfl ha101 (by decide +kernel) hσ0 (by omega) (lnI (by decide +kernel : LN _ = 4) (by omega)) (FTsgl (by decide +kernel)) (fun z104 h103 h105 h106 => ?_)
        have t107 := lc_h (m := a.toInt) (by omega) (by omega)
        have t108 : Wv (146 + 2 * (a.toInt) + 1) = z104.toInt := KN_v hK (Or.inr (Or.inr (Or.inr (Or.inr (Or.inl ⟨by omega, by omega, by omega⟩))))) (by omega) (by omega) (by omega) (by omega) h103
        have h109 : z104.toInt = hsV Wv a.toInt := t108.symm.trans (hsV_h (by omega)).symm
        refine En_Ps 2 (pc' := 81) (lv' := [(4, .int z104), (3, .int z93), (0, .ref 0), (1, .int a), (2, .int b)]) (st' := [.int b]) rfl ?_
        rcases (show b.toInt = 0 ∨ b.toInt = 1 ∨ b.toInt = 2 ∨ b.toInt < 0 ∨ 2 < b.toInt by omega) with h110 | h110 | h110 | h110 | h110
        · refine En_swI (t := 108) (n := 0) rfl h110 rfl (by decide +kernel) ?_
          refine En_Ps 1 (pc' := 109) (lv' := [(4, .int z104), (3, .int z93), (0, .ref 0), (1, .int a), (2, .int b)]) (st' := [.int z93]) rfl ?_
          exact En_ret (v := some (.int z93)) rfl rfl rfl ⟨hσ0, hF0, z93, rfl, ⟨by omega, by omega, (by first | exact hsR_0 ⟨by omega, by omega, by omega, by omega⟩ (by omega) h98 | exact hsR_1 ⟨by omega, by omega, by omega, by omega⟩ (by omega) h109)⟩⟩
        · refine En_swI (t := 110) (n := 1) rfl h110 rfl (by decide +kernel) ?_
          refine En_Ps 1 (pc' := 112) (lv' := [(4, .int z104), (3, .int z93), (0, .ref 0), (1, .int a), (2, .int b)]) (st' := [.int z104]) rfl ?_
          exact En_ret (v := some (.int z104)) rfl rfl rfl ⟨hσ0, hF0, z104, rfl, ⟨by omega, by omega, (by first | exact hsR_0 ⟨by omega, by omega, by omega, by omega⟩ (by omega) h98 | exact hsR_1 ⟨by omega, by omega, by omega, by omega⟩ (by omega) h109)⟩⟩
        · refine En_swI (t := 113) (n := 2) rfl h110 rfl (by decide +kernel) ?_
          obtain ⟨z112, h111, h113, h114⟩ := WT_peekI hσ0 (by decide +kernel : TG 4 = 4) (by decide +kernel : FT 4 0 = (0, 0, 16)) (by decide +kernel)
          have h115 : z112.toInt = pI (Wv 0) := (ci_at (j := 0) h111 rfl).symm.trans (hQ (by omega)).1
          refine En_Ps 1 (pc' := 114) (lv' := [(4, .int z104), (3, .int z93), (0, .ref 0), (1, .int a), (2, .int b)]) (st' := [.ref 0]) rfl ?_
          refine En_getU (j := 2) (u := 4) (g' := 4) (q := 0) rfl rfl rfl (by decide +kernel : TG 0 = 0) (by decide +kernel) hσ0 (by decide +kernel) (by decide +kernel) (fun h116 => ?_)
          refine En_Ps 2 (pc' := 120) (lv' := [(4, .int z104), (3, .int z93), (0, .ref 0), (1, .int a), (2, .int b)]) (st' := [.int z104, .int z93, .ref 4]) rfl ?_
          refine En_callV rfl rfl rfl rfl rfl rfl rfl rfl (by decide +kernel : TG 4 = 4) (by decide +kernel) rfl (c_77ax σ0 hσ0 z93 z104 (geI rfl (by omega)) (leI rfl (by omega)) z112 h111) (by decide) (by decide) (fun v119 σ120 h118 => ?_)
          obtain ⟨h121, h122, z124, rfl, h123⟩ := h118
          have h125 := h123.2.2
          obtain rfl : σ0 = σ120 := Fr_nil h122
          refine En_callS rfl rfl rfl rfl rfl rfl rfl rfl rfl (c_7bx σ0 hσ0 z124 (geI rfl (by omega)) (leI rfl (by omega))) (by decide) (by decide) (fun v127 σ128 h126 => ?_)
          obtain ⟨h129, h130, z132, rfl, h131⟩ := h126
          have h133 := h131.2.2
          obtain rfl : σ0 = σ128 := Fr_nil h130
          exact En_ret (v := some (.int z132)) rfl rfl rfl ⟨hσ0, hF0, z132, rfl, ⟨by omega, by omega, hsR_2 ⟨by omega, by omega, by omega, by omega⟩ (by omega) h98 h109 h115 h125 h133⟩⟩
        · refine En_swO (t := 127) rfl (by omega) rfl (by decide +kernel) ?_
          refine En_Ps 1 (pc' := 129) (lv' := [(4, .int z104), (3, .int z93), (0, .ref 0), (1, .int a), (2, .int b)]) (st' := [.int (((Int8.ofInt (-2)).toInt32))]) rfl ?_
          refine En_top (by decide : ((Int8.ofInt (-2)).toInt32).toInt = -2) (fun z134 h135 => ?_)
          exact En_ret (v := some (.int z134)) rfl rfl rfl ⟨hσ0, hF0, z134, rfl, ⟨by omega, by omega, hsR_n (fun ⟨q1, q2, q3, q4⟩ => by omega) (by omega)⟩⟩
        · refine En_swO (t := 127) rfl (by omega) rfl (by decide +kernel) ?_
          refine En_Ps 1 (pc' := 129) (lv' := [(4, .int z104), (3, .int z93), (0, .ref 0), (1, .int a), (2, .int b)]) (st' := [.int (((Int8.ofInt (-2)).toInt32))]) rfl ?_
          refine En_top (by decide : ((Int8.ofInt (-2)).toInt32).toInt = -2) (fun z136 h137 => ?_)
          exact En_ret (v := some (.int z136)) rfl rfl rfl ⟨hσ0, hF0, z136, rfl, ⟨by omega, by omega, hsR_n (fun ⟨q1, q2, q3, q4⟩ => by omega) (by omega)⟩⟩
      · have h138 := Imp_m h78.2.2.2.2.1 (by omega)
        refine En_Ps 1 (pc' := 28) (lv' := [(0, .ref 0), (1, .int a), (2, .int b)]) (st' := [.int (((Int8.ofInt (-2)).toInt32))]) rfl ?_
        refine En_top (by decide : ((Int8.ofInt (-2)).toInt32).toInt = -2) (fun z139 h140 => ?_)
        exact En_ret (v := some (.int z139)) rfl rfl rfl ⟨hσ0, hF0, z139, rfl, ⟨by omega, by omega, hsR_n (fun ⟨q1, q2, q3, q4⟩ => by omega) (by omega)⟩⟩
/-- DoorSchool.idle(I)I -/
abbrev P_141x (σ0 : SG) (Wv : Int → Int) (a : Int32) (p : Nat) (sg : Int32) : PO := fun v σ => WT σ ∧ Fr [(20, 2), (21, 0), (22, 0)] σ0 σ ∧ ∃ ret : Int32, v = some (.int ret) ∧ -ret.toInt - 2 ≤ 0 ∧ ret.toInt - 65535 ≤ 0 ∧ (ret.toInt = idR Wv a.toInt ∧ (KN σ p Wv (act Wv) ∧ OUT σ0 σ p))
set_option maxRecDepth 10000 in
set_option maxHeartbeats 4000000 in
theorem c_141x {Wv : Int → Int} (σ0 : SG) (hσ0 : WT σ0) (a : Int32) (p : Nat) (hp : TG p = 18) (h_p : (σ0 0)[9]? = some (.ref p)) (sg : Int32) (h_sg : (σ0 p)[1]? = some (.int sg)) (hp0 : -sg.toInt ≤ 0) (hP : PLA p) (hX : FXP σ0 p) (hK : KN σ0 p Wv (act Wv)) (hB : WFw Wv) (hT : TWN Wv) (hQ : 0 < Wv 7 → RULx σ0 (Wv 0)) (hq : QX Wv) : En 4 92 none mr_141 (P_141x σ0 Wv a p sg) 0 [(0, .ref 0), (1, .int a)] [] σ0 := by
  obtain ⟨hl_sg, hu_sg⟩ := WT_int hσ0 (g := 18) hp (by decide +kernel) (l := (-1)) (u := 4) (by decide +kernel) h_sg
  have hF0 : Fr [(20, 2), (21, 0), (22, 0)] σ0 σ0 := Fr_rfl
  have t1 : Wv (0) = sg.toInt := KN_v hK (Or.inl (by decide)) (by omega) (by omega) (by rw [lcO_lt (by decide) (by decide), Nat.add_zero]) rfl h_sg
  obtain ⟨z3, h2, h4, h5⟩ := WT_peekI hσ0 hp (by decide +kernel : FT 18 3 = (0, 0, 4)) (by decide +kernel)
  have t6 : Wv (2) = z3.toInt := KN_v hK (Or.inl (by decide)) (by omega) (by omega) (by rw [lcO_lt (by decide) (by decide), Nat.add_zero]) rfl h2
  refine En_Ps 1 (pc' := 1) (lv' := [(0, .ref 0), (1, .int a)]) (st' := [.ref 0]) rfl ?_
  refine En_getK (j := 9) h_p rfl rfl rfl (by decide +kernel : TG 0 = 0) (by decide +kernel) ?_
  refine En_Ps 1 (pc' := 5) (lv' := [(0, .ref 0), (1, .int a)]) (st' := [.int a, .ref p]) rfl ?_
  refine En_callV rfl rfl rfl rfl rfl rfl rfl rfl hp (by decide +kernel) rfl (c_47x σ0 hσ0 p hp a z3 h2) (by decide) (by decide) (fun v8 σ9 h7 => ?_)
  obtain ⟨h10, h11, z13, rfl, h12⟩ := h7
  obtain rfl : σ0 = σ9 := Fr_nil h11
  have h14 := Imp_m h12.2.2.1
  have h15 := Imp_m h12.2.2.2.1
  have h16 := Imp_m h12.2.2.2.2.1
  have h17 := Imp_m h12.2.2.2.2.2
  refine En_iNe _ rfl rfl (fun h18 => ?_) (fun h18 => ?_)
  · have h19 := Imp_m h12.2.2.1 (by omega)
    have h20 := Imp_m h12.2.2.2.1 (by omega)
    have h21 := Imp_m h12.2.2.2.2.2 (by omega)
    refine En_Ps 1 (pc' := 15) (lv' := [(0, .ref 0), (1, .int a)]) (st' := [.ref 0]) rfl ?_
    refine En_getK (j := 9) h_p rfl rfl rfl (by decide +kernel : TG 0 = 0) (by decide +kernel) ?_
    refine En_getR (j := 4) (g' := 19) (u := 0) rfl rfl rfl hp (by decide +kernel) hσ0 (by decide +kernel) (fun a23 h22 ha23 => ?_)
    have t24 : a23 = p + 1 := ref_uniq h22 (FXP_fr hP hX hF0 (by decide +kernel)).1
    refine En_Ps 1 (pc' := 22) (lv' := [(0, .ref 0), (1, .int a)]) (st' := [.int a, .ref a23]) rfl ?_
    refine En_aald (g' := 28) (u := 0) rfl rfl ha23 (by decide +kernel) hσ0 (by omega) (lnI (by decide +kernel : LN _ = 4) (by omega)) (FTsgl (by decide +kernel)) (fun a26 h25 ha26 => ?_)
    have t27 : a26 = p + 10 + 4 * (a.toInt).toNat := DRe (d := a.toInt) (FXP_fr hP hX hF0 (by decide +kernel)) t24 h25 (by omega) (by omega)
    have t28 := lc_d (d := a.toInt) (by omega) (by omega)
    refine En_getR (j := 0) (g' := 20) (u := 0) rfl rfl rfl ha26 (by decide +kernel) hσ0 (by decide +kernel) (fun a30 h29 ha30 => ?_)
    have t31 : a30 = p + 11 + 4 * (a.toInt).toNat := DLc (d := a.toInt) (FXP_fr hP hX hF0 (by decide +kernel)) t27 h29 (by omega) (by omega)
    obtain ⟨a33, h32, ha33⟩ := WT_peekR (g := 20) (j := 0) (g' := 21) (u := 0) hσ0 ha30 (by decide +kernel) (by decide +kernel)
    have t34 : a33 = p + 12 + 4 * (a.toInt).toNat := DKk (d := a.toInt) (FXP_fr hP hX hF0 (by decide +kernel)) t31 h32 (by omega) (by omega)
    obtain ⟨a36, h35, ha36⟩ := WT_peekR (g := 20) (j := 1) (g' := 22) (u := 0) hσ0 ha30 (by decide +kernel) (by decide +kernel)
    have t37 : a36 = p + 13 + 4 * (a.toInt).toNat := DKo (d := a.toInt) (FXP_fr hP hX hF0 (by decide +kernel)) t31 h35 (by omega) (by omega)
    obtain ⟨z39, h38, h40, h41⟩ := WT_peekI hσ0 ha30 (by decide +kernel : FT 20 2 = (0, 0, 13)) (by decide +kernel)
    have t42 : Wv (12 + 4 * (a.toInt)) = z39.toInt := KN_v hK (Or.inr (Or.inl ⟨by omega, by omega, by omega⟩)) (by omega) (by omega) (by omega) (by omega) h38
    have h43 := hB.2.2.2.2.2.2 a.toInt (by omega) (by omega)
    have : z39.toInt ≤ 12 := by omega
    refine En_Ps 3 (pc' := 29) (lv' := [(2, .ref a30), (0, .ref 0), (1, .int a)]) (st' := [.int a, .ref 0]) rfl ?_
    refine En_callV rfl rfl rfl rfl rfl rfl rfl rfl (by decide +kernel : TG 0 = 0) (by decide +kernel) rfl (c_114ax σ0 hσ0 a (geI rfl (by omega)) (leI rfl (by omega)) p hp h_p sg h_sg (by omega) hP (FXP_fr hP hX hF0 (by decide +kernel)) hK hB hT (by omega) (hQ (hq (by omega)))) (by decide) (by decide) (fun v45 σ46 h44 => ?_)
    obtain ⟨h47, h48, z50, rfl, h49⟩ := h44
    have h51 := h49.2.2
    obtain rfl : σ0 = σ46 := Fr_nil h48
    refine En_Ps 2 (pc' := 34) (lv' := [(3, .int z50), (2, .ref a30), (0, .ref 0), (1, .int a)]) (st' := [.ref a30]) rfl ?_
    refine En_getK (j := 2) h38 rfl rfl rfl ha30 (by decide +kernel) ?_
    refine En_Ps 5 (pc' := 45) (lv' := [(6, .int ((Int32.ofInt 0))), (5, .int ((Int32.ofInt 0))), (4, .int z39), (3, .int z50), (2, .ref a30), (0, .ref 0), (1, .int a)]) (st' := []) rfl ?_
    have key45 : ∀ (n45 : Nat) (σ55 : SG) (y52 : Int32) (y53 : Int32) (y54 : Int32), WT σ55 → Fr [(20, 2), (21, 0), (22, 0)] σ0 σ55 → (σ55 0)[9]? = some (.ref p) → (σ55 p)[1]? = some (.int sg) → (σ55 p)[3]? = some (.int z3) → (σ55 p)[4]? = some (.ref a23) → (σ55 a23)[(a.toInt).toNat]? = some (.ref a26) → (σ55 a26)[0]? = some (.ref a30) → (σ55 a30)[0]? = some (.ref a33) → (σ55 a30)[1]? = some (.ref a36) → (σ55 a30)[2]? = some (.int y54) → 0 ≤ y52.toInt → y52.toInt ≤ 65535 → 0 ≤ y53.toInt → y53.toInt ≤ 12 → 0 ≤ y54.toInt → y54.toInt ≤ 12 → y54.toInt - z39.toInt ≤ 0 → z39.toInt - y54.toInt ≤ 0 → y53.toInt - y54.toInt ≤ 0 → z39.toInt - y53.toInt < (n45 : Int) → KN σ55 p Wv (act Wv) → OUT σ0 σ55 p → y52.toInt = AAS (idP Wv a.toInt) (y53.toInt).toNat → y53.toInt ≤ Wv (12 + 4 * a.toInt) → En 4 92 none mr_141 (P_141x σ0 Wv a p sg) 45 [(0, .ref 0), (1, .int a), (2, .ref a30), (3, .int z50), (4, .int z39), (5, .int y52), (6, .int y53)] [] σ55 := by
      intro n45
      induction n45 with
      | zero =>
        intro σ55 y52 y53 y54 h56 h57 h58 h59 h60 h61 h62 h63 h64 h65 h66 h67 h68 h69 h70 h71 h72 h73 h74 h75 h76 h77 h78 h79 h80
        exfalso; omega
      | succ n45 ih45 =>
        intro σ55 y52 y53 y54 h56 h57 h58 h59 h60 h61 h62 h63 h64 h65 h66 h67 h68 h69 h70 h71 h72 h73 h74 h75 h76 h77 h78 h79 h80
        refine En_Ps 2 (pc' := 49) (lv' := [(0, .ref 0), (1, .int a), (2, .ref a30), (3, .int z50), (4, .int z39), (5, .int y52), (6, .int y53)]) (st' := [.int z39, .int y53]) rfl ?_
        refine En_icGe _ rfl rfl rfl (fun h81 => ?_) (fun h81 => ?_)
        · refine En_Ps 1 (pc' := 112) (lv' := [(0, .ref 0), (1, .int a), (2, .ref a30), (3, .int z50), (4, .int z39), (5, .int y52), (6, .int y53)]) (st' := [.int y52]) rfl ?_
          exact En_ret (v := some (.int y52)) rfl rfl rfl ⟨h56, h57, y52, rfl, ⟨by omega, by omega, ⟨idR_y ⟨by omega, by omega⟩ (i := y53.toInt) (by have := t42; have := h80; omega) h79, ⟨h77, h78⟩⟩⟩⟩
        · refine En_Ps 1 (pc' := 53) (lv' := [(0, .ref 0), (1, .int a), (2, .ref a30), (3, .int z50), (4, .int z39), (5, .int y52), (6, .int y53)]) (st' := [.ref a30]) rfl ?_
          refine En_getK (j := 0) h64 rfl rfl rfl ha30 (by decide +kernel) ?_
          refine En_Ps 1 (pc' := 58) (lv' := [(0, .ref 0), (1, .int a), (2, .ref a30), (3, .int z50), (4, .int z39), (5, .int y52), (6, .int y53)]) (st' := [.int y53, .ref a33]) rfl ?_
          refine En_iald (l := 0) (u := 15) rfl rfl ha33 (by decide +kernel) h56 (by omega) (lnI (by decide +kernel : LN _ = 13) (by omega)) (FTsgl (by decide +kernel)) (fun z83 h82 h84 h85 => ?_)
          have t86 := lc_l (d := a.toInt) (m := y53.toInt) (by omega) (by omega) (by omega) (by omega)
          have t87 : Wv (26 + 24 * (a.toInt) + 2 * (y53.toInt)) = z83.toInt := KN_v h77 (act_lk (d := a.toInt) (m := y53.toInt) (by omega) (by omega) (by omega) (by omega) (by omega) (by omega)) (by omega) (by omega) (by omega) (by omega) h82
          refine En_Ps 2 (pc' := 62) (lv' := [(7, .int z83), (0, .ref 0), (1, .int a), (2, .ref a30), (3, .int z50), (4, .int z39), (5, .int y52), (6, .int y53)]) (st' := [.ref a30]) rfl ?_
          refine En_getK (j := 1) h65 rfl rfl rfl ha30 (by decide +kernel) ?_
          refine En_Ps 1 (pc' := 67) (lv' := [(7, .int z83), (0, .ref 0), (1, .int a), (2, .ref a30), (3, .int z50), (4, .int z39), (5, .int y52), (6, .int y53)]) (st' := [.int y53, .ref a36]) rfl ?_
          refine En_iald (l := 0) (u := 1) rfl rfl ha36 (by decide +kernel) h56 (by omega) (lnI (by decide +kernel : LN _ = 13) (by omega)) (FTsgl (by decide +kernel)) (fun z89 h88 h90 h91 => ?_)
          have t92 := lc_l (d := a.toInt) (m := y53.toInt) (by omega) (by omega) (by omega) (by omega)
          have t93 : Wv (26 + 24 * (a.toInt) + 2 * (y53.toInt) + 1) = z89.toInt := KN_v h77 (act_lo (d := a.toInt) (m := y53.toInt) (by omega) (by omega) (by omega) (by omega) (by omega) (by omega)) (by omega) (by omega) (by omega) (by omega) h88
          refine En_Ps 1 (pc' := 70) (lv' := [(8, .int z89), (7, .int z83), (0, .ref 0), (1, .int a), (2, .ref a30), (3, .int z50), (4, .int z39), (5, .int y52), (6, .int y53)]) (st' := []) rfl ?_
          have h94 : ci σ55 a30 2 = y54.toInt := ci_at (j := 2) h66 rfl
          have h95 : z83.toInt = ci σ55 a33 (y53.toInt) := (ci_at h82 rfl).symm
          have h96 : z89.toInt = ci σ55 a36 (y53.toInt) := (ci_at h88 rfl).symm
          refine En_Ps 2 (pc' := 73) (lv' := [(8, .int z89), (7, .int z83), (0, .ref 0), (1, .int a), (2, .ref a30), (3, .int z50), (4, .int z39), (5, .int y52), (6, .int y53)]) (st' := [.int y53, .ref a30]) rfl ?_
          refine En_callV rfl rfl rfl rfl rfl rfl rfl rfl ha30 (by decide +kernel) rfl (c_41bx σ55 h56 a30 ha30 y53 (geI rfl (by omega)) (leI rfl (by omega)) a33 ha33 h64 a36 ha36 h65 y54 h66 (by omega)) (by decide) (by decide) (fun v98 σ99 h97 => ?_)
          obtain ⟨h100, h101, z103, h104, rfl, h102⟩ := h97
          have h105 := h102.2.2.2.2.2.2
          have h106 := Fr_trans h57 h101 (by decide +kernel)
          have h108 : Wv (12 + 4 * a.toInt) = y54.toInt := by have := t42; omega
          have h107 := DLS_tko (d := a.toInt) h77 h108 (by omega) h105 t31 t34 t37 (by omega) (by omega) (by omega) (by omega) (by omega)
          refine En_Ps 2 (pc' := 78) (lv' := [(8, .int z89), (7, .int z83), (0, .ref 0), (1, .int a), (2, .ref a30), (3, .int z50), (4, .int z39), (5, .int y52), (6, .int y53)]) (st' := [.int a, .ref 0]) rfl ?_
          refine En_callV rfl rfl rfl rfl rfl rfl rfl rfl (by decide +kernel : TG 0 = 0) (by decide +kernel) rfl (c_114bx σ99 h100 a (geI rfl (by omega)) (leI rfl (by omega)) p hp ((h101 _ _ (inW (by decide +kernel : TG 0 = 0) (by decide +kernel))).trans h58) sg ((h101 _ _ (inW hp (by decide +kernel))).trans h59) (by omega) hP (FXP_fr hP hX h106 (by decide +kernel)) h107 hB hT (by omega) (RULx_sam (hQ (hq (by omega))) (RSAM_fr h106 (by decide +kernel)))) (by decide) (by decide) (fun v113 σ114 h112 => ?_)
          obtain ⟨h115, h116, z118, rfl, h117⟩ := h112
          have h119 := h117.2.2
          obtain rfl : σ99 = σ114 := Fr_nil h116
          refine En_Ps 1 (pc' := 82) (lv' := [(8, .int z89), (7, .int z83), (0, .ref 0), (1, .int a), (2, .ref a30), (3, .int z50), (4, .int z39), (5, .int y52), (6, .int y53)]) (st' := [.int z50, .int z118]) rfl ?_
          refine En_icNe _ rfl rfl rfl (fun h120 => ?_) (fun h120 => ?_)
          · refine En_Ps 4 (pc' := 101) (lv' := [(8, .int z89), (7, .int z83), (0, .ref 0), (1, .int a), (2, .ref a30), (3, .int z50), (4, .int z39), (5, .int y52), (6, .int y53)]) (st' := [.int z89, .int z83, .int y53, .ref a30]) rfl ?_
            refine En_callV rfl rfl rfl rfl rfl rfl rfl rfl ha30 (by decide +kernel) rfl (c_38bx σ99 h100 a30 ha30 y53 z83 z89 (geI rfl (by omega)) (leI rfl (by omega)) (geI rfl (by omega)) (leI rfl (by omega)) (geI rfl (by omega)) (leI rfl (by omega)) a33 ha33 ((h101 _ _ (inW ha30 (by decide +kernel))).trans h64) a36 ha36 ((h101 _ _ (inW ha30 (by decide +kernel))).trans h65) z103 h104 (by omega) (by omega)) (by decide) (by decide) (fun v122 σ123 h121 => ?_)
            obtain ⟨h124, h125, z127, h128, rfl, h126⟩ := h121
            have h129 := h126.2.2.2.2
            have h130 := Fr_trans h106 h125 (by decide +kernel)
            have h131 := KN_tp h77 h105 h129 (by omega) h94 h95 h96 (by omega) (by omega) (by omega) (by omega) (by omega)
            have h132 := OUT_tr h78 h131.2
            refine En_Ps 1 (pc' := 107) (lv' := [(6, .int ((y53 + Int32.ofInt 1))), (8, .int z89), (7, .int z83), (0, .ref 0), (1, .int a), (2, .ref a30), (3, .int z50), (4, .int z39), (5, .int y52)]) (st' := []) rfl ?_
            refine En_lv1 (addI rfl (by decide : (Int32.ofInt 1).toInt = 1) (by omega) (by omega)) (fun z133 h134 => ?_)
            refine En_Ps 1 (pc' := 45) (lv' := [(6, .int z133), (8, .int z89), (7, .int z83), (0, .ref 0), (1, .int a), (2, .ref a30), (3, .int z50), (4, .int z39), (5, .int y52)]) (st' := []) rfl ?_
            refine En_lv (lv := [(0, .ref 0), (1, .int a), (2, .ref a30), (3, .int z50), (4, .int z39), (5, .int y52), (6, .int z133)]) ⟨rfl, rfl, rfl, rfl, rfl, rfl, rfl, trivial⟩ ?_
            exact ih45 σ123 y52 z133 z127 h124 h130 ((h125 _ _ (inW (by decide +kernel : TG 0 = 0) (by decide +kernel))).trans ((h101 _ _ (inW (by decide +kernel : TG 0 = 0) (by decide +kernel))).trans h58)) ((h125 _ _ (inW hp (by decide +kernel))).trans ((h101 _ _ (inW hp (by decide +kernel))).trans h59)) ((h125 _ _ (inW hp (by decide +kernel))).trans ((h101 _ _ (inW hp (by decide +kernel))).trans h60)) ((h125 _ _ (inW hp (by decide +kernel))).trans ((h101 _ _ (inW hp (by decide +kernel))).trans h61)) ((h125 _ _ (inWa ha23 (by decide +kernel))).trans ((h101 _ _ (inWa ha23 (by decide +kernel))).trans h62)) ((h125 _ _ (inW ha26 (by decide +kernel))).trans ((h101 _ _ (inW ha26 (by decide +kernel))).trans h63)) ((h125 _ _ (inW ha30 (by decide +kernel))).trans ((h101 _ _ (inW ha30 (by decide +kernel))).trans h64)) ((h125 _ _ (inW ha30 (by decide +kernel))).trans ((h101 _ _ (inW ha30 (by decide +kernel))).trans h65)) h128 (by omega) (by omega) (by omega) (by omega) (by omega) (by omega) (by omega) (by omega) (by omega) (by omega) (h131.1) (h132) (AAS_n (by omega) h79 (idP_n (DDo_of h108 rfl h119) h51 (by omega)) (by omega) (by omega)) ((by have := t42; omega))
          · refine En_Ps 4 (pc' := 91) (lv' := [(8, .int z89), (7, .int z83), (0, .ref 0), (1, .int a), (2, .ref a30), (3, .int z50), (4, .int z39), (5, .int y52), (6, .int y53)]) (st' := [.int ((((Int32.ofInt 1)) <<< (y53 &&& 31))), .int y52]) rfl ?_
            refine En_nam (fun z135 h136 => ?_)
            have h137 : z135.toInt = pI y53.toInt := shl_v h136 rfl (by omega) (by omega)
            have := pI_pos y53.toInt
            have : pI y53.toInt ≤ 2048 := pI_mono (Y := 11) (by omega)
            refine En_Ps 1 (pc' := 92) (lv' := [(8, .int z89), (7, .int z83), (0, .ref 0), (1, .int a), (2, .ref a30), (3, .int z50), (4, .int z39), (5, .int y52), (6, .int y53)]) (st' := [.int ((y52 ||| z135))]) rfl ?_
            refine En_nam (fun z138 h139 => ?_)
            have h140 : z138.toInt = oN y52.toInt z135.toInt := or_v h139 rfl rfl (by omega) (by omega)
            have := oN_lt (X := y52.toInt) (Y := z135.toInt) 16 (by omega) (by omega) (Int.lt_of_le_of_lt (by omega : _ ≤ (65535 : Int)) (by decide)) (Int.lt_of_le_of_lt (by omega : _ ≤ (65535 : Int)) (by decide))
            have two16 : ((2 ^ 16 : Nat) : Int) = 65536 := by decide
            refine En_Ps 5 (pc' := 101) (lv' := [(5, .int z138), (8, .int z89), (7, .int z83), (0, .ref 0), (1, .int a), (2, .ref a30), (3, .int z50), (4, .int z39), (6, .int y53)]) (st' := [.int z89, .int z83, .int y53, .ref a30]) rfl ?_
            refine En_callV rfl rfl rfl rfl rfl rfl rfl rfl ha30 (by decide +kernel) rfl (c_38bx σ99 h100 a30 ha30 y53 z83 z89 (geI rfl (by omega)) (leI rfl (by omega)) (geI rfl (by omega)) (leI rfl (by omega)) (geI rfl (by omega)) (leI rfl (by omega)) a33 ha33 ((h101 _ _ (inW ha30 (by decide +kernel))).trans h64) a36 ha36 ((h101 _ _ (inW ha30 (by decide +kernel))).trans h65) z103 h104 (by omega) (by omega)) (by decide) (by decide) (fun v142 σ143 h141 => ?_)
            obtain ⟨h144, h145, z147, h148, rfl, h146⟩ := h141
            have h149 := h146.2.2.2.2
            have h150 := Fr_trans h106 h145 (by decide +kernel)
            have h151 := KN_tp h77 h105 h149 (by omega) h94 h95 h96 (by omega) (by omega) (by omega) (by omega) (by omega)
            have h152 := OUT_tr h78 h151.2
            refine En_Ps 1 (pc' := 107) (lv' := [(6, .int ((y53 + Int32.ofInt 1))), (5, .int z138), (8, .int z89), (7, .int z83), (0, .ref 0), (1, .int a), (2, .ref a30), (3, .int z50), (4, .int z39)]) (st' := []) rfl ?_
            refine En_lv1 (addI rfl (by decide : (Int32.ofInt 1).toInt = 1) (by omega) (by omega)) (fun z153 h154 => ?_)
            refine En_Ps 1 (pc' := 45) (lv' := [(6, .int z153), (5, .int z138), (8, .int z89), (7, .int z83), (0, .ref 0), (1, .int a), (2, .ref a30), (3, .int z50), (4, .int z39)]) (st' := []) rfl ?_
            refine En_lv (lv := [(0, .ref 0), (1, .int a), (2, .ref a30), (3, .int z50), (4, .int z39), (5, .int z138), (6, .int z153)]) ⟨rfl, rfl, rfl, rfl, rfl, rfl, rfl, trivial⟩ ?_
            exact ih45 σ143 z138 z153 z147 h144 h150 ((h145 _ _ (inW (by decide +kernel : TG 0 = 0) (by decide +kernel))).trans ((h101 _ _ (inW (by decide +kernel : TG 0 = 0) (by decide +kernel))).trans h58)) ((h145 _ _ (inW hp (by decide +kernel))).trans ((h101 _ _ (inW hp (by decide +kernel))).trans h59)) ((h145 _ _ (inW hp (by decide +kernel))).trans ((h101 _ _ (inW hp (by decide +kernel))).trans h60)) ((h145 _ _ (inW hp (by decide +kernel))).trans ((h101 _ _ (inW hp (by decide +kernel))).trans h61)) ((h145 _ _ (inWa ha23 (by decide +kernel))).trans ((h101 _ _ (inWa ha23 (by decide +kernel))).trans h62)) ((h145 _ _ (inW ha26 (by decide +kernel))).trans ((h101 _ _ (inW ha26 (by decide +kernel))).trans h63)) ((h145 _ _ (inW ha30 (by decide +kernel))).trans ((h101 _ _ (inW ha30 (by decide +kernel))).trans h64)) ((h145 _ _ (inW ha30 (by decide +kernel))).trans ((h101 _ _ (inW ha30 (by decide +kernel))).trans h65)) h148 (by omega) (by omega) (by omega) (by omega) (by omega) (by omega) (by omega) (by omega) (by omega) (by omega) (h151.1) (h152) (AAS_y (q := z135.toInt) (by omega) h79 (idP_y (DDo_of h108 rfl h119) h51 (by omega)) (by omega) (by omega) (by omega)) ((by have := t42; omega))
    have := (by decide : (Int32.ofInt 0).toInt = 0)
    have := (by decide : (Int32.ofInt 0).toInt = 0)
    refine En_lv (lv := [(0, .ref 0), (1, .int a), (2, .ref a30), (3, .int z50), (4, .int z39), (5, .int ((Int32.ofInt 0))), (6, .int ((Int32.ofInt 0)))]) ⟨rfl, rfl, rfl, rfl, rfl, rfl, rfl, trivial⟩ ?_
    exact key45 (Int.toNat (z39.toInt) + 1) σ0 ((Int32.ofInt 0)) ((Int32.ofInt 0)) z39 hσ0 hF0 h_p h_sg h2 h22 h25 h29 h32 h35 h38 (by omega) (by omega) (by omega) (by omega) (by omega) (by omega) (by omega) (by omega) (by omega) (by omega) (hK) (OUT_0) (AAS_0 (by omega) (by omega)) ((by have := t42; omega))
  · have h155 := Imp_m h12.2.2.2.2.1 (by omega)
    refine En_Ps 1 (pc' := 13) (lv' := [(0, .ref 0), (1, .int a)]) (st' := [.int (((Int8.ofInt (-2)).toInt32))]) rfl ?_
    refine En_top (by decide : ((Int8.ofInt (-2)).toInt32).toInt = -2) (fun z156 h157 => ?_)
    exact En_ret (v := some (.int z156)) rfl rfl rfl ⟨hσ0, hF0, z156, rfl, ⟨by omega, by omega, ⟨idR_n (fun ⟨q1, q2⟩ => by omega) (by omega), ⟨hK, OUT_0⟩⟩⟩⟩
/-- DoorSchool.image(I)I -/
abbrev P_142x (σ0 : SG) (a : Int32) (p : Nat) (sg : Int32) : PO := fun v σ => WT σ ∧ Fr [(20, 2), (21, 0), (22, 0), (23, 0), (24, 0), (25, 0), (26, 0), (27, 0), (28, 1), (28, 2), (28, 3), (30, 0), (31, 0), (31, 1), (31, 2), (31, 3), (31, 6), (31, 7), (31, 8), (31, 11), (31, 14)] σ0 σ ∧ ∃ ret : Int32, v = some (.int ret) ∧ -ret.toInt - 2 ≤ 0 ∧ ret.toInt ≤ 0 ∧ Imp (-a.toInt ≤ 0 ∧ a.toInt - 2 ≤ 0) (ret.toInt ≤ 0 ∧ -ret.toInt ≤ 0) ∧ Imp (a.toInt + 1 ≤ 0) (ret.toInt + 2 ≤ 0 ∧ -ret.toInt - 2 ≤ 0) ∧ Imp (-a.toInt + 3 ≤ 0) (ret.toInt + 2 ≤ 0 ∧ -ret.toInt - 2 ≤ 0) ∧ IMC σ0 σ p a.toInt
set_option maxRecDepth 10000 in
set_option maxHeartbeats 4000000 in
theorem c_142x (σ0 : SG) (hσ0 : WT σ0) (a : Int32) (p : Nat) (hp : TG p = 18) (h_p : (σ0 0)[9]? = some (.ref p)) (sg : Int32) (h_sg : (σ0 p)[1]? = some (.int sg)) (hp0 : -sg.toInt ≤ 0) (hP : PLA p) (hX : FXP σ0 p) (hM : IMX σ0) : En 4 124 none mr_142 (P_142x σ0 a p sg) 0 [(0, .ref 0), (1, .int a)] [] σ0 := by
  obtain ⟨hl_sg, hu_sg⟩ := WT_int hσ0 (g := 18) hp (by decide +kernel) (l := (-1)) (u := 4) (by decide +kernel) h_sg
  have hF0 : Fr [(20, 2), (21, 0), (22, 0), (23, 0), (24, 0), (25, 0), (26, 0), (27, 0), (28, 1), (28, 2), (28, 3), (30, 0), (31, 0), (31, 1), (31, 2), (31, 3), (31, 6), (31, 7), (31, 8), (31, 11), (31, 14)] σ0 σ0 := Fr_rfl
  refine En_Ps 1 (pc' := 1) (lv' := [(0, .ref 0), (1, .int a)]) (st' := [.int a]) rfl ?_
  refine En_iLt _ rfl rfl (fun h1 => ?_) (fun h1 => ?_)
  · refine En_Ps 1 (pc' := 11) (lv' := [(0, .ref 0), (1, .int a)]) (st' := [.int (((Int8.ofInt (-2)).toInt32))]) rfl ?_
    refine En_top (by decide : ((Int8.ofInt (-2)).toInt32).toInt = -2) (fun z2 h3 => ?_)
    exact En_ret (v := some (.int z2)) rfl rfl rfl ⟨hσ0, hF0, z2, rfl, ⟨by omega, by omega, fun _ => by omega, fun _ => by omega, fun _ => by omega, IMC_no (by omega)⟩⟩
  · refine En_Ps 2 (pc' := 6) (lv' := [(0, .ref 0), (1, .int a)]) (st' := [.int ((Int32.ofInt 3)), .int a]) rfl ?_
    refine En_icLt _ rfl (by decide : (Int32.ofInt 3).toInt = 3) rfl (fun h4 => ?_) (fun h4 => ?_)
    · refine En_Ps 1 (pc' := 13) (lv' := [(0, .ref 0), (1, .int a)]) (st' := [.ref 0]) rfl ?_
      refine En_getU (j := 7) (u := 70) (g' := 29) (q := 0) rfl rfl rfl (by decide +kernel : TG 0 = 0) (by decide +kernel) hσ0 (by decide +kernel) (by decide +kernel) (fun h5 => ?_)
      refine En_Ps 1 (pc' := 17) (lv' := [(0, .ref 0), (1, .int a)]) (st' := [.int a, .ref 70]) rfl ?_
      refine En_aald (g' := 31) (u := 0) rfl rfl (by decide +kernel : TG 70 = 29) (by decide +kernel) hσ0 (by omega) (lnI (by decide +kernel : LN _ = 3) (by omega)) (FTsgl (by decide +kernel)) (fun a8 h7 ha8 => ?_)
      have h9 : a8 = 72 + 26 * (a.toInt).toNat := ref_uniq h7 (hM (a.toInt).toNat (by omega)).1
      refine En_Ps 1 (pc' := 19) (lv' := [(0, .ref 0), (1, .int a)]) (st' := [.ref 0, .ref a8]) rfl ?_
      refine En_getK (j := 9) h_p rfl rfl rfl (by decide +kernel : TG 0 = 0) (by decide +kernel) ?_
      refine En_callV rfl rfl rfl rfl rfl rfl rfl rfl ha8 (by decide +kernel) rfl (c_53ax σ0 hσ0 a8 ha8 p hp sg h_sg (by omega) (by rw [h9]; exact (SEP_i (by omega) hP).1) (by rw [h9]; exact (hM (a.toInt).toNat (by omega)).2) hX) (by decide) (by decide) (fun v11 σ12 h10 => ?_)
      obtain ⟨h13, h14, rfl, h15⟩ := h10
      have h16 := h15
      have h17 := Fr_trans hF0 h14 (by decide +kernel)
      refine En_Ps 1 (pc' := 26) (lv' := [(0, .ref 0), (1, .int a)]) (st' := [.ref 0]) rfl ?_
      refine En_getU (j := 8) (u := 71) (g' := 30) (q := 0) rfl rfl rfl (by decide +kernel : TG 0 = 0) (by decide +kernel) h13 (by decide +kernel) (by decide +kernel) (fun h18 => ?_)
      refine En_Ps 2 (pc' := 31) (lv' := [(0, .ref 0), (1, .int a)]) (st' := [.int ((Int32.ofInt 1)), .int a, .ref 71]) rfl ?_
      refine En_bast (l := 0) (u := 1) rfl rfl (by decide +kernel : TG 71 = 30) (by decide +kernel) (narZ (by decide : (Int32.ofInt 1).toInt = 1) (by omega) (by omega)) (by omega) (lnI (by decide +kernel : LN _ = 3) (by omega)) (FTsgl (by decide +kernel)) (rngI (by decide : (Int32.ofInt 1).toInt = 1) (by omega) (by omega)) h13 h17 (by decide +kernel) (fun σ20 h21 h22 h23 h24 => ?_)
      refine En_Ps 1 (pc' := 33) (lv' := [(0, .ref 0), (1, .int a)]) (st' := [.int ((Int32.ofInt 0))]) rfl ?_
      refine En_top (by decide : (Int32.ofInt 0).toInt = 0) (fun z25 h26 => ?_)
      exact En_ret (v := some (.int z25)) rfl rfl rfl ⟨h21, h22, z25, rfl, ⟨by omega, by omega, fun _ => by omega, fun _ => by omega, fun _ => by omega, IMC_ok (by omega) (by omega) h16 h9 h23 h24 (by decide)⟩⟩
    · refine En_Ps 1 (pc' := 11) (lv' := [(0, .ref 0), (1, .int a)]) (st' := [.int (((Int8.ofInt (-2)).toInt32))]) rfl ?_
      refine En_top (by decide : ((Int8.ofInt (-2)).toInt32).toInt = -2) (fun z27 h28 => ?_)
      exact En_ret (v := some (.int z27)) rfl rfl rfl ⟨hσ0, hF0, z27, rfl, ⟨by omega, by omega, fun _ => by omega, fun _ => by omega, fun _ => by omega, IMC_no (by omega)⟩⟩
/-- DoorSchool.isRest(III)Z -/
abbrev P_145x (σ0 : SG) (Wv : Int → Int) (a : Int32) (b : Int32) (c : Int32) (p : Nat) (sg : Int32) : PO := fun v σ => WT σ ∧ Fr [] σ0 σ ∧ ∃ ret : Int32, v = some (.int ret) ∧ -ret.toInt ≤ 0 ∧ ret.toInt - 1 ≤ 0 ∧ ((ret.toInt = 1 ∧ rsP Wv a.toInt b.toInt c.toInt) ∨ (ret.toInt = 0 ∧ ¬ rsP Wv a.toInt b.toInt c.toInt))
set_option maxRecDepth 10000 in
set_option maxHeartbeats 4000000 in
theorem c_145x {Wv : Int → Int} (σ0 : SG) (hσ0 : WT σ0) (a : Int32) (b : Int32) (c : Int32) (hl_a : 0 ≤ a.toInt) (hu_a : a.toInt ≤ 3) (hl_b : 0 ≤ b.toInt) (hu_b : b.toInt ≤ 2) (hl_c : 0 ≤ c.toInt) (hu_c : c.toInt ≤ 15) (p : Nat) (hp : TG p = 18) (h_p : (σ0 0)[9]? = some (.ref p)) (sg : Int32) (h_sg : (σ0 p)[1]? = some (.int sg)) (hp0 : -sg.toInt ≤ 0) (hP : PLA p) (hX : FXP σ0 p) (hK : KN σ0 p Wv (act Wv)) (hB : WFw Wv) (hR : RULx σ0 (Wv 0)) (hd : a.toInt < Wv 2) : En 5 114 none mr_145 (P_145x σ0 Wv a b c p sg) 0 [(0, .ref 0), (1, .int a), (2, .int b), (3, .int c)] [] σ0 := by
  obtain ⟨hl_sg, hu_sg⟩ := WT_int hσ0 (g := 18) hp (by decide +kernel) (l := (-1)) (u := 4) (by decide +kernel) h_sg
  have hF0 : Fr [] σ0 σ0 := Fr_rfl
  have t1 : Wv (0) = sg.toInt := KN_v hK (Or.inl (by decide)) (by omega) (by omega) (by rw [lcO_lt (by decide) (by decide), Nat.add_zero]) rfl h_sg
  obtain ⟨z3, h2, h4, h5⟩ := WT_peekI hσ0 hp (by decide +kernel : FT 18 3 = (0, 0, 4)) (by decide +kernel)
  have t6 : Wv (2) = z3.toInt := KN_v hK (Or.inl (by decide)) (by omega) (by omega) (by rw [lcO_lt (by decide) (by decide), Nat.add_zero]) rfl h2
  have h7 := hB.2.2.1
  have h8 := hB.1
  have h9 := hB.2.1
  have h10 := hB.2.2.2.1
  refine En_Ps 1 (pc' := 1) (lv' := [(0, .ref 0), (1, .int a), (2, .int b), (3, .int c)]) (st' := [.ref 0]) rfl ?_
  refine En_callV rfl rfl rfl rfl rfl rfl rfl rfl (by decide +kernel : TG 0 = 0) (by decide +kernel) rfl (c_160x σ0 hσ0 p hp h_p sg h_sg (by omega) hP (FXP_fr hP hX hF0 (by decide +kernel)) (KN_aD (d := 4) hK) hB hR) (by decide) (by decide) (fun v12 σ13 h11 => ?_)
  obtain ⟨h14, h15, z17, rfl, h16⟩ := h11
  have h18 := h16.2.2
  obtain rfl : σ0 = σ13 := Fr_nil h15
  refine En_Ps 1 (pc' := 5) (lv' := [(0, .ref 0), (1, .int a), (2, .int b), (3, .int c)]) (st' := [.int c, .int z17]) rfl ?_
  refine En_callS rfl rfl rfl rfl rfl rfl rfl rfl rfl (c_108ax σ0 hσ0 z17 c (geI rfl (by omega)) (leI rfl (by omega)) (geI rfl (by omega)) (leI rfl (by omega))) (by decide) (by decide) (fun v20 σ21 h19 => ?_)
  obtain ⟨h22, h23, z25, rfl, h24⟩ := h19
  have h26 := h24.2.2
  obtain rfl : σ0 = σ21 := Fr_nil h23
  have h27 : z25.toInt = btI (owD Wv) c.toInt := h26.trans (btI_cg h18)
  refine En_Ps 1 (pc' := 9) (lv' := [(0, .ref 0), (1, .int a), (2, .int b), (3, .int c)]) (st' := [.int ((Int32.ofInt 1)), .int z25]) rfl ?_
  refine En_icNe _ rfl (by decide : (Int32.ofInt 1).toInt = 1) rfl (fun h28 => ?_) (fun h28 => ?_)
  · have h29 : btI (owD Wv) c.toInt = 0 := by have e9 := btI_rng (owD Wv) c.toInt; omega
    refine En_Ps 3 (pc' := 17) (lv' := [(0, .ref 0), (1, .int a), (2, .int b), (3, .int c)]) (st' := [.int b, .int a, .ref 0]) rfl ?_
    refine En_callV rfl rfl rfl rfl rfl rfl rfl rfl (by decide +kernel : TG 0 = 0) (by decide +kernel) rfl (c_171x σ0 hσ0 a b (geI rfl (by omega)) (leI rfl (by omega)) (geI rfl (by omega)) (leI rfl (by omega)) p hp h_p sg h_sg (by omega) hP (FXP_fr hP hX hF0 (by decide +kernel)) hK hB hR (by omega)) (by decide) (by decide) (fun v31 σ32 h30 => ?_)
    obtain ⟨h33, h34, z36, rfl, h35⟩ := h30
    have h37 := h35.2.2
    obtain rfl : σ0 = σ32 := Fr_nil h34
    refine En_Ps 1 (pc' := 21) (lv' := [(0, .ref 0), (1, .int a), (2, .int b), (3, .int c)]) (st' := [.int c, .int z36]) rfl ?_
    refine En_callS rfl rfl rfl rfl rfl rfl rfl rfl rfl (c_108ax σ0 hσ0 z36 c (geI rfl (by omega)) (leI rfl (by omega)) (geI rfl (by omega)) (leI rfl (by omega))) (by decide) (by decide) (fun v39 σ40 h38 => ?_)
    obtain ⟨h41, h42, z44, rfl, h43⟩ := h38
    have h45 := h43.2.2
    obtain rfl : σ0 = σ40 := Fr_nil h42
    have h46 := stl_bit (by omega) (by omega) h29 h37 h45
    refine En_iNe _ rfl rfl (fun h47 => ?_) (fun h47 => ?_)
    · refine En_Ps 2 (pc' := 45) (lv' := [(4, .int ((Int32.ofInt 0))), (0, .ref 0), (1, .int a), (2, .int b), (3, .int c)]) (st' := []) rfl ?_
      have key45 : ∀ (n45 : Nat) (y48 : Int32), 0 ≤ y48.toInt → y48.toInt ≤ 3 → -y48.toInt + 3 < (n45 : Int) → NW Wv a.toInt c.toInt y48.toInt → En 5 114 none mr_145 (P_145x σ0 Wv a b c p sg) 45 [(0, .ref 0), (1, .int a), (2, .int b), (3, .int c), (4, .int y48)] [] σ0 := by
        intro n45
        induction n45 with
        | zero =>
          intro y48 h52 h53 h54 h55
          exfalso; omega
        | succ n45 ih45 =>
          intro y48 h52 h53 h54 h55
          refine En_Ps 2 (pc' := 48) (lv' := [(0, .ref 0), (1, .int a), (2, .int b), (3, .int c), (4, .int y48)]) (st' := [.int ((Int32.ofInt 3)), .int y48]) rfl ?_
          refine En_icGe _ rfl (by decide : (Int32.ofInt 3).toInt = 3) rfl (fun h56 => ?_) (fun h56 => ?_)
          · refine En_Ps 1 (pc' := 74) (lv' := [(0, .ref 0), (1, .int a), (2, .int b), (3, .int c), (4, .int y48)]) (st' := [.int ((Int32.ofInt 1))]) rfl ?_
            refine En_top (by decide : (Int32.ofInt 1).toInt = 1) (fun z57 h58 => ?_)
            exact En_ret (v := some (.int z57)) rfl rfl (retZ rfl rfl (by omega) (by omega)) ⟨hσ0, hF0, z57, rfl, ⟨by omega, by omega, Or.inl ⟨(by omega), rsP_y h29 h46 (by omega) h55 (by omega)⟩⟩⟩
          · refine En_Ps 3 (pc' := 55) (lv' := [(0, .ref 0), (1, .int a), (2, .int b), (3, .int c), (4, .int y48)]) (st' := [.int y48, .int a, .ref 0]) rfl ?_
            refine En_callV rfl rfl rfl rfl rfl rfl rfl rfl (by decide +kernel : TG 0 = 0) (by decide +kernel) rfl (c_171x σ0 hσ0 a y48 (geI rfl (by omega)) (leI rfl (by omega)) (geI rfl (by omega)) (leI rfl (by omega)) p hp h_p sg h_sg (by omega) hP (FXP_fr hP hX hF0 (by decide +kernel)) hK hB hR (by omega)) (by decide) (by decide) (fun v60 σ61 h59 => ?_)
            obtain ⟨h62, h63, z65, rfl, h64⟩ := h59
            have h66 := h64.2.2
            obtain rfl : σ0 = σ61 := Fr_nil h63
            refine En_Ps 1 (pc' := 59) (lv' := [(0, .ref 0), (1, .int a), (2, .int b), (3, .int c), (4, .int y48)]) (st' := [.int c, .int z65]) rfl ?_
            refine En_callS rfl rfl rfl rfl rfl rfl rfl rfl rfl (c_108ax σ0 hσ0 z65 c (geI rfl (by omega)) (leI rfl (by omega)) (geI rfl (by omega)) (leI rfl (by omega))) (by decide) (by decide) (fun v68 σ69 h67 => ?_)
            obtain ⟨h70, h71, z73, rfl, h72⟩ := h67
            have h74 := h72.2.2
            obtain rfl : σ0 = σ69 := Fr_nil h71
            have h75 := stl_bit (by omega) (by omega) h29 h66 h74
            refine En_iNe _ rfl rfl (fun h76 => ?_) (fun h76 => ?_)
            · refine En_Ps 1 (pc' := 70) (lv' := [(4, .int ((y48 + Int32.ofInt 1))), (0, .ref 0), (1, .int a), (2, .int b), (3, .int c)]) (st' := []) rfl ?_
              refine En_lv1 (addI rfl (by decide : (Int32.ofInt 1).toInt = 1) (by omega) (by omega)) (fun z77 h78 => ?_)
              refine En_Ps 1 (pc' := 45) (lv' := [(4, .int z77), (0, .ref 0), (1, .int a), (2, .int b), (3, .int c)]) (st' := []) rfl ?_
              refine En_lv (lv := [(0, .ref 0), (1, .int a), (2, .int b), (3, .int c), (4, .int z77)]) ⟨rfl, rfl, rfl, rfl, rfl, trivial⟩ ?_
              exact ih45 z77 (by omega) (by omega) (by omega) (NW_s h55 h75 (by omega) (by omega))
            · refine En_Ps 1 (pc' := 66) (lv' := [(0, .ref 0), (1, .int a), (2, .int b), (3, .int c), (4, .int y48)]) (st' := [.int ((Int32.ofInt 0))]) rfl ?_
              refine En_top (by decide : (Int32.ofInt 0).toInt = 0) (fun z79 h80 => ?_)
              exact En_ret (v := some (.int z79)) rfl rfl (retZ rfl rfl (by omega) (by omega)) ⟨hσ0, hF0, z79, rfl, ⟨by omega, by omega, Or.inr ⟨(by omega), rsP_n h46 (by omega) h75 (by omega) (by omega) (by omega)⟩⟩⟩
      have := (by decide : (Int32.ofInt 0).toInt = 0)
      refine En_lv (lv := [(0, .ref 0), (1, .int a), (2, .int b), (3, .int c), (4, .int ((Int32.ofInt 0)))]) ⟨rfl, rfl, rfl, rfl, rfl, trivial⟩ ?_
      exact key45 (Int.toNat (3) + 1) ((Int32.ofInt 0)) (by omega) (by omega) (by omega) (NW_0 (by omega))
    · refine En_Ps 3 (pc' := 30) (lv' := [(0, .ref 0), (1, .int a), (2, .int b), (3, .int c)]) (st' := [.int b, .int a, .ref 0]) rfl ?_
      refine En_callV rfl rfl rfl rfl rfl rfl rfl rfl (by decide +kernel : TG 0 = 0) (by decide +kernel) rfl (c_171x σ0 hσ0 a b (geI rfl (by omega)) (leI rfl (by omega)) (geI rfl (by omega)) (leI rfl (by omega)) p hp h_p sg h_sg (by omega) hP (FXP_fr hP hX hF0 (by decide +kernel)) hK hB hR (by omega)) (by decide) (by decide) (fun v82 σ83 h81 => ?_)
      obtain ⟨h84, h85, z87, rfl, h86⟩ := h81
      have h88 := h86.2.2
      obtain rfl : σ0 = σ83 := Fr_nil h85
      refine En_iNe _ rfl rfl (fun h89 => ?_) (fun h89 => ?_)
      · refine En_Ps 1 (pc' := 41) (lv' := [(0, .ref 0), (1, .int a), (2, .int b), (3, .int c)]) (st' := [.int ((Int32.ofInt 0))]) rfl ?_
        refine En_top (by decide : (Int32.ofInt 0).toInt = 0) (fun z90 h91 => ?_)
        exact En_ret (v := some (.int z90)) rfl rfl (retZ rfl rfl (by omega) (by omega)) ⟨hσ0, hF0, z90, rfl, ⟨by omega, by omega, Or.inr ⟨(by omega), fun q => by have e6 := (rsP_0 (by omega) (by omega) h29 h37 h45 (by omega)).mp q; have e7 := h37; have e8 := h88; omega⟩⟩⟩
      · refine En_Ps 2 (pc' := 41) (lv' := [(0, .ref 0), (1, .int a), (2, .int b), (3, .int c)]) (st' := [.int ((Int32.ofInt 1))]) rfl ?_
        refine En_top (by decide : (Int32.ofInt 1).toInt = 1) (fun z92 h93 => ?_)
        exact En_ret (v := some (.int z92)) rfl rfl (retZ rfl rfl (by omega) (by omega)) ⟨hσ0, hF0, z92, rfl, ⟨by omega, by omega, Or.inl ⟨(by omega), (rsP_0 (by omega) (by omega) h29 h37 h45 (by omega)).mpr (by have e7 := h37; have e8 := h88; omega)⟩⟩⟩
  · refine En_Ps 1 (pc' := 13) (lv' := [(0, .ref 0), (1, .int a), (2, .int b), (3, .int c)]) (st' := [.int ((Int32.ofInt 0))]) rfl ?_
    refine En_top (by decide : (Int32.ofInt 0).toInt = 0) (fun z94 h95 => ?_)
    exact En_ret (v := some (.int z94)) rfl rfl (retZ rfl rfl (by omega) (by omega)) ⟨hσ0, hF0, z94, rfl, ⟨by omega, by omega, Or.inr ⟨(by omega), rsP_own h27 (by omega)⟩⟩⟩

