/-- DoorSchool.image(I)I -/
abbrev P_142x (σ0 : SG) (a : Int32) (p : Nat) (sg : Int32) : PO := fun v σ => WT σ ∧ Fr [(20, 2), (21, 0), (22, 0), (23, 0), (24, 0), (25, 0), (26, 0), (27, 0), (28, 1), (28, 2), (28, 3), (30, 0), (31, 0), (31, 1), (31, 2), (31, 3), (31, 6), (31, 7), (31, 8), (31, 11), (31, 14)] σ0 σ ∧ ∃ ret : Int32, v = some (.int ret) ∧ -ret.toInt - 2 ≤ 0 ∧ ret.toInt ≤ 0 ∧ Imp (-a.toInt ≤ 0 ∧ a.toInt - 2 ≤ 0) (ret.toInt ≤ 0 ∧ -ret.toInt ≤ 0) ∧ Imp (a.toInt + 1 ≤ 0) (ret.toInt + 2 ≤ 0 ∧ -ret.toInt - 2 ≤ 0) ∧ Imp (-a.toInt + 3 ≤ 0) (ret.toInt + 2 ≤ 0 ∧ -ret.toInt - 2 ≤ 0) ∧ IMC σ0 σ p a.toInt
set_option maxRecDepth 10000 in
set_option maxHeartbeats 4000000 in
theorem c_142x (σ0 : SG) (hσ0 : WT σ0) (a : Int32) (p : Nat) (hp : TG p = 18) (h_p : (σ0 0)[9]? = some (.ref p)) (sg : Int32) (h_sg : (σ0 p)[1]? = some (.int sg)) (hp0 : -sg.toInt ≤ 0) (hP : PLA p) (hX : FXP σ0 p) (hM : IMX σ0) : En 4 124 none mr_142 (P_142x σ0 a p sg) 0 [(0, .ref 0), (1, .int a)] [] σ0 := by
  obtain ⟨hl_sg, hu_sg⟩ := WT_int hσ0 (g := 18) hp (by decide +kernel) (l := (-1)) (u := 4) (by decide +kernel) h_sg
  have hF0 : Fr [(20, 2), (21, 0), (22, 0), (23, 0), (24, 0), (25, 0), (26, 0), (27, 0), (28, 1), (28, 2), (28, 3), (30, 0), (31, 0), (31, 1), (31, 2), (31, 3), (31, 6), (31, 7), (31, 8), (31, 11), (31, 14)] σ0 σ0 := Fr_rfl
  refine En_Ps 1 (pc' := 1) (lv' := [(0, .ref 0), (1, .int a)]) (st' := [.int a]) rfl ?_
  refine En_iLt _ rfl rfl (fun h1 => ?_) (fun h1 => ?_)
  · refine En_Ps 1 (pc' := 11) (lv' := [(0, .ref 0), (1, .int a)]) (st' := [.int (((Int8.ofInt (-2)).toInt32))]) rfl ?_
    refine En_top (by decide : ((Int8.ofInt (-2)).toInt32).toInt = -2) (fun z2 h3 => ?_)
    exact En_ret (v := some (.int z2)) rfl rfl rfl ⟨hσ0, hF0, z2, rfl, ⟨by omega, by omega, fun _ => by omega, fun _ => by omega, fun _ => by omega, IMC_no (by omega)⟩⟩
  · refine En_Ps 2 (pc' := 6) (lv' := [(0, .ref 0), (1, .int a)]) (st' := [.int ((Int32.ofInt 3)), .int a]) rfl ?_
    refine En_icLt _ rfl (by decide : (Int32.ofInt 3).toInt = 3) rfl (fun h4 => ?_) (fun h4 => ?_)
    · refine En_Ps 1 (pc' := 13) (lv' := [(0, .ref 0), (1, .int a)]) (st' := [.ref 0]) rfl ?_
      refine En_getU (j := 7) (u := 70) (g' := 29) (q := 0) rfl rfl rfl (by decide +kernel : TG 0 = 0) (by decide +kernel) hσ0 (by decide +kernel) (by decide +kernel) (fun h5 => ?_)
      refine En_Ps 1 (pc' := 17) (lv' := [(0, .ref 0), (1, .int a)]) (st' := [.int a, .ref 70]) rfl ?_
      refine En_aald (g' := 31) (u := 0) rfl rfl (by decide +kernel : TG 70 = 29) (by decide +kernel) hσ0 (by omega) (lnI (by decide +kernel : LN _ = 3) (by omega)) (FTsgl (by decide +kernel)) (fun a8 h7 ha8 => ?_)
      have h9 : a8 = 72 + 26 * (a.toInt).toNat := ref_uniq h7 (hM (a.toInt).toNat (by omega)).1
      refine En_Ps 1 (pc' := 19) (lv' := [(0, .ref 0), (1, .int a)]) (st' := [.ref 0, .ref a8]) rfl ?_
      refine En_getK (j := 9) h_p rfl rfl rfl (by decide +kernel : TG 0 = 0) (by decide +kernel) ?_
      refine En_callV rfl rfl rfl rfl rfl rfl rfl rfl ha8 (by decide +kernel) rfl (c_53ax σ0 hσ0 a8 ha8 p hp sg h_sg (by omega) (by rw [h9]; exact (SEP_i (by omega) hP).1) (by rw [h9]; exact (hM (a.toInt).toNat (by omega)).2) hX) (by decide) (by decide) (fun v11 σ12 h10 => ?_)
      obtain ⟨h13, h14, rfl, h15⟩ := h10
      have h16 := h15
      have h17 := Fr_trans hF0 h14 (by decide +kernel)
      refine En_Ps 1 (pc' := 26) (lv' := [(0, .ref 0), (1, .int a)]) (st' := [.ref 0]) rfl ?_
      refine En_getU (j := 8) (u := 71) (g' := 30) (q := 0) rfl rfl rfl (by decide +kernel : TG 0 = 0) (by decide +kernel) h13 (by decide +kernel) (by decide +kernel) (fun h18 => ?_)
      refine En_Ps 2 (pc' := 31) (lv' := [(0, .ref 0), (1, .int a)]) (st' := [.int ((Int32.ofInt 1)), .int a, .ref 71]) rfl ?_
      refine En_bast (l := 0) (u := 1) rfl rfl (by decide +kernel : TG 71 = 30) (by decide +kernel) (narZ (by decide : (Int32.ofInt 1).toInt = 1) (by omega) (by omega)) (by omega) (lnI (by decide +kernel : LN _ = 3) (by omega)) (FTsgl (by decide +kernel)) (rngI (by decide : (Int32.ofInt 1).toInt = 1) (by omega) (by omega)) h13 h17 (by decide +kernel) (fun σ20 h21 h22 h23 h24 => ?_)
      refine En_Ps 1 (pc' := 33) (lv' := [(0, .ref 0), (1, .int a)]) (st' := [.int ((Int32.ofInt 0))]) rfl ?_
      refine En_top (by decide : (Int32.ofInt 0).toInt = 0) (fun z25 h26 => ?_)
      exact En_ret (v := some (.int z25)) rfl rfl rfl ⟨h21, h22, z25, rfl, ⟨by omega, by omega, fun _ => by omega, fun _ => by omega, fun _ => by omega, IMC_ok (by omega) (by omega) h16 h9 h23 h24 (by decide)⟩⟩
    · refine En_Ps 1 (pc' := 11) (lv' := [(0, .ref 0), (1, .int a)]) (st' := [.int (((Int8.ofInt (-2)).toInt32))]) rfl ?_
      refine En_top (by decide : ((Int8.ofInt (-2)).toInt32).toInt = -2) (fun z27 h28 => ?_)
      exact En_ret (v := some (.int z27)) rfl rfl rfl ⟨hσ0, hF0, z27, rfl, ⟨by omega, by omega, fun _ => by omega, fun _ => by omega, fun _ => by omega, IMC_no (by omega)⟩⟩
/-- DoorSchool.left(I)I -/
abbrev P_152x (σ0 : SG) (Wv : Int → Int) (a : Int32) (p : Nat) (sg : Int32) : PO := fun v σ => WT σ ∧ Fr [(20, 2), (21, 0), (22, 0)] σ0 σ ∧ ∃ ret : Int32, v = some (.int ret) ∧ -ret.toInt - 2 ≤ 0 ∧ ret.toInt - 63 ≤ 0 ∧ (KN σ p Wv (act Wv) ∧ OUT σ0 σ p)
set_option maxRecDepth 10000 in
set_option maxHeartbeats 4000000 in
theorem c_152x {Wv : Int → Int} (σ0 : SG) (hσ0 : WT σ0) (a : Int32) (p : Nat) (hp : TG p = 18) (h_p : (σ0 0)[9]? = some (.ref p)) (sg : Int32) (h_sg : (σ0 p)[1]? = some (.int sg)) (hp0 : -sg.toInt ≤ 0) (hP : PLA p) (hX : FXP σ0 p) (hK : KN σ0 p Wv (act Wv)) (hB : WFw Wv) : En 6 141 none mr_152 (P_152x σ0 Wv a p sg) 0 [(0, .ref 0), (1, .int a)] [] σ0 := by
  obtain ⟨hl_sg, hu_sg⟩ := WT_int hσ0 (g := 18) hp (by decide +kernel) (l := (-1)) (u := 4) (by decide +kernel) h_sg
  have hF0 : Fr [(20, 2), (21, 0), (22, 0)] σ0 σ0 := Fr_rfl
  have t1 : Wv (0) = sg.toInt := KN_v hK (Or.inl (by decide)) (by omega) (by omega) (by rw [lcO_lt (by decide) (by decide), Nat.add_zero]) rfl h_sg
  obtain ⟨z3, h2, h4, h5⟩ := WT_peekI hσ0 hp (by decide +kernel : FT 18 3 = (0, 0, 4)) (by decide +kernel)
  have t6 : Wv (2) = z3.toInt := KN_v hK (Or.inl (by decide)) (by omega) (by omega) (by rw [lcO_lt (by decide) (by decide), Nat.add_zero]) rfl h2
  refine En_Ps 2 (pc' := 2) (lv' := [(0, .ref 0), (1, .int a)]) (st' := [.int a, .ref 0]) rfl ?_
  refine En_callV rfl rfl rfl rfl rfl rfl rfl rfl (by decide +kernel : TG 0 = 0) (by decide +kernel) rfl (c_135x σ0 hσ0 a p hp h_p sg h_sg (by omega) hP (FXP_fr hP hX hF0 (by decide +kernel)) hK hB) (by decide) (by decide) (fun v8 σ9 h7 => ?_)
  obtain ⟨h10, h11, z13, rfl, h12⟩ := h7
  have h14 := h12.2.2.2.2
  have h15 := Fr_trans hF0 h11 (by decide +kernel)
  have h16 := h14.2
  refine En_Ps 3 (pc' := 9) (lv' := [(2, .int z13), (0, .ref 0), (1, .int a)]) (st' := [.int (((Int8.ofInt (-2)).toInt32)), .int z13]) rfl ?_
  refine En_icNe _ rfl (by decide : ((Int8.ofInt (-2)).toInt32).toInt = -2) rfl (fun h17 => ?_) (fun h17 => ?_)
  · have h18 := Imp_m h12.2.2.1 (by omega)
    refine En_Ps 2 (pc' := 17) (lv' := [(2, .int z13), (0, .ref 0), (1, .int a)]) (st' := [.int ((Int32.ofInt (-1))), .int z13]) rfl ?_
    refine En_icNe _ rfl (by decide : (Int32.ofInt (-1)).toInt = -1) rfl (fun h19 => ?_) (fun h19 => ?_)
    · have h20 := Imp_m h12.2.2.2.1 (by omega)
      refine En_Ps 3 (pc' := 34) (lv' := [(2, .int z13), (0, .ref 0), (1, .int a)]) (st' := [.int z13, .int a, .ref 0]) rfl ?_
      refine En_callV rfl rfl rfl rfl rfl rfl rfl rfl (by decide +kernel : TG 0 = 0) (by decide +kernel) rfl (c_127x σ9 h10 a z13 (geI rfl (by omega)) (leI rfl (by omega)) (geI rfl (by omega)) (leI rfl (by omega)) p hp ((h11 _ _ (inW (by decide +kernel : TG 0 = 0) (by decide +kernel))).trans h_p) sg ((h11 _ _ (inW hp (by decide +kernel))).trans h_sg) (by omega) hP (FXP_fr hP hX h15 (by decide +kernel)) h14.1 hB (by omega)) (by decide) (by decide) (fun v22 σ23 h21 => ?_)
      obtain ⟨h24, h25, z27, rfl, h26⟩ := h21
      have h28 := h26.2.2
      have h29 := Fr_trans h15 h25 (by decide +kernel)
      have h30 := OUT_tr h16 h28.2
      exact En_ret (v := some (.int z27)) rfl rfl rfl ⟨h24, h29, z27, rfl, ⟨by omega, by omega, ⟨h28.1, h30⟩⟩⟩
    · refine En_Ps 2 (pc' := 22) (lv' := [(2, .int z13), (0, .ref 0), (1, .int a)]) (st' := [.int a, .ref 0]) rfl ?_
      refine En_callV rfl rfl rfl rfl rfl rfl rfl rfl (by decide +kernel : TG 0 = 0) (by decide +kernel) rfl (c_126 σ9 h10 a (geI rfl (by omega)) (leI rfl (by omega)) p hp ((h11 _ _ (inW (by decide +kernel : TG 0 = 0) (by decide +kernel))).trans h_p) sg ((h11 _ _ (inW hp (by decide +kernel))).trans h_sg) (by omega)) (by decide) (by decide) (fun v32 σ33 h31 => ?_)
      obtain ⟨h34, h35, z37, rfl, h36⟩ := h31
      obtain rfl : σ9 = σ33 := Fr_nil h35
      refine En_callS rfl rfl rfl rfl rfl rfl rfl rfl rfl (c_7bx σ9 h10 z37) (by decide) (by decide) (fun v39 σ40 h38 => ?_)
      obtain ⟨h41, h42, z44, rfl, h43⟩ := h38
      obtain rfl : σ9 = σ40 := Fr_nil h42
      refine En_Ps 1 (pc' := 37) (lv' := [(2, .int z13), (0, .ref 0), (1, .int a)]) (st' := [.int z44]) rfl ?_
      exact En_ret (v := some (.int z44)) rfl rfl rfl ⟨h10, h15, z44, rfl, ⟨by omega, by omega, ⟨h14.1, h16⟩⟩⟩
  · refine En_Ps 1 (pc' := 14) (lv' := [(2, .int z13), (0, .ref 0), (1, .int a)]) (st' := [.int (((Int8.ofInt (-2)).toInt32))]) rfl ?_
    refine En_top (by decide : ((Int8.ofInt (-2)).toInt32).toInt = -2) (fun z45 h46 => ?_)
    exact En_ret (v := some (.int z45)) rfl rfl rfl ⟨h10, h15, z45, rfl, ⟨by omega, by omega, ⟨h14.1, h16⟩⟩⟩
/-- DoorSchool.lesson(III)I -/
abbrev P_154x (σ0 : SG) (Wv : Int → Int) (a : Int32) (b : Int32) (c : Int32) (p : Nat) (sg : Int32) : PO := fun v σ => WT σ ∧ Fr [] σ0 σ ∧ ∃ ret : Int32, v = some (.int ret) ∧ -ret.toInt - 2 ≤ 0 ∧ ret.toInt - 15 ≤ 0 ∧ ret.toInt = leR Wv a.toInt b.toInt c.toInt
set_option maxRecDepth 10000 in
set_option maxHeartbeats 4000000 in
theorem c_154x {Wv : Int → Int} (σ0 : SG) (hσ0 : WT σ0) (a : Int32) (b : Int32) (c : Int32) (p : Nat) (hp : TG p = 18) (h_p : (σ0 0)[9]? = some (.ref p)) (sg : Int32) (h_sg : (σ0 p)[1]? = some (.int sg)) (hp0 : -sg.toInt ≤ 0) (hP : PLA p) (hX : FXP σ0 p) (hK : KN σ0 p Wv (act Wv)) : En 1 21 none mr_154 (P_154x σ0 Wv a b c p sg) 0 [(0, .ref 0), (1, .int a), (2, .int b), (3, .int c)] [] σ0 := by
  obtain ⟨hl_sg, hu_sg⟩ := WT_int hσ0 (g := 18) hp (by decide +kernel) (l := (-1)) (u := 4) (by decide +kernel) h_sg
  have hF0 : Fr [] σ0 σ0 := Fr_rfl
  have t1 : Wv (0) = sg.toInt := KN_v hK (Or.inl (by decide)) (by omega) (by omega) (by rw [lcO_lt (by decide) (by decide), Nat.add_zero]) rfl h_sg
  refine En_Ps 1 (pc' := 1) (lv' := [(0, .ref 0), (1, .int a), (2, .int b), (3, .int c)]) (st' := [.ref 0]) rfl ?_
  refine En_getK (j := 9) h_p rfl rfl rfl (by decide +kernel : TG 0 = 0) (by decide +kernel) ?_
  refine En_Ps 1 (pc' := 5) (lv' := [(0, .ref 0), (1, .int a), (2, .int b), (3, .int c)]) (st' := [.int a, .ref p]) rfl ?_
  obtain ⟨z3, h2, h4, h5⟩ := WT_peekI hσ0 hp (by decide +kernel : FT 18 3 = (0, 0, 4)) (by decide +kernel)
  have t6 : Wv (2) = z3.toInt := KN_v hK (Or.inl (by decide)) (by omega) (by omega) (by rw [lcO_lt (by decide) (by decide), Nat.add_zero]) rfl h2
  refine En_callV rfl rfl rfl rfl rfl rfl rfl rfl hp (by decide +kernel) rfl (c_47x σ0 hσ0 p hp a z3 h2) (by decide) (by decide) (fun v8 σ9 h7 => ?_)
  obtain ⟨h10, h11, z13, rfl, h12⟩ := h7
  obtain rfl : σ0 = σ9 := Fr_nil h11
  refine En_iEq _ rfl rfl (fun h14 => ?_) (fun h14 => ?_)
  · have h15 := Imp_m h12.2.2.2.2.1 (by omega)
    refine En_Ps 1 (pc' := 20) (lv' := [(0, .ref 0), (1, .int a), (2, .int b), (3, .int c)]) (st' := [.int (((Int8.ofInt (-2)).toInt32))]) rfl ?_
    refine En_top (by decide : ((Int8.ofInt (-2)).toInt32).toInt = -2) (fun z16 h17 => ?_)
    exact En_ret (v := some (.int z16)) rfl rfl rfl ⟨hσ0, hF0, z16, rfl, ⟨by omega, by omega, (by have e := leR_2 (w := Wv) (d := a.toInt) (i := b.toInt) (q := c.toInt) (by omega); omega)⟩⟩
  · have h18 := Imp_m h12.2.2.1 (by omega)
    have h19 := Imp_m h12.2.2.2.1 (by omega)
    have h20 := Imp_m h12.2.2.2.2.2 (by omega)
    refine En_Ps 1 (pc' := 12) (lv' := [(0, .ref 0), (1, .int a), (2, .int b), (3, .int c)]) (st' := [.int c]) rfl ?_
    refine En_callS rfl rfl rfl rfl rfl rfl rfl rfl rfl (c_149 σ0 hσ0 c) (by decide) (by decide) (fun v22 σ23 h21 => ?_)
    obtain ⟨h24, h25, z27, rfl, h26⟩ := h21
    obtain rfl : σ0 = σ23 := Fr_nil h25
    refine En_iNe _ rfl rfl (fun h28 => ?_) (fun h28 => ?_)
    · refine En_Ps 1 (pc' := 22) (lv' := [(0, .ref 0), (1, .int a), (2, .int b), (3, .int c)]) (st' := [.ref 0]) rfl ?_
      refine En_getK (j := 9) h_p rfl rfl rfl (by decide +kernel : TG 0 = 0) (by decide +kernel) ?_
      refine En_getR (j := 4) (g' := 19) (u := 0) rfl rfl rfl hp (by decide +kernel) hσ0 (by decide +kernel) (fun a30 h29 ha30 => ?_)
      have t31 : a30 = p + 1 := ref_uniq h29 (FXP_fr hP hX hF0 (by decide +kernel)).1
      refine En_Ps 1 (pc' := 29) (lv' := [(0, .ref 0), (1, .int a), (2, .int b), (3, .int c)]) (st' := [.int a, .ref a30]) rfl ?_
      refine En_aald (g' := 28) (u := 0) rfl rfl ha30 (by decide +kernel) hσ0 (by omega) (lnI (by decide +kernel : LN _ = 4) (by omega)) (FTsgl (by decide +kernel)) (fun a33 h32 ha33 => ?_)
      have t34 : a33 = p + 10 + 4 * (a.toInt).toNat := DRe (d := a.toInt) (FXP_fr hP hX hF0 (by decide +kernel)) t31 h32 (by omega) (by omega)
      have t35 := lc_d (d := a.toInt) (by omega) (by omega)
      refine En_getR (j := 0) (g' := 20) (u := 0) rfl rfl rfl ha33 (by decide +kernel) hσ0 (by decide +kernel) (fun a37 h36 ha37 => ?_)
      have t38 : a37 = p + 11 + 4 * (a.toInt).toNat := DLc (d := a.toInt) (FXP_fr hP hX hF0 (by decide +kernel)) t34 h36 (by omega) (by omega)
      refine En_Ps 2 (pc' := 36) (lv' := [(4, .ref a37), (0, .ref 0), (1, .int a), (2, .int b), (3, .int c)]) (st' := [.int b]) rfl ?_
      refine En_iLt _ rfl rfl (fun h39 => ?_) (fun h39 => ?_)
      · refine En_Ps 1 (pc' := 49) (lv' := [(4, .ref a37), (0, .ref 0), (1, .int a), (2, .int b), (3, .int c)]) (st' := [.int ((Int32.ofInt (-1)))]) rfl ?_
        refine En_top (by decide : (Int32.ofInt (-1)).toInt = -1) (fun z40 h41 => ?_)
        exact En_ret (v := some (.int z40)) rfl rfl rfl ⟨hσ0, hF0, z40, rfl, ⟨by omega, by omega, (by have e := leR_1 (w := Wv) (d := a.toInt) (i := b.toInt) (q := c.toInt) (by omega) (by omega); omega)⟩⟩
      · refine En_Ps 2 (pc' := 42) (lv' := [(4, .ref a37), (0, .ref 0), (1, .int a), (2, .int b), (3, .int c)]) (st' := [.ref a37, .int b]) rfl ?_
        refine En_getI (j := 2) (l := 0) (u := 13) rfl rfl rfl ha37 (by decide +kernel) hσ0 (by decide +kernel) (fun z43 h42 h44 h45 => ?_)
        have t46 : Wv (12 + 4 * (a.toInt)) = z43.toInt := KN_v hK (Or.inr (Or.inl ⟨by omega, by omega, by omega⟩)) (by omega) (by omega) (by omega) (by omega) h42
        refine En_icLt _ rfl rfl rfl (fun h47 => ?_) (fun h47 => ?_)
        · refine En_Ps 1 (pc' := 51) (lv' := [(4, .ref a37), (0, .ref 0), (1, .int a), (2, .int b), (3, .int c)]) (st' := [.int c]) rfl ?_
          refine En_iNe _ rfl rfl (fun h48 => ?_) (fun h48 => ?_)
          · refine En_Ps 1 (pc' := 66) (lv' := [(4, .ref a37), (0, .ref 0), (1, .int a), (2, .int b), (3, .int c)]) (st' := [.ref a37]) rfl ?_
            refine En_getR (j := 1) (g' := 22) (u := 0) rfl rfl rfl ha37 (by decide +kernel) hσ0 (by decide +kernel) (fun a50 h49 ha50 => ?_)
            have t51 : a50 = p + 13 + 4 * (a.toInt).toNat := DKo (d := a.toInt) (FXP_fr hP hX hF0 (by decide +kernel)) t38 h49 (by omega) (by omega)
            refine En_Ps 1 (pc' := 70) (lv' := [(4, .ref a37), (0, .ref 0), (1, .int a), (2, .int b), (3, .int c)]) (st' := [.int b, .ref a50]) rfl ?_
            refine En_iald (l := 0) (u := 1) rfl rfl ha50 (by decide +kernel) hσ0 (by omega) (lnI (by decide +kernel : LN _ = 13) (by omega)) (FTsgl (by decide +kernel)) (fun z53 h52 h54 h55 => ?_)
            have t56 := lc_l (d := a.toInt) (m := b.toInt) (by omega) (by omega) (by omega) (by omega)
            have t57 : Wv (26 + 24 * (a.toInt) + 2 * (b.toInt) + 1) = z53.toInt := KN_v hK (act_lo (d := a.toInt) (m := b.toInt) (by omega) (by omega) (by omega) (by omega) (by omega) (by omega)) (by omega) (by omega) (by omega) (by omega) h52
            exact En_ret (v := some (.int z53)) rfl rfl rfl ⟨hσ0, hF0, z53, rfl, ⟨by omega, by omega, (by have e := leR_y (w := Wv) (d := a.toInt) (i := b.toInt) (q := c.toInt) (by omega) (by omega) t57; omega)⟩⟩
          · refine En_Ps 1 (pc' := 56) (lv' := [(4, .ref a37), (0, .ref 0), (1, .int a), (2, .int b), (3, .int c)]) (st' := [.ref a37]) rfl ?_
            refine En_getR (j := 0) (g' := 21) (u := 0) rfl rfl rfl ha37 (by decide +kernel) hσ0 (by decide +kernel) (fun a59 h58 ha59 => ?_)
            have t60 : a59 = p + 12 + 4 * (a.toInt).toNat := DKk (d := a.toInt) (FXP_fr hP hX hF0 (by decide +kernel)) t38 h58 (by omega) (by omega)
            refine En_Ps 1 (pc' := 60) (lv' := [(4, .ref a37), (0, .ref 0), (1, .int a), (2, .int b), (3, .int c)]) (st' := [.int b, .ref a59]) rfl ?_
            refine En_iald (l := 0) (u := 15) rfl rfl ha59 (by decide +kernel) hσ0 (by omega) (lnI (by decide +kernel : LN _ = 13) (by omega)) (FTsgl (by decide +kernel)) (fun z62 h61 h63 h64 => ?_)
            have t65 := lc_l (d := a.toInt) (m := b.toInt) (by omega) (by omega) (by omega) (by omega)
            have t66 : Wv (26 + 24 * (a.toInt) + 2 * (b.toInt)) = z62.toInt := KN_v hK (act_lk (d := a.toInt) (m := b.toInt) (by omega) (by omega) (by omega) (by omega) (by omega) (by omega)) (by omega) (by omega) (by omega) (by omega) h61
            refine En_Ps 1 (pc' := 71) (lv' := [(4, .ref a37), (0, .ref 0), (1, .int a), (2, .int b), (3, .int c)]) (st' := [.int z62]) rfl ?_
            exact En_ret (v := some (.int z62)) rfl rfl rfl ⟨hσ0, hF0, z62, rfl, ⟨by omega, by omega, (by have e := leR_y (w := Wv) (d := a.toInt) (i := b.toInt) (q := c.toInt) (by omega) (by omega) t66; omega)⟩⟩
        · refine En_Ps 1 (pc' := 49) (lv' := [(4, .ref a37), (0, .ref 0), (1, .int a), (2, .int b), (3, .int c)]) (st' := [.int ((Int32.ofInt (-1)))]) rfl ?_
          refine En_top (by decide : (Int32.ofInt (-1)).toInt = -1) (fun z67 h68 => ?_)
          exact En_ret (v := some (.int z67)) rfl rfl rfl ⟨hσ0, hF0, z67, rfl, ⟨by omega, by omega, (by have e := leR_1 (w := Wv) (d := a.toInt) (i := b.toInt) (q := c.toInt) (by omega) (by omega); omega)⟩⟩
    · refine En_Ps 1 (pc' := 20) (lv' := [(0, .ref 0), (1, .int a), (2, .int b), (3, .int c)]) (st' := [.int (((Int8.ofInt (-2)).toInt32))]) rfl ?_
      refine En_top (by decide : ((Int8.ofInt (-2)).toInt32).toInt = -2) (fun z69 h70 => ?_)
      exact En_ret (v := some (.int z69)) rfl rfl rfl ⟨hσ0, hF0, z69, rfl, ⟨by omega, by omega, (by have e := leR_2 (w := Wv) (d := a.toInt) (i := b.toInt) (q := c.toInt) (by omega); omega)⟩⟩
/-- DoorSchool.owns(II)I -/
abbrev P_161x (σ0 : SG) (Wv : Int → Int) (a : Int32) (b : Int32) (p : Nat) (sg : Int32) : PO := fun v σ => WT σ ∧ Fr [(18, 6), (18, 7)] σ0 σ ∧ ∃ ret : Int32, v = some (.int ret) ∧ -ret.toInt - 2 ≤ 0 ∧ ret.toInt - 65535 ≤ 0 ∧ (KN σ p (owW Wv a.toInt b.toInt) (act (owW Wv a.toInt b.toInt)) ∧ OUT σ0 σ p)
set_option maxRecDepth 10000 in
set_option maxHeartbeats 4000000 in
theorem c_161x {Wv : Int → Int} (σ0 : SG) (hσ0 : WT σ0) (a : Int32) (b : Int32) (p : Nat) (hp : TG p = 18) (h_p : (σ0 0)[9]? = some (.ref p)) (sg : Int32) (h_sg : (σ0 p)[1]? = some (.int sg)) (hp0 : -sg.toInt ≤ 0) (hP : PLA p) (hX : FXP σ0 p) (hK : KN σ0 p Wv (act Wv)) : En 3 63 none mr_161 (P_161x σ0 Wv a b p sg) 0 [(0, .ref 0), (1, .int a), (2, .int b)] [] σ0 := by
  obtain ⟨hl_sg, hu_sg⟩ := WT_int hσ0 (g := 18) hp (by decide +kernel) (l := (-1)) (u := 4) (by decide +kernel) h_sg
  have hF0 : Fr [(18, 6), (18, 7)] σ0 σ0 := Fr_rfl
  have t1 : Wv (0) = sg.toInt := KN_v hK (Or.inl (by decide)) (by omega) (by omega) (by rw [lcO_lt (by decide) (by decide), Nat.add_zero]) rfl h_sg
  refine En_Ps 1 (pc' := 1) (lv' := [(0, .ref 0), (1, .int a), (2, .int b)]) (st' := [.ref 0]) rfl ?_
  refine En_getK (j := 9) h_p rfl rfl rfl (by decide +kernel : TG 0 = 0) (by decide +kernel) ?_
  refine En_Ps 2 (pc' := 6) (lv' := [(0, .ref 0), (1, .int a), (2, .int b)]) (st' := [.int b, .int a, .ref p]) rfl ?_
  obtain ⟨z3, h2, h4, h5⟩ := WT_peekI hσ0 hp (by decide +kernel : FT 18 0 = (0, 0, 1601)) (by decide +kernel)
  have t6 : Wv (7) = z3.toInt := KN_v hK (Or.inl (by decide)) (by omega) (by omega) (by rw [lcO_lt (by decide) (by decide), Nat.add_zero]) rfl h2
  refine En_callV rfl rfl rfl rfl rfl rfl rfl rfl hp (by decide +kernel) rfl (c_50x σ0 hσ0 p hp a b z3 h2 sg h_sg (by omega)) (by decide) (by decide) (fun v8 σ9 h7 => ?_)
  obtain ⟨h10, h11, z13, rfl, h12⟩ := h7
  have h14 := h12.2.2.2
  obtain rfl : σ0 = σ9 := Fr_nil h11
  have h15 := h14
  have h16 : pI (Wv 0) = pI (sg.toInt) := by rw [t1]
  refine En_iNe _ rfl rfl (fun h17 => ?_) (fun h17 => ?_)
  · have h18 := Imp_m h12.2.2.1 (by omega)
    refine En_Ps 1 (pc' := 16) (lv' := [(0, .ref 0), (1, .int a), (2, .int b)]) (st' := [.ref 0]) rfl ?_
    refine En_callV rfl rfl rfl rfl rfl rfl rfl rfl (by decide +kernel : TG 0 = 0) (by decide +kernel) rfl (c_160 σ0 hσ0 p hp h_p sg h_sg (by omega)) (by decide) (by decide) (fun v20 σ21 h19 => ?_)
    obtain ⟨h22, h23, z25, rfl, h24⟩ := h19
    obtain rfl : σ0 = σ21 := Fr_nil h23
    refine En_Ps 2 (pc' := 21) (lv' := [(3, .int z25), (0, .ref 0), (1, .int a), (2, .int b)]) (st' := [.ref 0]) rfl ?_
    refine En_getK (j := 9) h_p rfl rfl rfl (by decide +kernel : TG 0 = 0) (by decide +kernel) ?_
    refine En_Ps 1 (pc' := 25) (lv' := [(3, .int z25), (0, .ref 0), (1, .int a), (2, .int b)]) (st' := [.int a, .ref p]) rfl ?_
    refine En_put (j := 6) rfl rfl rfl hp (by decide +kernel) rfl (vI (l := 0) (u := 15) (by decide +kernel) rfl (by omega) (by omega)) hσ0 hF0 (by decide +kernel) (fun σ26 h27 h28 h29 h30 => ?_)
    refine En_Ps 1 (pc' := 29) (lv' := [(3, .int z25), (0, .ref 0), (1, .int a), (2, .int b)]) (st' := [.ref 0]) rfl ?_
    refine En_getK (j := 9) ((h30 _ _ (Or.inr (by decide))).trans h_p) rfl rfl rfl (by decide +kernel : TG 0 = 0) (by decide +kernel) ?_
    refine En_Ps 1 (pc' := 33) (lv' := [(3, .int z25), (0, .ref 0), (1, .int a), (2, .int b)]) (st' := [.int b, .ref p]) rfl ?_
    refine En_put (j := 7) rfl rfl rfl hp (by decide +kernel) rfl (vI (l := 0) (u := 15) (by decide +kernel) rfl (by omega) (by omega)) h27 h28 (by decide +kernel) (fun σ31 h32 h33 h34 h35 => ?_)
    refine En_Ps 1 (pc' := 37) (lv' := [(3, .int z25), (0, .ref 0), (1, .int a), (2, .int b)]) (st' := [.int z25]) rfl ?_
    exact En_ret (v := some (.int z25)) rfl rfl rfl ⟨h32, h33, z25, rfl, ⟨by omega, by omega, (by rw [owW_y (by omega)]; exact KN_two hK (PLA_B hP) h29 h30 h34 h35)⟩⟩
  · refine En_Ps 1 (pc' := 14) (lv' := [(0, .ref 0), (1, .int a), (2, .int b)]) (st' := [.int (((Int8.ofInt (-2)).toInt32))]) rfl ?_
    refine En_top (by decide : ((Int8.ofInt (-2)).toInt32).toInt = -2) (fun z36 h37 => ?_)
    exact En_ret (v := some (.int z36)) rfl rfl rfl ⟨hσ0, hF0, z36, rfl, ⟨by omega, by omega, (by rw [owW_n (by omega)]; exact ⟨hK, OUT_0⟩)⟩⟩
/-- DoorSchool.row(III)I -/
abbrev P_165x (σ0 : SG) (a : Int32) (b : Int32) (c : Int32) (p : Nat) (sg : Int32) : PO := fun v σ => WT σ ∧ Fr [(33, 1), (33, 2), (33, 3), (34, 0)] σ0 σ ∧ ∃ ret : Int32, v = some (.int ret) ∧ -ret.toInt - 3 ≤ 0 ∧ ret.toInt ≤ 0 ∧ Imp (-a.toInt ≤ 0 ∧ a.toInt - 3 ≤ 0 ∧ -b.toInt ≤ 0 ∧ b.toInt - 3 ≤ 0 ∧ c.toInt - 60 ≤ 0 ∧ -c.toInt ≤ 0) (ret.toInt ≤ 0 ∧ -ret.toInt ≤ 0) ∧ Imp (-a.toInt ≤ 0 ∧ a.toInt - 3 ≤ 0 ∧ -b.toInt ≤ 0 ∧ b.toInt - 3 ≤ 0 ∧ c.toInt - 60 ≤ 0 ∧ c.toInt + 1 ≤ 0) (ret.toInt + 3 ≤ 0 ∧ -ret.toInt - 3 ≤ 0) ∧ Imp (a.toInt + 1 ≤ 0) (ret.toInt + 2 ≤ 0 ∧ -ret.toInt - 2 ≤ 0) ∧ Imp (-a.toInt + 4 ≤ 0) (ret.toInt + 2 ≤ 0 ∧ -ret.toInt - 2 ≤ 0) ∧ Imp (b.toInt + 1 ≤ 0) (ret.toInt + 2 ≤ 0 ∧ -ret.toInt - 2 ≤ 0) ∧ Imp (-b.toInt + 4 ≤ 0) (ret.toInt + 2 ≤ 0 ∧ -ret.toInt - 2 ≤ 0) ∧ Imp (-c.toInt + 61 ≤ 0) (ret.toInt + 2 ≤ 0 ∧ -ret.toInt - 2 ≤ 0)
set_option maxRecDepth 10000 in
set_option maxHeartbeats 4000000 in
theorem c_165x (σ0 : SG) (hσ0 : WT σ0) (a : Int32) (b : Int32) (c : Int32) (p : Nat) (hp : TG p = 18) (h_p : (σ0 0)[9]? = some (.ref p)) (sg : Int32) (h_sg : (σ0 p)[1]? = some (.int sg)) (hp0 : -sg.toInt ≤ 0) : En 2 46 none mr_165 (P_165x σ0 a b c p sg) 0 [(0, .ref 0), (1, .int a), (2, .int b), (3, .int c)] [] σ0 := by
  obtain ⟨hl_sg, hu_sg⟩ := WT_int hσ0 (g := 18) hp (by decide +kernel) (l := (-1)) (u := 4) (by decide +kernel) h_sg
  have hF0 : Fr [(33, 1), (33, 2), (33, 3), (34, 0)] σ0 σ0 := Fr_rfl
  refine En_Ps 1 (pc' := 1) (lv' := [(0, .ref 0), (1, .int a), (2, .int b), (3, .int c)]) (st' := [.int a]) rfl ?_
  refine En_callS rfl rfl rfl rfl rfl rfl rfl rfl rfl (c_147 σ0 hσ0 a) (by decide) (by decide) (fun v2 σ3 h1 => ?_)
  obtain ⟨h4, h5, z7, rfl, h6⟩ := h1
  have h8 := Fr_trans hF0 h5 (by decide +kernel)
  refine En_iEq _ rfl rfl (fun h9 => ?_) (fun h9 => ?_)
  · refine En_Ps 1 (pc' := 24) (lv' := [(0, .ref 0), (1, .int a), (2, .int b), (3, .int c)]) (st' := [.int (((Int8.ofInt (-2)).toInt32))]) rfl ?_
    refine En_top (by decide : ((Int8.ofInt (-2)).toInt32).toInt = -2) (fun z10 h11 => ?_)
    exact En_ret (v := some (.int z10)) rfl rfl rfl ⟨h4, h8, z10, rfl, ⟨by omega, by omega, fun _ => by omega, fun _ => by omega, fun _ => by omega, fun _ => by omega, fun _ => by omega, fun _ => by omega, fun _ => by omega⟩⟩
  · refine En_Ps 1 (pc' := 8) (lv' := [(0, .ref 0), (1, .int a), (2, .int b), (3, .int c)]) (st' := [.int b]) rfl ?_
    refine En_iLt _ rfl rfl (fun h12 => ?_) (fun h12 => ?_)
    · refine En_Ps 1 (pc' := 24) (lv' := [(0, .ref 0), (1, .int a), (2, .int b), (3, .int c)]) (st' := [.int (((Int8.ofInt (-2)).toInt32))]) rfl ?_
      refine En_top (by decide : ((Int8.ofInt (-2)).toInt32).toInt = -2) (fun z13 h14 => ?_)
      exact En_ret (v := some (.int z13)) rfl rfl rfl ⟨h4, h8, z13, rfl, ⟨by omega, by omega, fun _ => by omega, fun _ => by omega, fun _ => by omega, fun _ => by omega, fun _ => by omega, fun _ => by omega, fun _ => by omega⟩⟩
    · refine En_Ps 2 (pc' := 13) (lv' := [(0, .ref 0), (1, .int a), (2, .int b), (3, .int c)]) (st' := [.int ((Int32.ofInt 4)), .int b]) rfl ?_
      refine En_icGe _ rfl (by decide : (Int32.ofInt 4).toInt = 4) rfl (fun h15 => ?_) (fun h15 => ?_)
      · refine En_Ps 1 (pc' := 24) (lv' := [(0, .ref 0), (1, .int a), (2, .int b), (3, .int c)]) (st' := [.int (((Int8.ofInt (-2)).toInt32))]) rfl ?_
        refine En_top (by decide : ((Int8.ofInt (-2)).toInt32).toInt = -2) (fun z16 h17 => ?_)
        exact En_ret (v := some (.int z16)) rfl rfl rfl ⟨h4, h8, z16, rfl, ⟨by omega, by omega, fun _ => by omega, fun _ => by omega, fun _ => by omega, fun _ => by omega, fun _ => by omega, fun _ => by omega, fun _ => by omega⟩⟩
      · refine En_Ps 2 (pc' := 19) (lv' := [(0, .ref 0), (1, .int a), (2, .int b), (3, .int c)]) (st' := [.int (((Int8.ofInt 60).toInt32)), .int c]) rfl ?_
        refine En_icLe _ rfl (by decide : ((Int8.ofInt 60).toInt32).toInt = 60) rfl (fun h18 => ?_) (fun h18 => ?_)
        · refine En_Ps 1 (pc' := 26) (lv' := [(0, .ref 0), (1, .int a), (2, .int b), (3, .int c)]) (st' := [.int c]) rfl ?_
          refine En_iGe _ rfl rfl (fun h19 => ?_) (fun h19 => ?_)
          · refine En_Ps 1 (pc' := 33) (lv' := [(0, .ref 0), (1, .int a), (2, .int b), (3, .int c)]) (st' := [.ref 0]) rfl ?_
            refine En_getU (j := 6) (u := 150) (g' := 32) (q := 0) rfl rfl rfl (by decide +kernel : TG 0 = 0) (by decide +kernel) h4 (by decide +kernel) (by decide +kernel) (fun h20 => ?_)
            refine En_Ps 1 (pc' := 37) (lv' := [(0, .ref 0), (1, .int a), (2, .int b), (3, .int c)]) (st' := [.int a, .ref 150]) rfl ?_
            refine En_aald (g' := 33) (u := 0) rfl rfl (by decide +kernel : TG 150 = 32) (by decide +kernel) h4 (by omega) (lnI (by decide +kernel : LN _ = 4) (by omega)) (FTsgl (by decide +kernel)) (fun a23 h22 ha23 => ?_)
            refine En_Ps 2 (pc' := 40) (lv' := [(0, .ref 0), (1, .int a), (2, .int b), (3, .int c)]) (st' := [.int c, .int b, .ref a23]) rfl ?_
            refine En_callV rfl rfl rfl rfl rfl rfl rfl rfl ha23 (by decide +kernel) rfl (c_84 σ3 h4 a23 ha23 b c (geI rfl (by omega)) (leI rfl (by omega)) (geI rfl (by omega)) (leI rfl (by omega))) (by decide) (by decide) (fun v25 σ26 h24 => ?_)
            obtain ⟨h27, h28, rfl, h29⟩ := h24
            have h30 := Fr_trans h8 h28 (by decide +kernel)
            refine En_Ps 1 (pc' := 44) (lv' := [(0, .ref 0), (1, .int a), (2, .int b), (3, .int c)]) (st' := [.int ((Int32.ofInt 0))]) rfl ?_
            refine En_top (by decide : (Int32.ofInt 0).toInt = 0) (fun z31 h32 => ?_)
            exact En_ret (v := some (.int z31)) rfl rfl rfl ⟨h27, h30, z31, rfl, ⟨by omega, by omega, fun _ => by omega, fun _ => by omega, fun _ => by omega, fun _ => by omega, fun _ => by omega, fun _ => by omega, fun _ => by omega⟩⟩
          · refine En_Ps 1 (pc' := 31) (lv' := [(0, .ref 0), (1, .int a), (2, .int b), (3, .int c)]) (st' := [.int (((Int8.ofInt (-3)).toInt32))]) rfl ?_
            refine En_top (by decide : ((Int8.ofInt (-3)).toInt32).toInt = -3) (fun z33 h34 => ?_)
            exact En_ret (v := some (.int z33)) rfl rfl rfl ⟨h4, h8, z33, rfl, ⟨by omega, by omega, fun _ => by omega, fun _ => by omega, fun _ => by omega, fun _ => by omega, fun _ => by omega, fun _ => by omega, fun _ => by omega⟩⟩
        · refine En_Ps 1 (pc' := 24) (lv' := [(0, .ref 0), (1, .int a), (2, .int b), (3, .int c)]) (st' := [.int (((Int8.ofInt (-2)).toInt32))]) rfl ?_
          refine En_top (by decide : ((Int8.ofInt (-2)).toInt32).toInt = -2) (fun z35 h36 => ?_)
          exact En_ret (v := some (.int z35)) rfl rfl rfl ⟨h4, h8, z35, rfl, ⟨by omega, by omega, fun _ => by omega, fun _ => by omega, fun _ => by omega, fun _ => by omega, fun _ => by omega, fun _ => by omega, fun _ => by omega⟩⟩
/-- DoorSchool.school()I -/
abbrev P_169x (σ0 : SG) (By : Int → Int) (Nb : Int) (p : Nat) (sg : Int32) (p2 : Nat) : PO := fun v σ => WT σ ∧ Fr [(0, 9), (0, 10), (1, 1), (3, 1), (3, 2), (3, 3), (3, 4), (3, 5), (3, 6), (4, 0), (4, 1), (5, 0), (6, 0), (7, 0), (18, 0), (18, 1), (18, 2), (18, 3), (18, 6), (18, 7), (18, 8), (18, 11), (18, 14), (20, 2), (21, 0), (22, 0), (23, 0), (24, 0), (25, 0), (26, 0), (28, 1), (28, 2), (28, 3)] σ0 σ ∧ ∃ m1 : Int32, (σ 1)[1]? = some (.int m1) ∧ ∃ ret : Int32, v = some (.int ret) ∧ OUT σ0 σ p2 ∧ -ret.toInt - 4 ≤ 0 ∧ ret.toInt - 1601 ≤ 0 ∧ -m1.toInt ≤ 0 ∧ m1.toInt ≤ 0 ∧ -m1.toInt + sg.toInt - 4 ≤ 0 ∧ m1.toInt - sg.toInt ≤ 0 ∧ m1.toInt ≤ 0 ∧ -m1.toInt ≤ 0 ∧ ((INVc σ ∧ SCC By Nb σ ret.toInt) ∧ SPL By Nb σ p p2 ∧ RSC By Nb σ0 σ p2)
set_option maxRecDepth 10000 in
set_option maxHeartbeats 4000000 in
theorem c_169x {By : Int → Int} {Nb : Int} (σ0 : SG) (hσ0 : WT σ0) (p : Nat) (hp : TG p = 18) (h_p : (σ0 0)[9]? = some (.ref p)) (sg : Int32) (h_sg : (σ0 p)[1]? = some (.int sg)) (p2 : Nat) (hp2 : TG p2 = 18) (h_p2 : (σ0 0)[10]? = some (.ref p2)) (hp0 : -sg.toInt ≤ 0) (hne : p ≠ p2) (hB : TPc By Nb σ0) (hP2 : PLA p2) (hX2 : FXP σ0 p2) : En 8 181 none mr_169 (P_169x σ0 By Nb p sg p2) 0 [(0, .ref 0)] [] σ0 := by
  obtain ⟨hl_sg, hu_sg⟩ := WT_int hσ0 (g := 18) hp (by decide +kernel) (l := (-1)) (u := 4) (by decide +kernel) h_sg
  have hF0 : Fr [(0, 9), (0, 10), (1, 1), (3, 1), (3, 2), (3, 3), (3, 4), (3, 5), (3, 6), (4, 0), (4, 1), (5, 0), (6, 0), (7, 0), (18, 0), (18, 1), (18, 2), (18, 3), (18, 6), (18, 7), (18, 8), (18, 11), (18, 14), (20, 2), (21, 0), (22, 0), (23, 0), (24, 0), (25, 0), (26, 0), (28, 1), (28, 2), (28, 3)] σ0 σ0 := Fr_rfl
  refine En_Ps 1 (pc' := 1) (lv' := [(0, .ref 0)]) (st' := [.ref 0]) rfl ?_
  refine En_getU (j := 1) (u := 3) (g' := 3) (q := 0) rfl rfl rfl (by decide +kernel : TG 0 = 0) (by decide +kernel) hσ0 (by decide +kernel) (by decide +kernel) (fun h1 => ?_)
  refine En_Ps 1 (pc' := 5) (lv' := [(0, .ref 0)]) (st' := [.ref 0, .ref 3]) rfl ?_
  refine En_getK (j := 10) h_p2 rfl rfl rfl (by decide +kernel : TG 0 = 0) (by decide +kernel) ?_
  refine En_callV rfl rfl rfl rfl rfl rfl rfl rfl (by decide +kernel : TG 3 = 3) (by decide +kernel) rfl (c_60x σ0 hσ0 p2 hp2 hB hP2 hX2) (by decide) (by decide) (fun v4 σ5 h3 => ?_)
  obtain ⟨h6, h7, z9, h10, z11, h12, rfl, h8⟩ := h3
  have h13 := h8.2.2.2.2.2.2
  have h14 := Fr_trans hF0 h7 (by decide +kernel)
  have h15 := RSAM_tr (RSAM_0 (σ := σ0)) (RSAM_fr h7 (by decide +kernel))
  have o16 := OUT_tr OUT_0 h8.1
  obtain ⟨z18, h17, h19, h20⟩ := WT_peekI h6 hp2 (by decide +kernel : FT 18 0 = (0, 0, 1601)) (by decide +kernel)
  obtain ⟨z22, h21, h23, h24⟩ := WT_peekI h6 (by decide +kernel : TG 3 = 3) (by decide +kernel : FT 3 6 = (0, (-1), 1600)) (by decide +kernel)
  have h25 := CT_k h13.2.1 h10
  have h26 : (fRead By Nb 1601 S00).1 = 0 → (fRead By Nb 1601 S00).2.2.2 7 = z18.toInt := fun zz => KN_v (h13.2.2 zz) (Or.inl (by decide)) (by decide) (by decide) (by rw [lcO_lt (by decide) (by decide), Nat.add_zero]) (by decide) h17
  have h27 : (fRead By Nb 1601 S00).2.1 = z22.toInt := h13.2.1.2.2.1.symm.trans (ci_at (j := 6) h21 rfl)
  have h28 : ((fRead By Nb 1601 S00).1 = 0 → KN σ5 p2 (fRead By Nb 1601 S00).2.2.2 (act (fRead By Nb 1601 S00).2.2.2)) := h13.2.2
  refine En_Ps 1 (pc' := 12) (lv' := [(0, .ref 0)]) (st' := [.ref 0]) rfl ?_
  refine En_getU (j := 0) (u := 1) (g' := 1) (q := 0) rfl rfl rfl (by decide +kernel : TG 0 = 0) (by decide +kernel) h6 (by decide +kernel) (by decide +kernel) (fun h29 => ?_)
  refine En_Ps 1 (pc' := 16) (lv' := [(0, .ref 0)]) (st' := [.int ((Int32.ofInt 0)), .ref 1]) rfl ?_
  refine En_put (j := 1) rfl rfl rfl (by decide +kernel : TG 1 = 1) (by decide +kernel) rfl (vI (l := 0) (u := 1600) (by decide +kernel) (by decide : (Int32.ofInt 0).toInt = 0) (by omega) (by omega)) h6 h14 (by decide +kernel) (fun σ31 h32 h33 h34 h35 => ?_)
  have h36 : ((fRead By Nb 1601 S00).1 = 0 → KN σ31 p2 (fRead By Nb 1601 S00).2.2.2 (act (fRead By Nb 1601 S00).2.2.2)) := fun zz => KN_ne (h28 zz) h35 (by have := hP2; unfold PLA at this; omega)
  have h37 := RSAM_ne h15 h35 (by decide)
  have o38 := OUT_pn o16 h35 (by decide +kernel : TG 1 = 1) (by decide)
  refine En_Ps 1 (pc' := 20) (lv' := [(0, .ref 0)]) (st' := [.ref 0]) rfl ?_
  refine En_getK (j := 1) ((h35 _ _ (Or.inl (neTG (by decide +kernel : TG 0 = 0) (by decide +kernel : TG 1 = 1) (by decide)))).trans ((h7 _ _ (inW (by decide +kernel : TG 0 = 0) (by decide +kernel))).trans h1)) rfl rfl rfl (by decide +kernel : TG 0 = 0) (by decide +kernel) ?_
  refine En_getK (j := 5) ((h35 _ _ (Or.inr (by decide))).trans h10) rfl rfl rfl (by decide +kernel : TG 3 = 3) (by decide +kernel) ?_
  refine En_iEq _ rfl rfl (fun h39 => ?_) (fun h39 => ?_)
  · refine En_Ps 1 (pc' := 33) (lv' := [(0, .ref 0)]) (st' := [.ref 0]) rfl ?_
    refine En_getK (j := 9) ((h35 _ _ (Or.inr (by decide))).trans ((h7 _ _ (inW (by decide +kernel : TG 0 = 0) (by decide +kernel))).trans h_p)) rfl rfl rfl (by decide +kernel : TG 0 = 0) (by decide +kernel) ?_
    refine En_Ps 3 (pc' := 39) (lv' := [(1, .ref p), (0, .ref 0)]) (st' := [.ref 0, .ref 0]) rfl ?_
    refine En_getK (j := 10) ((h35 _ _ (Or.inr (by decide))).trans ((h7 _ _ (inW (by decide +kernel : TG 0 = 0) (by decide +kernel))).trans h_p2)) rfl rfl rfl (by decide +kernel : TG 0 = 0) (by decide +kernel) ?_
    refine En_put (j := 9) rfl rfl rfl (by decide +kernel : TG 0 = 0) (by decide +kernel) rfl (vR (g' := 18) (u := 0) (by decide +kernel) hp2) h32 h33 (by decide +kernel) (fun σ40 h41 h42 h43 h44 => ?_)
    have h45 : ((fRead By Nb 1601 S00).1 = 0 → KN σ40 p2 (fRead By Nb 1601 S00).2.2.2 (act (fRead By Nb 1601 S00).2.2.2)) := fun zz => KN_ne (h36 zz) h44 (by have := hP2; unfold PLA at this; omega)
    have h46 := RSAM_ne h37 h44 (by decide)
    have o47 := OUT_pn o38 h44 (by decide +kernel : TG 0 = 0) (by decide)
    refine En_Ps 2 (pc' := 47) (lv' := [(1, .ref p), (0, .ref 0)]) (st' := [.ref p, .ref 0]) rfl ?_
    refine En_put (j := 10) rfl rfl rfl (by decide +kernel : TG 0 = 0) (by decide +kernel) rfl (vR (g' := 18) (u := 0) (by decide +kernel) hp) h41 h42 (by decide +kernel) (fun σ48 h49 h50 h51 h52 => ?_)
    have h53 : ((fRead By Nb 1601 S00).1 = 0 → KN σ48 p2 (fRead By Nb 1601 S00).2.2.2 (act (fRead By Nb 1601 S00).2.2.2)) := fun zz => KN_ne (h45 zz) h52 (by have := hP2; unfold PLA at this; omega)
    have h54 := RSAM_ne h46 h52 (by decide)
    have o55 := OUT_pn o47 h52 (by decide +kernel : TG 0 = 0) (by decide)
    refine En_Ps 1 (pc' := 51) (lv' := [(1, .ref p), (0, .ref 0)]) (st' := [.ref 0]) rfl ?_
    refine En_getU (j := 2) (u := 4) (g' := 4) (q := 0) rfl rfl rfl (by decide +kernel : TG 0 = 0) (by decide +kernel) h49 (by decide +kernel) (by decide +kernel) (fun h56 => ?_)
    refine En_Ps 1 (pc' := 55) (lv' := [(1, .ref p), (0, .ref 0)]) (st' := [.ref 0, .ref 4]) rfl ?_
    refine En_getK (j := 9) ((h52 _ _ (Or.inr (by decide))).trans h43) rfl rfl rfl (by decide +kernel : TG 0 = 0) (by decide +kernel) ?_
    refine En_getK (j := 1) ((h52 _ _ (Or.inr (by decide))).trans ((h44 _ _ (Or.inr (by decide))).trans ((h35 _ _ (Or.inl (neTG hp2 (by decide +kernel : TG 1 = 1) (by decide)))).trans h12))) rfl rfl rfl hp2 (by decide +kernel) ?_
    refine En_callV rfl rfl rfl rfl rfl rfl rfl rfl (by decide +kernel : TG 4 = 4) (by decide +kernel) rfl (c_82x σ48 h49 z11 (geI rfl (by omega)) (leI rfl (by omega))) (by decide) (by decide) (fun v59 σ60 h58 => ?_)
    obtain ⟨h61, h62, rfl, h63⟩ := h58
    have h64 := h63
    have h65 := Fr_trans h50 h62 (by decide +kernel)
    have h66 : ((fRead By Nb 1601 S00).1 = 0 → KN σ60 p2 (fRead By Nb 1601 S00).2.2.2 (act (fRead By Nb 1601 S00).2.2.2)) := fun zz => KN_fr hP2 (h53 zz) h62 (by decide +kernel)
    have o67 := OUT_fr o55 h62 (by decide +kernel)
    refine En_Ps 1 (pc' := 65) (lv' := [(1, .ref p), (0, .ref 0)]) (st' := [.ref 0]) rfl ?_
    refine En_getK (j := 9) ((h62 _ _ (inW (by decide +kernel : TG 0 = 0) (by decide +kernel))).trans ((h52 _ _ (Or.inr (by decide))).trans h43)) rfl rfl rfl (by decide +kernel : TG 0 = 0) (by decide +kernel) ?_
    refine En_getK (j := 0) ((h62 _ _ (inW hp2 (by decide +kernel))).trans ((h52 _ _ (Or.inr (by decide))).trans ((h44 _ _ (Or.inr (by decide))).trans ((h35 _ _ (Or.inr (by decide))).trans h17)))) rfl rfl rfl hp2 (by decide +kernel) ?_
    have := (by decide : (Int32.ofInt 0).toInt = 0)
    exact En_ret (v := some (.int z18)) rfl rfl rfl ⟨h61, h65, (Int32.ofInt 0), ((h62 _ _ (inW (by decide +kernel : TG 1 = 1) (by decide +kernel))).trans ((h52 _ _ (Or.inr (by decide))).trans ((h44 _ _ (Or.inr (by decide))).trans h34))), z18, rfl, ⟨o67, by omega, by omega, by omega, by omega, by omega, by omega, by omega, by omega, ⟨⟨⟨p2, p, z11, hp2, hp, ((h62 _ _ (inW (by decide +kernel : TG 0 = 0) (by decide +kernel))).trans ((h52 _ _ (Or.inr (by decide))).trans h43)), ((h62 _ _ (inW (by decide +kernel : TG 0 = 0) (by decide +kernel))).trans h51), (fun e => hne e.symm), ((h62 _ _ (inW hp2 (by decide +kernel))).trans ((h52 _ _ (Or.inr (by decide))).trans ((h44 _ _ (Or.inr (by decide))).trans ((h35 _ _ (Or.inl (neTG hp2 (by decide +kernel : TG 1 = 1) (by decide)))).trans h12)))), (by omega)⟩, ⟨(ci_at (j := 5) ((h62 _ _ (inW (by decide +kernel : TG 3 = 3) (by decide +kernel))).trans ((h52 _ _ (Or.inr (by decide))).trans ((h44 _ _ (Or.inr (by decide))).trans ((h35 _ _ (Or.inr (by decide))).trans h10)))) rfl).trans (by omega), (ci_at (j := 6) ((h62 _ _ (inW (by decide +kernel : TG 3 = 3) (by decide +kernel))).trans ((h52 _ _ (Or.inr (by decide))).trans ((h44 _ _ (Or.inr (by decide))).trans ((h35 _ _ (Or.inr (by decide))).trans h21)))) rfl).trans (by omega), fun zz => by omega, fun zz => by omega⟩⟩, ⟨fun zz => absurd (by omega) zz, fun zz => ⟨((h62 _ _ (inW (by decide +kernel : TG 0 = 0) (by decide +kernel))).trans ((h52 _ _ (Or.inr (by decide))).trans h43)), h66 zz⟩⟩, ⟨fun _ => (RULx_eq h64 (ci_at (j := 1) ((h62 _ _ (inW hp2 (by decide +kernel))).trans ((h52 _ _ (Or.inr (by decide))).trans ((h44 _ _ (Or.inr (by decide))).trans ((h35 _ _ (Or.inl (neTG hp2 (by decide +kernel : TG 1 = 1) (by decide)))).trans h12)))) rfl)), fun zz => absurd (by omega) zz⟩⟩⟩⟩
  · refine En_Ps 1 (pc' := 31) (lv' := [(0, .ref 0)]) (st' := [.int (((Int8.ofInt (-4)).toInt32))]) rfl ?_
    have := (by decide : (Int32.ofInt 0).toInt = 0)
    refine En_top (by decide : ((Int8.ofInt (-4)).toInt32).toInt = -4) (fun z68 h69 => ?_)
    exact En_ret (v := some (.int z68)) rfl rfl rfl ⟨h32, h33, (Int32.ofInt 0), h34, z68, rfl, ⟨o38, by omega, by omega, by omega, by omega, by omega, by omega, by omega, by omega, ⟨⟨⟨p, p2, sg, hp, hp2, ((h35 _ _ (Or.inr (by decide))).trans ((h7 _ _ (inW (by decide +kernel : TG 0 = 0) (by decide +kernel))).trans h_p)), ((h35 _ _ (Or.inr (by decide))).trans ((h7 _ _ (inW (by decide +kernel : TG 0 = 0) (by decide +kernel))).trans h_p2)), hne, ((h35 _ _ (Or.inl (neTG hp (by decide +kernel : TG 1 = 1) (by decide)))).trans (((h13.1 p hp hne)).trans h_sg)), (by omega)⟩, ⟨(ci_at (j := 5) ((h35 _ _ (Or.inr (by decide))).trans h10) rfl).trans (by omega), (ci_at (j := 6) ((h35 _ _ (Or.inr (by decide))).trans h21) rfl).trans (by omega), fun zz => by omega, fun zz => by omega⟩⟩, ⟨fun _ => ((h35 _ _ (Or.inr (by decide))).trans ((h7 _ _ (inW (by decide +kernel : TG 0 = 0) (by decide +kernel))).trans h_p)), fun zz => absurd zz (by omega)⟩, ⟨fun zz => absurd zz (by omega), fun _ => h37⟩⟩⟩⟩
/-- DoorSchool.teach(III)I -/
abbrev P_174x (σ0 : SG) (Wv : Int → Int) (a : Int32) (b : Int32) (c : Int32) (p : Nat) (sg : Int32) : PO := fun v σ => WT σ ∧ Fr [(18, 14), (20, 2), (21, 0), (22, 0), (27, 0)] σ0 σ ∧ ∃ ret : Int32, v = some (.int ret) ∧ -ret.toInt - 5 ≤ 0 ∧ ret.toInt - 12 ≤ 0 ∧ (ret.toInt = tcR Wv a.toInt b.toInt c.toInt ∧ KN σ p (tcW Wv a.toInt b.toInt c.toInt) (act (tcW Wv a.toInt b.toInt c.toInt)) ∧ OUT σ0 σ p)
set_option maxRecDepth 10000 in
set_option maxHeartbeats 4000000 in
theorem c_174x {Wv : Int → Int} (σ0 : SG) (hσ0 : WT σ0) (a : Int32) (b : Int32) (c : Int32) (p : Nat) (hp : TG p = 18) (h_p : (σ0 0)[9]? = some (.ref p)) (sg : Int32) (h_sg : (σ0 p)[1]? = some (.int sg)) (hp0 : -sg.toInt ≤ 0) (hP : PLA p) (hX : FXP σ0 p) (hK : KN σ0 p Wv (act Wv)) : En 3 64 none mr_174 (P_174x σ0 Wv a b c p sg) 0 [(0, .ref 0), (1, .int a), (2, .int b), (3, .int c)] [] σ0 := by
  obtain ⟨hl_sg, hu_sg⟩ := WT_int hσ0 (g := 18) hp (by decide +kernel) (l := (-1)) (u := 4) (by decide +kernel) h_sg
  have hF0 : Fr [(18, 14), (20, 2), (21, 0), (22, 0), (27, 0)] σ0 σ0 := Fr_rfl
  have t1 : Wv (0) = sg.toInt := KN_v hK (Or.inl (by decide)) (by omega) (by omega) (by rw [lcO_lt (by decide) (by decide), Nat.add_zero]) rfl h_sg
  refine En_Ps 4 (pc' := 4) (lv' := [(0, .ref 0), (1, .int a), (2, .int b), (3, .int c)]) (st' := [.int c, .int b, .int a, .ref 0]) rfl ?_
  refine En_callV rfl rfl rfl rfl rfl rfl rfl rfl (by decide +kernel : TG 0 = 0) (by decide +kernel) rfl (c_144x σ0 hσ0 a b c p hp h_p sg h_sg (by omega) hP (FXP_fr hP hX hF0 (by decide +kernel)) hK) (by decide) (by decide) (fun v3 σ4 h2 => ?_)
  obtain ⟨h5, h6, z8, rfl, h7⟩ := h2
  have h9 := h7.2.2.2.2
  obtain rfl : σ0 = σ4 := Fr_nil h6
  have h10 := h9
  refine En_iNe _ rfl rfl (fun h11 => ?_) (fun h11 => ?_)
  · have h12 := Imp_m h7.2.2.2.1 (by omega)
    have h13 : okL Wv a.toInt b.toInt c.toInt := by rcases h10 with q | q; exact q.2; exfalso; omega
    have h14 := h13.1
    have h15 := h13.2.1
    refine En_Ps 1 (pc' := 14) (lv' := [(0, .ref 0), (1, .int a), (2, .int b), (3, .int c)]) (st' := [.ref 0]) rfl ?_
    refine En_getK (j := 9) h_p rfl rfl rfl (by decide +kernel : TG 0 = 0) (by decide +kernel) ?_
    refine En_getR (j := 4) (g' := 19) (u := 0) rfl rfl rfl hp (by decide +kernel) hσ0 (by decide +kernel) (fun a17 h16 ha17 => ?_)
    have t18 : a17 = p + 1 := ref_uniq h16 (FXP_fr hP hX hF0 (by decide +kernel)).1
    obtain ⟨z20, h19, h21, h22⟩ := WT_peekI hσ0 hp (by decide +kernel : FT 18 3 = (0, 0, 4)) (by decide +kernel)
    have t23 : Wv (2) = z20.toInt := KN_v hK (Or.inl (by decide)) (by omega) (by omega) (by rw [lcO_lt (by decide) (by decide), Nat.add_zero]) rfl h19
    refine En_Ps 1 (pc' := 21) (lv' := [(0, .ref 0), (1, .int a), (2, .int b), (3, .int c)]) (st' := [.int a, .ref a17]) rfl ?_
    refine En_aald (g' := 28) (u := 0) rfl rfl ha17 (by decide +kernel) hσ0 (by omega) (lnI (by decide +kernel : LN _ = 4) (by omega)) (FTsgl (by decide +kernel)) (fun a25 h24 ha25 => ?_)
    have t26 : a25 = p + 10 + 4 * (a.toInt).toNat := DRe (d := a.toInt) (FXP_fr hP hX hF0 (by decide +kernel)) t18 h24 (by omega) (by omega)
    have t27 := lc_d (d := a.toInt) (by omega) (by omega)
    refine En_getR (j := 0) (g' := 20) (u := 0) rfl rfl rfl ha25 (by decide +kernel) hσ0 (by decide +kernel) (fun a29 h28 ha29 => ?_)
    have t30 : a29 = p + 11 + 4 * (a.toInt).toNat := DLc (d := a.toInt) (FXP_fr hP hX hF0 (by decide +kernel)) t26 h28 (by omega) (by omega)
    refine En_Ps 2 (pc' := 29) (lv' := [(4, .ref a29), (0, .ref 0), (1, .int a), (2, .int b), (3, .int c)]) (st' := [.ref a29]) rfl ?_
    refine En_getI (j := 2) (l := 0) (u := 13) rfl rfl rfl ha29 (by decide +kernel) hσ0 (by decide +kernel) (fun z32 h31 h33 h34 => ?_)
    have t35 : Wv (12 + 4 * (a.toInt)) = z32.toInt := KN_v hK (Or.inr (Or.inl ⟨by omega, by omega, by omega⟩)) (by omega) (by omega) (by omega) (by omega) h31
    refine En_Ps 1 (pc' := 34) (lv' := [(4, .ref a29), (0, .ref 0), (1, .int a), (2, .int b), (3, .int c)]) (st' := [.int (((Int8.ofInt 12).toInt32)), .int z32]) rfl ?_
    refine En_icLt _ rfl (by decide : ((Int8.ofInt 12).toInt32).toInt = 12) rfl (fun h36 => ?_) (fun h36 => ?_)
    · refine En_Ps 1 (pc' := 41) (lv' := [(4, .ref a29), (0, .ref 0), (1, .int a), (2, .int b), (3, .int c)]) (st' := [.ref 0]) rfl ?_
      refine En_getK (j := 9) h_p rfl rfl rfl (by decide +kernel : TG 0 = 0) (by decide +kernel) ?_
      refine En_getI (j := 14) (l := 0) (u := 60) rfl rfl rfl hp (by decide +kernel) hσ0 (by decide +kernel) (fun z38 h37 h39 h40 => ?_)
      have t41 : Wv (6) = z38.toInt := KN_v hK (Or.inl (by decide)) (by omega) (by omega) (by rw [lcO_lt (by decide) (by decide), Nat.add_zero]) rfl h37
      refine En_Ps 1 (pc' := 49) (lv' := [(4, .ref a29), (0, .ref 0), (1, .int a), (2, .int b), (3, .int c)]) (st' := [.int (((Int8.ofInt 60).toInt32)), .int z38]) rfl ?_
      refine En_icLt _ rfl (by decide : ((Int8.ofInt 60).toInt32).toInt = 60) rfl (fun h42 => ?_) (fun h42 => ?_)
      · refine En_Ps 3 (pc' := 59) (lv' := [(4, .ref a29), (0, .ref 0), (1, .int a), (2, .int b), (3, .int c)]) (st' := [.int c, .int b, .ref a29]) rfl ?_
        obtain ⟨a44, h43, ha44⟩ := WT_peekR (g := 20) (j := 0) (g' := 21) (u := 0) hσ0 ha29 (by decide +kernel) (by decide +kernel)
        have t45 : a44 = p + 12 + 4 * (a.toInt).toNat := DKk (d := a.toInt) (FXP_fr hP hX hF0 (by decide +kernel)) t30 h43 (by omega) (by omega)
        obtain ⟨a47, h46, ha47⟩ := WT_peekR (g := 20) (j := 1) (g' := 22) (u := 0) hσ0 ha29 (by decide +kernel) (by decide +kernel)
        have t48 : a47 = p + 13 + 4 * (a.toInt).toNat := DKo (d := a.toInt) (FXP_fr hP hX hF0 (by decide +kernel)) t30 h46 (by omega) (by omega)
        refine En_callV rfl rfl rfl rfl rfl rfl rfl rfl ha29 (by decide +kernel) rfl (c_31x σ0 hσ0 a29 ha29 b c (geI rfl (by omega)) (leI rfl (by omega)) (geI rfl (by omega)) (leI rfl (by omega)) a44 ha44 h43 a47 ha47 h46 z32 h31 (by omega)) (by decide) (by decide) (fun v50 σ51 h49 => ?_)
        obtain ⟨h52, h53, z55, h56, rfl, h54⟩ := h49
        have h57 := h54.2.2.2.2
        have h58 := Fr_trans hF0 h53 (by decide +kernel)
        refine En_Ps 1 (pc' := 63) (lv' := [(4, .ref a29), (0, .ref 0), (1, .int a), (2, .int b), (3, .int c)]) (st' := [.ref 0]) rfl ?_
        refine En_getK (j := 9) ((h53 _ _ (inW (by decide +kernel : TG 0 = 0) (by decide +kernel))).trans h_p) rfl rfl rfl (by decide +kernel : TG 0 = 0) (by decide +kernel) ?_
        refine En_getR (j := 15) (g' := 27) (u := 0) rfl rfl rfl hp (by decide +kernel) h52 (by decide +kernel) (fun a60 h59 ha60 => ?_)
        have t61 : a60 = p + 9 := ref_uniq h59 (FXP_fr hP hX h58 (by decide +kernel)).2.2.2.2.2.2.1
        refine En_Ps 1 (pc' := 70) (lv' := [(4, .ref a29), (0, .ref 0), (1, .int a), (2, .int b), (3, .int c)]) (st' := [.ref 0, .ref a60]) rfl ?_
        refine En_getK (j := 9) ((h53 _ _ (inW (by decide +kernel : TG 0 = 0) (by decide +kernel))).trans h_p) rfl rfl rfl (by decide +kernel : TG 0 = 0) (by decide +kernel) ?_
        refine En_getK (j := 14) ((h53 _ _ (inW hp (by decide +kernel))).trans h37) rfl rfl rfl hp (by decide +kernel) ?_
        refine En_Ps 1 (pc' := 77) (lv' := [(4, .ref a29), (0, .ref 0), (1, .int a), (2, .int b), (3, .int c)]) (st' := [.int a, .int z38, .ref a60]) rfl ?_
        refine En_iast (l := 0) (u := 3) rfl rfl ha60 (by decide +kernel) (by omega) (lnI (by decide +kernel : LN _ = 60) (by omega)) (FTsgl (by decide +kernel)) (rngI rfl (by omega) (by omega)) h52 h58 (by decide +kernel) (fun σ62 h63 h64 h65 h66 => ?_)
        refine En_Ps 1 (pc' := 79) (lv' := [(4, .ref a29), (0, .ref 0), (1, .int a), (2, .int b), (3, .int c)]) (st' := [.ref 0]) rfl ?_
        refine En_getK (j := 9) ((h66 _ _ (Or.inl (neTG (by decide +kernel : TG 0 = 0) ha60 (by decide)))).trans ((h53 _ _ (inW (by decide +kernel : TG 0 = 0) (by decide +kernel))).trans h_p)) rfl rfl rfl (by decide +kernel : TG 0 = 0) (by decide +kernel) ?_
        refine En_Ps 1 (pc' := 83) (lv' := [(4, .ref a29), (0, .ref 0), (1, .int a), (2, .int b), (3, .int c)]) (st' := [.ref p, .ref p]) rfl ?_
        refine En_getK (j := 14) ((h66 _ _ (Or.inl (neTG hp ha60 (by decide)))).trans ((h53 _ _ (inW hp (by decide +kernel))).trans h37)) rfl rfl rfl hp (by decide +kernel) ?_
        refine En_Ps 2 (pc' := 88) (lv' := [(4, .ref a29), (0, .ref 0), (1, .int a), (2, .int b), (3, .int c)]) (st' := [.int ((z38 + ((Int32.ofInt 1)))), .ref p]) rfl ?_
        refine En_top (addI rfl (by decide : (Int32.ofInt 1).toInt = 1) (by omega) (by omega)) (fun z67 h68 => ?_)
        refine En_put (j := 14) rfl rfl rfl hp (by decide +kernel) rfl (vI (l := 0) (u := 60) (by decide +kernel) rfl (by omega) (by omega)) h63 h64 (by decide +kernel) (fun σ69 h70 h71 h72 h73 => ?_)
        refine En_Ps 1 (pc' := 93) (lv' := [(4, .ref a29), (0, .ref 0), (1, .int a), (2, .int b), (3, .int c)]) (st' := [.ref a29]) rfl ?_
        refine En_getK (j := 2) ((h73 _ _ (Or.inr (by decide))).trans ((h66 _ _ (Or.inl (neTG ha29 ha60 (by decide)))).trans h56)) rfl rfl rfl ha29 (by decide +kernel) ?_
        exact En_ret (v := some (.int z55)) rfl rfl rfl ⟨h70, h71, z55, rfl, ⟨by omega, by omega, (by rw [tcW_y h13 (by omega) (by omega)]; exact ⟨tcR_y h13 (by omega) (by omega) (by omega), KN_teach hK (PLA_B hP) t35 t41 h57 rfl rfl h65 h66 h72 h73 t30 t45 t48 t61 rfl (by omega) (by omega) (by omega) (by omega) (by omega) (by omega) (by omega)⟩)⟩⟩
      · refine En_Ps 1 (pc' := 54) (lv' := [(4, .ref a29), (0, .ref 0), (1, .int a), (2, .int b), (3, .int c)]) (st' := [.int (((Int8.ofInt (-5)).toInt32))]) rfl ?_
        refine En_top (by decide : ((Int8.ofInt (-5)).toInt32).toInt = -5) (fun z74 h75 => ?_)
        exact En_ret (v := some (.int z74)) rfl rfl rfl ⟨hσ0, hF0, z74, rfl, ⟨by omega, by omega, (by rw [tcW_n (fun q => by omega)]; exact ⟨tcR_5 h13 (by omega) (by omega) (by omega), hK, OUT_0⟩)⟩⟩
    · refine En_Ps 1 (pc' := 39) (lv' := [(4, .ref a29), (0, .ref 0), (1, .int a), (2, .int b), (3, .int c)]) (st' := [.int (((Int8.ofInt (-3)).toInt32))]) rfl ?_
      refine En_top (by decide : ((Int8.ofInt (-3)).toInt32).toInt = -3) (fun z76 h77 => ?_)
      exact En_ret (v := some (.int z76)) rfl rfl rfl ⟨hσ0, hF0, z76, rfl, ⟨by omega, by omega, (by rw [tcW_n (fun q => by omega)]; exact ⟨tcR_3 h13 (by omega) (by omega), hK, OUT_0⟩)⟩⟩
  · have h78 := Imp_m h7.2.2.1 (by omega)
    refine En_Ps 1 (pc' := 12) (lv' := [(0, .ref 0), (1, .int a), (2, .int b), (3, .int c)]) (st' := [.int (((Int8.ofInt (-2)).toInt32))]) rfl ?_
    refine En_top (by decide : ((Int8.ofInt (-2)).toInt32).toInt = -2) (fun z79 h80 => ?_)
    exact En_ret (v := some (.int z79)) rfl rfl rfl ⟨hσ0, hF0, z79, rfl, ⟨by omega, by omega, (by have q0 : ¬ okL Wv a.toInt b.toInt c.toInt := (by rcases h10 with q | q; exfalso; omega; exact q.2); rw [tcW_n (fun q => q0 q.1)]; exact ⟨tcR_2 q0 (by omega), hK, OUT_0⟩)⟩⟩
/-- DoorSchool.train(III)I -/
abbrev P_177x (σ0 : SG) (Wv : Int → Int) (a : Int32) (b : Int32) (c : Int32) (p : Nat) (sg : Int32) : PO := fun v σ => WT σ ∧ Fr [(28, 1), (28, 2)] σ0 σ ∧ ∃ ret : Int32, v = some (.int ret) ∧ -ret.toInt - 2 ≤ 0 ∧ ret.toInt - 50 ≤ 0 ∧ (ret.toInt = trR Wv a.toInt b.toInt c.toInt ∧ KN σ p (trW Wv a.toInt b.toInt c.toInt) (act (trW Wv a.toInt b.toInt c.toInt)) ∧ OUT σ0 σ p)
set_option maxRecDepth 10000 in
set_option maxHeartbeats 4000000 in
theorem c_177x {Wv : Int → Int} (σ0 : SG) (hσ0 : WT σ0) (a : Int32) (b : Int32) (c : Int32) (p : Nat) (hp : TG p = 18) (h_p : (σ0 0)[9]? = some (.ref p)) (sg : Int32) (h_sg : (σ0 p)[1]? = some (.int sg)) (hp0 : -sg.toInt ≤ 0) (hP : PLA p) (hX : FXP σ0 p) (hK : KN σ0 p Wv (act Wv)) : En 1 21 none mr_177 (P_177x σ0 Wv a b c p sg) 0 [(0, .ref 0), (1, .int a), (2, .int b), (3, .int c)] [] σ0 := by
  obtain ⟨hl_sg, hu_sg⟩ := WT_int hσ0 (g := 18) hp (by decide +kernel) (l := (-1)) (u := 4) (by decide +kernel) h_sg
  have hF0 : Fr [(28, 1), (28, 2)] σ0 σ0 := Fr_rfl
  have t1 : Wv (0) = sg.toInt := KN_v hK (Or.inl (by decide)) (by omega) (by omega) (by rw [lcO_lt (by decide) (by decide), Nat.add_zero]) rfl h_sg
  obtain ⟨z3, h2, h4, h5⟩ := WT_peekI hσ0 hp (by decide +kernel : FT 18 3 = (0, 0, 4)) (by decide +kernel)
  have t6 : Wv (2) = z3.toInt := KN_v hK (Or.inl (by decide)) (by omega) (by omega) (by rw [lcO_lt (by decide) (by decide), Nat.add_zero]) rfl h2
  refine En_Ps 1 (pc' := 1) (lv' := [(0, .ref 0), (1, .int a), (2, .int b), (3, .int c)]) (st' := [.ref 0]) rfl ?_
  refine En_getK (j := 9) h_p rfl rfl rfl (by decide +kernel : TG 0 = 0) (by decide +kernel) ?_
  refine En_Ps 1 (pc' := 5) (lv' := [(0, .ref 0), (1, .int a), (2, .int b), (3, .int c)]) (st' := [.int a, .ref p]) rfl ?_
  refine En_callV rfl rfl rfl rfl rfl rfl rfl rfl hp (by decide +kernel) rfl (c_47x σ0 hσ0 p hp a z3 h2) (by decide) (by decide) (fun v8 σ9 h7 => ?_)
  obtain ⟨h10, h11, z13, rfl, h12⟩ := h7
  obtain rfl : σ0 = σ9 := Fr_nil h11
  refine En_iEq _ rfl rfl (fun h14 => ?_) (fun h14 => ?_)
  · have h15 := Imp_m h12.2.2.2.2.1 (by omega)
    refine En_Ps 1 (pc' := 20) (lv' := [(0, .ref 0), (1, .int a), (2, .int b), (3, .int c)]) (st' := [.int (((Int8.ofInt (-2)).toInt32))]) rfl ?_
    refine En_top (by decide : ((Int8.ofInt (-2)).toInt32).toInt = -2) (fun z16 h17 => ?_)
    exact En_ret (v := some (.int z16)) rfl rfl rfl ⟨hσ0, hF0, z16, rfl, ⟨by omega, by omega, (by have q0 : ¬ trC Wv a.toInt b.toInt c.toInt := (by omega); rw [trW_n q0]; exact ⟨trR_n q0 (by omega), hK, OUT_0⟩)⟩⟩
  · have h18 := Imp_m h12.2.2.1 (by omega)
    have h19 := Imp_m h12.2.2.2.1 (by omega)
    have h20 := Imp_m h12.2.2.2.2.2 (by omega)
    refine En_Ps 1 (pc' := 12) (lv' := [(0, .ref 0), (1, .int a), (2, .int b), (3, .int c)]) (st' := [.int b]) rfl ?_
    refine En_callS rfl rfl rfl rfl rfl rfl rfl rfl rfl (c_149 σ0 hσ0 b) (by decide) (by decide) (fun v22 σ23 h21 => ?_)
    obtain ⟨h24, h25, z27, rfl, h26⟩ := h21
    obtain rfl : σ0 = σ23 := Fr_nil h25
    refine En_iNe _ rfl rfl (fun h28 => ?_) (fun h28 => ?_)
    · refine En_Ps 1 (pc' := 22) (lv' := [(0, .ref 0), (1, .int a), (2, .int b), (3, .int c)]) (st' := [.ref 0]) rfl ?_
      refine En_getK (j := 9) h_p rfl rfl rfl (by decide +kernel : TG 0 = 0) (by decide +kernel) ?_
      refine En_getR (j := 4) (g' := 19) (u := 0) rfl rfl rfl hp (by decide +kernel) hσ0 (by decide +kernel) (fun a30 h29 ha30 => ?_)
      have t31 : a30 = p + 1 := ref_uniq h29 (FXP_fr hP hX hF0 (by decide +kernel)).1
      refine En_Ps 1 (pc' := 29) (lv' := [(0, .ref 0), (1, .int a), (2, .int b), (3, .int c)]) (st' := [.int a, .ref a30]) rfl ?_
      refine En_aald (g' := 28) (u := 0) rfl rfl ha30 (by decide +kernel) hσ0 (by omega) (lnI (by decide +kernel : LN _ = 4) (by omega)) (FTsgl (by decide +kernel)) (fun a33 h32 ha33 => ?_)
      have t34 : a33 = p + 10 + 4 * (a.toInt).toNat := DRe (d := a.toInt) (FXP_fr hP hX hF0 (by decide +kernel)) t31 h32 (by omega) (by omega)
      have t35 := lc_d (d := a.toInt) (by omega) (by omega)
      refine En_Ps 2 (pc' := 33) (lv' := [(4, .ref a33), (0, .ref 0), (1, .int a), (2, .int b), (3, .int c)]) (st' := [.int b]) rfl ?_
      refine En_iNe _ rfl rfl (fun h36 => ?_) (fun h36 => ?_)
      · refine En_Ps 1 (pc' := 63) (lv' := [(4, .ref a33), (0, .ref 0), (1, .int a), (2, .int b), (3, .int c)]) (st' := [.int c]) rfl ?_
        refine En_iLt _ rfl rfl (fun h37 => ?_) (fun h37 => ?_)
        · refine En_Ps 1 (pc' := 74) (lv' := [(4, .ref a33), (0, .ref 0), (1, .int a), (2, .int b), (3, .int c)]) (st' := [.int (((Int8.ofInt (-2)).toInt32))]) rfl ?_
          refine En_top (by decide : ((Int8.ofInt (-2)).toInt32).toInt = -2) (fun z38 h39 => ?_)
          exact En_ret (v := some (.int z38)) rfl rfl rfl ⟨hσ0, hF0, z38, rfl, ⟨by omega, by omega, (by have q0 : ¬ trC Wv a.toInt b.toInt c.toInt := (by omega); rw [trW_n q0]; exact ⟨trR_n q0 (by omega), hK, OUT_0⟩)⟩⟩
        · refine En_Ps 2 (pc' := 69) (lv' := [(4, .ref a33), (0, .ref 0), (1, .int a), (2, .int b), (3, .int c)]) (st' := [.int (((Int8.ofInt 50).toInt32)), .int c]) rfl ?_
          refine En_icLe _ rfl (by decide : ((Int8.ofInt 50).toInt32).toInt = 50) rfl (fun h40 => ?_) (fun h40 => ?_)
          · refine En_Ps 1 (pc' := 77) (lv' := [(4, .ref a33), (0, .ref 0), (1, .int a), (2, .int b), (3, .int c)]) (st' := [.ref a33]) rfl ?_
            refine En_getI (j := 2) (l := 0) (u := 50) rfl rfl rfl ha33 (by decide +kernel) hσ0 (by decide +kernel) (fun z42 h41 h43 h44 => ?_)
            have t45 : Wv (11 + 4 * (a.toInt)) = z42.toInt := KN_v hK (Or.inr (Or.inl ⟨by omega, by omega, by omega⟩)) (by omega) (by omega) (by omega) (by omega) h41
            refine En_Ps 3 (pc' := 85) (lv' := [(5, .int z42), (4, .ref a33), (0, .ref 0), (1, .int a), (2, .int b), (3, .int c)]) (st' := [.int c, .ref a33]) rfl ?_
            refine En_put (j := 2) rfl rfl rfl ha33 (by decide +kernel) rfl (vI (l := 0) (u := 50) (by decide +kernel) rfl (by omega) (by omega)) hσ0 hF0 (by decide +kernel) (fun σ46 h47 h48 h49 h50 => ?_)
            refine En_Ps 1 (pc' := 90) (lv' := [(5, .int z42), (4, .ref a33), (0, .ref 0), (1, .int a), (2, .int b), (3, .int c)]) (st' := [.int z42]) rfl ?_
            exact En_ret (v := some (.int z42)) rfl rfl rfl ⟨h47, h48, z42, rfl, ⟨by omega, by omega, (by have l := lc_d (d := a.toInt) (by omega) (by omega); have q0 := KN_one hK (PLA_B hP) (i := 11 + 4 * (a.toInt)) (v := c.toInt) h49 h50 (by omega) (by omega) ⟨by omega, by omega⟩ rfl (by omega) (Or.inr (Or.inl ⟨by omega, by omega, by omega⟩)); rw [trW_y (i := 11 + 4 * (a.toInt)) (by omega) (by omega)]; exact ⟨trR_y (i := 11 + 4 * (a.toInt)) (by omega) (by omega) t45, q0⟩)⟩⟩
          · refine En_Ps 1 (pc' := 74) (lv' := [(4, .ref a33), (0, .ref 0), (1, .int a), (2, .int b), (3, .int c)]) (st' := [.int (((Int8.ofInt (-2)).toInt32))]) rfl ?_
            refine En_top (by decide : ((Int8.ofInt (-2)).toInt32).toInt = -2) (fun z51 h52 => ?_)
            exact En_ret (v := some (.int z51)) rfl rfl rfl ⟨hσ0, hF0, z51, rfl, ⟨by omega, by omega, (by have q0 : ¬ trC Wv a.toInt b.toInt c.toInt := (by omega); rw [trW_n q0]; exact ⟨trR_n q0 (by omega), hK, OUT_0⟩)⟩⟩
      · refine En_Ps 1 (pc' := 37) (lv' := [(4, .ref a33), (0, .ref 0), (1, .int a), (2, .int b), (3, .int c)]) (st' := [.int c]) rfl ?_
        refine En_callS rfl rfl rfl rfl rfl rfl rfl rfl rfl (c_148 σ0 hσ0 c) (by decide) (by decide) (fun v54 σ55 h53 => ?_)
        obtain ⟨h56, h57, z59, rfl, h58⟩ := h53
        obtain rfl : σ0 = σ55 := Fr_nil h57
        refine En_iNe _ rfl rfl (fun h60 => ?_) (fun h60 => ?_)
        · refine En_Ps 1 (pc' := 48) (lv' := [(4, .ref a33), (0, .ref 0), (1, .int a), (2, .int b), (3, .int c)]) (st' := [.ref a33]) rfl ?_
          refine En_getI (j := 1) (l := 0) (u := 2) rfl rfl rfl ha33 (by decide +kernel) hσ0 (by decide +kernel) (fun z62 h61 h63 h64 => ?_)
          have t65 : Wv (10 + 4 * (a.toInt)) = z62.toInt := KN_v hK (Or.inr (Or.inl ⟨by omega, by omega, by omega⟩)) (by omega) (by omega) (by omega) (by omega) h61
          refine En_Ps 3 (pc' := 56) (lv' := [(5, .int z62), (4, .ref a33), (0, .ref 0), (1, .int a), (2, .int b), (3, .int c)]) (st' := [.int c, .ref a33]) rfl ?_
          refine En_put (j := 1) rfl rfl rfl ha33 (by decide +kernel) rfl (vI (l := 0) (u := 2) (by decide +kernel) rfl (by omega) (by omega)) hσ0 hF0 (by decide +kernel) (fun σ66 h67 h68 h69 h70 => ?_)
          refine En_Ps 1 (pc' := 61) (lv' := [(5, .int z62), (4, .ref a33), (0, .ref 0), (1, .int a), (2, .int b), (3, .int c)]) (st' := [.int z62]) rfl ?_
          exact En_ret (v := some (.int z62)) rfl rfl rfl ⟨h67, h68, z62, rfl, ⟨by omega, by omega, (by have l := lc_d (d := a.toInt) (by omega) (by omega); have q0 := KN_one hK (PLA_B hP) (i := 10 + 4 * (a.toInt)) (v := c.toInt) h69 h70 (by omega) (by omega) ⟨by omega, by omega⟩ rfl (by omega) (Or.inr (Or.inl ⟨by omega, by omega, by omega⟩)); rw [trW_y (i := 10 + 4 * (a.toInt)) (by omega) (by omega)]; exact ⟨trR_y (i := 10 + 4 * (a.toInt)) (by omega) (by omega) t65, q0⟩)⟩⟩
        · refine En_Ps 1 (pc' := 45) (lv' := [(4, .ref a33), (0, .ref 0), (1, .int a), (2, .int b), (3, .int c)]) (st' := [.int (((Int8.ofInt (-2)).toInt32))]) rfl ?_
          refine En_top (by decide : ((Int8.ofInt (-2)).toInt32).toInt = -2) (fun z71 h72 => ?_)
          exact En_ret (v := some (.int z71)) rfl rfl rfl ⟨hσ0, hF0, z71, rfl, ⟨by omega, by omega, (by have q0 : ¬ trC Wv a.toInt b.toInt c.toInt := (by omega); rw [trW_n q0]; exact ⟨trR_n q0 (by omega), hK, OUT_0⟩)⟩⟩
    · refine En_Ps 1 (pc' := 20) (lv' := [(0, .ref 0), (1, .int a), (2, .int b), (3, .int c)]) (st' := [.int (((Int8.ofInt (-2)).toInt32))]) rfl ?_
      refine En_top (by decide : ((Int8.ofInt (-2)).toInt32).toInt = -2) (fun z73 h74 => ?_)
      exact En_ret (v := some (.int z73)) rfl rfl rfl ⟨hσ0, hF0, z73, rfl, ⟨by omega, by omega, (by have q0 : ¬ trC Wv a.toInt b.toInt c.toInt := (by omega); rw [trW_n q0]; exact ⟨trR_n q0 (by omega), hK, OUT_0⟩)⟩⟩
/-- DoorSchool.unteach()I -/
abbrev P_181x (σ0 : SG) (Wv : Int → Int) (p : Nat) (sg : Int32) : PO := fun v σ => WT σ ∧ Fr [(18, 14), (20, 2)] σ0 σ ∧ ∃ ret : Int32, v = some (.int ret) ∧ -ret.toInt - 5 ≤ 0 ∧ ret.toInt - 3 ≤ 0 ∧ (ret.toInt = utR Wv ∧ KN σ p (utW Wv) (act (utW Wv)) ∧ OUT σ0 σ p)
set_option maxRecDepth 10000 in
set_option maxHeartbeats 4000000 in
theorem c_181x {Wv : Int → Int} (σ0 : SG) (hσ0 : WT σ0) (p : Nat) (hp : TG p = 18) (h_p : (σ0 0)[9]? = some (.ref p)) (sg : Int32) (h_sg : (σ0 p)[1]? = some (.int sg)) (hp0 : -sg.toInt ≤ 0) (hP : PLA p) (hX : FXP σ0 p) (hK : KN σ0 p Wv (act Wv)) (hI : WINV Wv) (hT : TGT Wv) : En 2 42 none mr_181 (P_181x σ0 Wv p sg) 0 [(0, .ref 0)] [] σ0 := by
  obtain ⟨hl_sg, hu_sg⟩ := WT_int hσ0 (g := 18) hp (by decide +kernel) (l := (-1)) (u := 4) (by decide +kernel) h_sg
  have hF0 : Fr [(18, 14), (20, 2)] σ0 σ0 := Fr_rfl
  have t1 : Wv (0) = sg.toInt := KN_v hK (Or.inl (by decide)) (by omega) (by omega) (by rw [lcO_lt (by decide) (by decide), Nat.add_zero]) rfl h_sg
  refine En_Ps 1 (pc' := 1) (lv' := [(0, .ref 0)]) (st' := [.ref 0]) rfl ?_
  refine En_getK (j := 9) h_p rfl rfl rfl (by decide +kernel : TG 0 = 0) (by decide +kernel) ?_
  obtain ⟨z3, h2, h4, h5⟩ := WT_peekI hσ0 hp (by decide +kernel : FT 18 0 = (0, 0, 1601)) (by decide +kernel)
  have t6 : Wv (7) = z3.toInt := KN_v hK (Or.inl (by decide)) (by omega) (by omega) (by rw [lcO_lt (by decide) (by decide), Nat.add_zero]) rfl h2
  refine En_callV rfl rfl rfl rfl rfl rfl rfl rfl hp (by decide +kernel) rfl (c_43x σ0 hσ0 p hp z3 h2) (by decide) (by decide) (fun v8 σ9 h7 => ?_)
  obtain ⟨h10, h11, z13, rfl, h12⟩ := h7
  obtain rfl : σ0 = σ9 := Fr_nil h11
  refine En_iNe _ rfl rfl (fun h14 => ?_) (fun h14 => ?_)
  · have h15 := Imp_m h12.2.2.1 (by omega)
    have h16 := Imp_m h12.2.2.2 (by omega)
    refine En_Ps 1 (pc' := 14) (lv' := [(0, .ref 0)]) (st' := [.ref 0]) rfl ?_
    refine En_getK (j := 9) h_p rfl rfl rfl (by decide +kernel : TG 0 = 0) (by decide +kernel) ?_
    refine En_getI (j := 14) (l := 0) (u := 60) rfl rfl rfl hp (by decide +kernel) hσ0 (by decide +kernel) (fun z18 h17 h19 h20 => ?_)
    have t21 : Wv (6) = z18.toInt := KN_v hK (Or.inl (by decide)) (by omega) (by omega) (by rw [lcO_lt (by decide) (by decide), Nat.add_zero]) rfl h17
    refine En_iGt _ rfl rfl (fun h22 => ?_) (fun h22 => ?_)
    · obtain ⟨z24, h23, h25, h26⟩ := WT_peekI hσ0 hp (by decide +kernel : FT 18 3 = (0, 0, 4)) (by decide +kernel)
      have t27 : Wv (2) = z24.toInt := KN_v hK (Or.inl (by decide)) (by omega) (by omega) (by rw [lcO_lt (by decide) (by decide), Nat.add_zero]) rfl h23
      obtain ⟨a29, h28, ha29⟩ := WT_peekR (g := 18) (j := 15) (g' := 27) (u := 0) hσ0 hp (by decide +kernel) (by decide +kernel)
      have t30 : a29 = p + 9 := ref_uniq h28 (FXP_fr hP hX hF0 (by decide +kernel)).2.2.2.2.2.2.1
      obtain ⟨a32, h31, ha32⟩ := WT_peekR (g := 18) (j := 4) (g' := 19) (u := 0) hσ0 hp (by decide +kernel) (by decide +kernel)
      have t33 : a32 = p + 1 := ref_uniq h31 (FXP_fr hP hX hF0 (by decide +kernel)).1
      refine En_Ps 1 (pc' := 27) (lv' := [(0, .ref 0)]) (st' := [.ref 0]) rfl ?_
      refine En_getK (j := 9) h_p rfl rfl rfl (by decide +kernel : TG 0 = 0) (by decide +kernel) ?_
      refine En_Ps 1 (pc' := 31) (lv' := [(0, .ref 0)]) (st' := [.ref p, .ref p]) rfl ?_
      refine En_getK (j := 14) h17 rfl rfl rfl hp (by decide +kernel) ?_
      refine En_Ps 2 (pc' := 36) (lv' := [(0, .ref 0)]) (st' := [.int ((z18 - ((Int32.ofInt 1)))), .ref p]) rfl ?_
      refine En_top (subI rfl (by decide : (Int32.ofInt 1).toInt = 1) (by omega) (by omega)) (fun z34 h35 => ?_)
      refine En_put (j := 14) rfl rfl rfl hp (by decide +kernel) rfl (vI (l := 0) (u := 60) (by decide +kernel) rfl (by omega) (by omega)) hσ0 hF0 (by decide +kernel) (fun σ36 h37 h38 h39 h40 => ?_)
      refine En_Ps 1 (pc' := 40) (lv' := [(0, .ref 0)]) (st' := [.ref 0]) rfl ?_
      refine En_getK (j := 9) ((h40 _ _ (Or.inr (by decide))).trans h_p) rfl rfl rfl (by decide +kernel : TG 0 = 0) (by decide +kernel) ?_
      refine En_getK (j := 15) ((h40 _ _ (Or.inr (by decide))).trans h28) rfl rfl rfl hp (by decide +kernel) ?_
      refine En_Ps 1 (pc' := 47) (lv' := [(0, .ref 0)]) (st' := [.ref 0, .ref a29]) rfl ?_
      refine En_getK (j := 9) ((h40 _ _ (Or.inr (by decide))).trans h_p) rfl rfl rfl (by decide +kernel : TG 0 = 0) (by decide +kernel) ?_
      refine En_getK (j := 14) h39 rfl rfl rfl hp (by decide +kernel) ?_
      refine En_iald (l := 0) (u := 3) rfl rfl ha29 (by decide +kernel) h37 (by omega) (lnI (by decide +kernel : LN _ = 60) (by omega)) (FTsgl (by decide +kernel)) (fun z42 h41 h43 h44 => ?_)
      have t45 := lc_t (m := z34.toInt) (by omega) (by omega)
      have h50 := lc_t (m := z18.toInt - 1) (by omega) (by omega)
      have h46 : Wv (166 + (z18.toInt - 1)) = z42.toInt := KN_v hK (Or.inr (Or.inr (Or.inr (Or.inr (Or.inr (Or.inr ⟨by omega, by omega⟩)))))) (by omega) (by omega) (by omega) (by omega) ((h40 _ _ (Or.inl (by omega))).symm.trans h41)
      have h47 : utD Wv = z42.toInt := by unfold utD; rw [t21]; exact h46
      have h48 := hT (z18.toInt - 1) (by omega) (by omega)
      rw [h46] at h48
      have h49 := WINV_ge hI (d := z42.toInt) (nt := z18.toInt) (by omega) (by omega) h46.symm (by omega) (by omega)
      refine En_Ps 2 (pc' := 56) (lv' := [(1, .int z42), (0, .ref 0)]) (st' := [.ref 0]) rfl ?_
      refine En_getK (j := 9) ((h40 _ _ (Or.inr (by decide))).trans h_p) rfl rfl rfl (by decide +kernel : TG 0 = 0) (by decide +kernel) ?_
      refine En_getK (j := 4) ((h40 _ _ (Or.inr (by decide))).trans h31) rfl rfl rfl hp (by decide +kernel) ?_
      refine En_Ps 1 (pc' := 63) (lv' := [(1, .int z42), (0, .ref 0)]) (st' := [.int z42, .ref a32]) rfl ?_
      refine En_aald (g' := 28) (u := 0) rfl rfl ha32 (by decide +kernel) h37 (by omega) (lnI (by decide +kernel : LN _ = 4) (by omega)) (FTsgl (by decide +kernel)) (fun a52 h51 ha52 => ?_)
      have t53 : a52 = p + 10 + 4 * (z42.toInt).toNat := DRe (d := z42.toInt) (FXP_fr hP hX h38 (by decide +kernel)) t33 h51 (by omega) (by omega)
      have t54 := lc_d (d := z42.toInt) (by omega) (by omega)
      refine En_getR (j := 0) (g' := 20) (u := 0) rfl rfl rfl ha52 (by decide +kernel) h37 (by decide +kernel) (fun a56 h55 ha56 => ?_)
      have t57 : a56 = p + 11 + 4 * (z42.toInt).toNat := DLc (d := z42.toInt) (FXP_fr hP hX h38 (by decide +kernel)) t53 h55 (by omega) (by omega)
      obtain ⟨a59, h58, ha59⟩ := WT_peekR (g := 20) (j := 0) (g' := 21) (u := 0) h37 ha56 (by decide +kernel) (by decide +kernel)
      have t60 : a59 = p + 12 + 4 * (z42.toInt).toNat := DKk (d := z42.toInt) (FXP_fr hP hX h38 (by decide +kernel)) t57 h58 (by omega) (by omega)
      obtain ⟨a62, h61, ha62⟩ := WT_peekR (g := 20) (j := 1) (g' := 22) (u := 0) h37 ha56 (by decide +kernel) (by decide +kernel)
      have t63 : a62 = p + 13 + 4 * (z42.toInt).toNat := DKo (d := z42.toInt) (FXP_fr hP hX h38 (by decide +kernel)) t57 h61 (by omega) (by omega)
      obtain ⟨z65, h64, h66, h67⟩ := WT_peekI h37 ha56 (by decide +kernel : FT 20 2 = (0, 0, 13)) (by decide +kernel)
      have h69 := ((h40 _ _ (Or.inl (by omega))).symm.trans h64)
      have h68 : Wv (12 + 4 * (z42.toInt)) = z65.toInt := KN_v hK (Or.inr (Or.inl ⟨by omega, by omega, by omega⟩)) (by omega) (by omega) (by omega) (by omega) h69
      have : 1 ≤ z65.toInt := by omega
      refine En_callV rfl rfl rfl rfl rfl rfl rfl rfl ha56 (by decide +kernel) rfl (c_33x σ36 h37 a56 ha56 a59 ha59 h58 a62 ha62 h61 z65 h64 (by omega)) (by decide) (by decide) (fun v71 σ72 h70 => ?_)
      obtain ⟨h73, h74, z76, h77, rfl, h75⟩ := h70
      have h78 := h75.2.2.2.2.2.2
      have h79 := Fr_trans h38 h74 (by decide +kernel)
      refine En_Ps 1 (pc' := 71) (lv' := [(1, .int z42), (0, .ref 0)]) (st' := [.int z42]) rfl ?_
      exact En_ret (v := some (.int z42)) rfl rfl rfl ⟨h73, h79, z42, rfl, ⟨by omega, by omega, (by have q0 := KN_unteach hK (PLA_B hP) h68 t21 h47 h39 h40 h78 t57 (by omega) (by omega) (by omega); exact ⟨by unfold utR; rw [if_neg (by omega), if_neg (by omega), h47], by unfold utW; rw [if_neg (by omega), if_neg (by omega)]; exact q0.1, q0.2⟩)⟩⟩
    · refine En_Ps 1 (pc' := 25) (lv' := [(0, .ref 0)]) (st' := [.int (((Int8.ofInt (-5)).toInt32))]) rfl ?_
      refine En_top (by decide : ((Int8.ofInt (-5)).toInt32).toInt = -5) (fun z80 h81 => ?_)
      exact En_ret (v := some (.int z80)) rfl rfl rfl ⟨hσ0, hF0, z80, rfl, ⟨by omega, by omega, ⟨by unfold utR; rw [if_neg (by omega), if_pos (by omega)]; omega, by unfold utW; rw [if_neg (by omega), if_pos (by omega)]; exact hK, OUT_0⟩⟩⟩
  · refine En_Ps 1 (pc' := 12) (lv' := [(0, .ref 0)]) (st' := [.int (((Int8.ofInt (-2)).toInt32))]) rfl ?_
    refine En_top (by decide : ((Int8.ofInt (-2)).toInt32).toInt = -2) (fun z82 h83 => ?_)
    exact En_ret (v := some (.int z82)) rfl rfl rfl ⟨hσ0, hF0, z82, rfl, ⟨by omega, by omega, ⟨by unfold utR; rw [if_pos (by omega)]; omega, by unfold utW; rw [if_pos (by omega)]; exact hK, OUT_0⟩⟩⟩

