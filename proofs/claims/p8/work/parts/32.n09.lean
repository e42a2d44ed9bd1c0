/-- DoorSchool.deeds(I)I -/
abbrev P_112x (σ0 : SG) (Wv : Int → Int) (a : Int32) (p : Nat) (sg : Int32) : PO := fun v σ => WT σ ∧ Fr [] σ0 σ ∧ ∃ ret : Int32, v = some (.int ret) ∧ -ret.toInt - 2 ≤ 0 ∧ ret.toInt - 65535 ≤ 0 ∧ ret.toInt = dsR Wv a.toInt
set_option maxRecDepth 10000 in
set_option maxHeartbeats 4000000 in
theorem c_112x {Wv : Int → Int} (σ0 : SG) (hσ0 : WT σ0) (a : Int32) (p : Nat) (hp : TG p = 18) (h_p : (σ0 0)[9]? = some (.ref p)) (sg : Int32) (h_sg : (σ0 p)[1]? = some (.int sg)) (hp0 : -sg.toInt ≤ 0) (hP : PLA p) (hX : FXP σ0 p) (hK : KN σ0 p Wv (act Wv)) (hB : WFw Wv) (hT : TWN Wv) (hQ : 0 < Wv 7 → RULx σ0 (Wv 0)) (hq : QX Wv) : En 4 92 none mr_112 (P_112x σ0 Wv a p sg) 0 [(0, .ref 0), (1, .int a)] [] σ0 := by
  obtain ⟨hl_sg, hu_sg⟩ := WT_int hσ0 (g := 18) hp (by decide +kernel) (l := (-1)) (u := 4) (by decide +kernel) h_sg
  have hF0 : Fr [] σ0 σ0 := Fr_rfl
  have t1 : Wv (0) = sg.toInt := KN_v hK (Or.inl (by decide)) (by omega) (by omega) (by rw [lcO_lt (by decide) (by decide), Nat.add_zero]) rfl h_sg
  obtain ⟨z3, h2, h4, h5⟩ := WT_peekI hσ0 hp (by decide +kernel : FT 18 3 = (0, 0, 4)) (by decide +kernel)
  have t6 : Wv (2) = z3.toInt := KN_v hK (Or.inl (by decide)) (by omega) (by omega) (by rw [lcO_lt (by decide) (by decide), Nat.add_zero]) rfl h2
  have h7 := hB.2.2.1
  refine En_Ps 1 (pc' := 1) (lv' := [(0, .ref 0), (1, .int a)]) (st' := [.ref 0]) rfl ?_
  refine En_getK (j := 9) h_p rfl rfl rfl (by decide +kernel : TG 0 = 0) (by decide +kernel) ?_
  refine En_Ps 1 (pc' := 5) (lv' := [(0, .ref 0), (1, .int a)]) (st' := [.int a, .ref p]) rfl ?_
  refine En_callV rfl rfl rfl rfl rfl rfl rfl rfl hp (by decide +kernel) rfl (c_47x σ0 hσ0 p hp a z3 h2) (by decide) (by decide) (fun v9 σ10 h8 => ?_)
  obtain ⟨h11, h12, z14, rfl, h13⟩ := h8
  obtain rfl : σ0 = σ10 := Fr_nil h12
  have h15 := Imp_m h13.2.2.1
  have h16 := Imp_m h13.2.2.2.1
  have h17 := Imp_m h13.2.2.2.2.1
  have h18 := Imp_m h13.2.2.2.2.2
  refine En_iEq _ rfl rfl (fun h19 => ?_) (fun h19 => ?_)
  · have h20 := Imp_m h13.2.2.2.2.1 (by omega)
    refine En_Ps 1 (pc' := 21) (lv' := [(0, .ref 0), (1, .int a)]) (st' := [.int (((Int8.ofInt (-2)).toInt32))]) rfl ?_
    refine En_top (by decide : ((Int8.ofInt (-2)).toInt32).toInt = -2) (fun z21 h22 => ?_)
    exact En_ret (v := some (.int z21)) rfl rfl rfl ⟨hσ0, hF0, z21, rfl, ⟨by omega, by omega, dsR_n (by omega) (by omega)⟩⟩
  · have h23 := Imp_m h13.2.2.1 (by omega)
    have h24 := Imp_m h13.2.2.2.1 (by omega)
    have h25 := Imp_m h13.2.2.2.2.2 (by omega)
    refine En_Ps 2 (pc' := 13) (lv' := [(0, .ref 0), (1, .int a)]) (st' := [.int a, .ref 0]) rfl ?_
    refine En_callV rfl rfl rfl rfl rfl rfl rfl rfl (by decide +kernel : TG 0 = 0) (by decide +kernel) rfl (c_114x σ0 hσ0 a (geI rfl (by omega)) (leI rfl (by omega)) p hp h_p sg h_sg (by omega) hP (FXP_fr hP hX hF0 (by decide +kernel)) hK hB hT (by omega) (hQ (hq (by omega)))) (by decide) (by decide) (fun v27 σ28 h26 => ?_)
    obtain ⟨h29, h30, z32, rfl, h31⟩ := h26
    have h33 := h31.2.2
    obtain rfl : σ0 = σ28 := Fr_nil h30
    refine En_Ps 1 (pc' := 21) (lv' := [(0, .ref 0), (1, .int a)]) (st' := [.int z32]) rfl ?_
    exact En_ret (v := some (.int z32)) rfl rfl rfl ⟨hσ0, hF0, z32, rfl, ⟨by omega, by omega, dsR_y (by omega) (by omega) h33⟩⟩
/-- DoorSchool.does(II)I -/
abbrev P_113x (σ0 : SG) (Wv : Int → Int) (a : Int32) (b : Int32) (p : Nat) (sg : Int32) : PO := fun v σ => WT σ ∧ Fr [] σ0 σ ∧ ∃ ret : Int32, v = some (.int ret) ∧ -ret.toInt - 2 ≤ 0 ∧ ret.toInt - 65535 ≤ 0 ∧ ret.toInt = dfR Wv a.toInt b.toInt
set_option maxRecDepth 10000 in
set_option maxHeartbeats 4000000 in
theorem c_113x {Wv : Int → Int} (σ0 : SG) (hσ0 : WT σ0) (a : Int32) (b : Int32) (p : Nat) (hp : TG p = 18) (h_p : (σ0 0)[9]? = some (.ref p)) (sg : Int32) (h_sg : (σ0 p)[1]? = some (.int sg)) (hp0 : -sg.toInt ≤ 0) (hP : PLA p) (hX : FXP σ0 p) (hK : KN σ0 p Wv (act Wv)) (hB : WFw Wv) (hT : TWN Wv) (hQ : 0 < Wv 7 → RULx σ0 (Wv 0)) (hq : QX Wv) : En 3 63 none mr_113 (P_113x σ0 Wv a b p sg) 0 [(0, .ref 0), (1, .int a), (2, .int b)] [] σ0 := by
  obtain ⟨hl_sg, hu_sg⟩ := WT_int hσ0 (g := 18) hp (by decide +kernel) (l := (-1)) (u := 4) (by decide +kernel) h_sg
  have hF0 : Fr [] σ0 σ0 := Fr_rfl
  have t1 : Wv (0) = sg.toInt := KN_v hK (Or.inl (by decide)) (by omega) (by omega) (by rw [lcO_lt (by decide) (by decide), Nat.add_zero]) rfl h_sg
  obtain ⟨z3, h2, h4, h5⟩ := WT_peekI hσ0 hp (by decide +kernel : FT 18 3 = (0, 0, 4)) (by decide +kernel)
  have t6 : Wv (2) = z3.toInt := KN_v hK (Or.inl (by decide)) (by omega) (by omega) (by rw [lcO_lt (by decide) (by decide), Nat.add_zero]) rfl h2
  have h7 := hB.2.2.1
  have h8 := hB.1
  have h9 := hB.2.1
  refine En_Ps 1 (pc' := 1) (lv' := [(0, .ref 0), (1, .int a), (2, .int b)]) (st' := [.ref 0]) rfl ?_
  refine En_getK (j := 9) h_p rfl rfl rfl (by decide +kernel : TG 0 = 0) (by decide +kernel) ?_
  refine En_Ps 2 (pc' := 6) (lv' := [(0, .ref 0), (1, .int a), (2, .int b)]) (st' := [.int b, .int a, .ref p]) rfl ?_
  obtain ⟨z11, h10, h12, h13⟩ := WT_peekI hσ0 hp (by decide +kernel : FT 18 0 = (0, 0, 1601)) (by decide +kernel)
  have t14 : Wv (7) = z11.toInt := KN_v hK (Or.inl (by decide)) (by omega) (by omega) (by rw [lcO_lt (by decide) (by decide), Nat.add_zero]) rfl h10
  refine En_callV rfl rfl rfl rfl rfl rfl rfl rfl hp (by decide +kernel) rfl (c_50x σ0 hσ0 p hp a b z11 h10 sg h_sg (by omega)) (by decide) (by decide) (fun v16 σ17 h15 => ?_)
  obtain ⟨h18, h19, z21, rfl, h20⟩ := h15
  have h22 := h20.2.2.2
  obtain rfl : σ0 = σ17 := Fr_nil h19
  have h23 := h22
  have h24 : pI (Wv 0) = pI (sg.toInt) := by rw [t1]
  refine En_iEq _ rfl rfl (fun h25 => ?_) (fun h25 => ?_)
  · refine En_Ps 1 (pc' := 26) (lv' := [(0, .ref 0), (1, .int a), (2, .int b)]) (st' := [.int (((Int8.ofInt (-2)).toInt32))]) rfl ?_
    refine En_top (by decide : ((Int8.ofInt (-2)).toInt32).toInt = -2) (fun z26 h27 => ?_)
    exact En_ret (v := some (.int z26)) rfl rfl rfl ⟨hσ0, hF0, z26, rfl, ⟨by omega, by omega, dfR_n (fun ⟨q1, q2, q3, q4, q5, q6⟩ => by omega) (by omega)⟩⟩
  · have h28 := Imp_m h20.2.2.1 (by omega)
    have h29 := pI_rng (s := Wv 0) (by omega) (by omega)
    have h30 : 0 ≤ a.toInt ∧ a.toInt ≤ 15 := by omega
    have h31 : 0 ≤ b.toInt ∧ b.toInt ≤ 15 := by omega
    obtain ⟨z33, h32, h34, h35⟩ := WT_peekI hσ0 (by decide +kernel : TG 4 = 4) (by decide +kernel : FT 4 0 = (0, 0, 16)) (by decide +kernel)
    have h36 : z33.toInt = pI (Wv 0) := (ci_at (j := 0) h32 rfl).symm.trans (hQ (by omega)).1
    refine En_Ps 1 (pc' := 13) (lv' := [(0, .ref 0), (1, .int a), (2, .int b)]) (st' := [.ref 0]) rfl ?_
    refine En_getU (j := 2) (u := 4) (g' := 4) (q := 0) rfl rfl rfl (by decide +kernel : TG 0 = 0) (by decide +kernel) hσ0 (by decide +kernel) (by decide +kernel) (fun h37 => ?_)
    refine En_Ps 2 (pc' := 18) (lv' := [(0, .ref 0), (1, .int a), (2, .int b)]) (st' := [.int b, .int a, .ref 4]) rfl ?_
    refine En_callV rfl rfl rfl rfl rfl rfl rfl rfl (by decide +kernel : TG 4 = 4) (by decide +kernel) rfl (c_77ax σ0 hσ0 a b (geI rfl (by omega)) (leI rfl (by omega)) z33 h32) (by decide) (by decide) (fun v40 σ41 h39 => ?_)
    obtain ⟨h42, h43, z45, rfl, h44⟩ := h39
    have h46 := h44.2.2
    obtain rfl : σ0 = σ41 := Fr_nil h43
    refine En_Ps 1 (pc' := 26) (lv' := [(0, .ref 0), (1, .int a), (2, .int b)]) (st' := [.int z45]) rfl ?_
    exact En_ret (v := some (.int z45)) rfl rfl rfl ⟨hσ0, hF0, z45, rfl, ⟨by omega, by omega, dfR_y ⟨by omega, by omega, by omega, by omega, by omega, by omega⟩ h36 h46⟩⟩
/-- DoorSchool.door(II)I -/
abbrev P_116x (σ0 : SG) (Wv : Int → Int) (a : Int32) (b : Int32) (p : Nat) (sg : Int32) : PO := fun v σ => WT σ ∧ Fr [] σ0 σ ∧ ∃ ret : Int32, v = some (.int ret) ∧ -ret.toInt - 2 ≤ 0 ∧ ret.toInt - 50 ≤ 0 ∧ ret.toInt = doR Wv a.toInt b.toInt
set_option maxRecDepth 10000 in
set_option maxHeartbeats 4000000 in
theorem c_116x {Wv : Int → Int} (σ0 : SG) (hσ0 : WT σ0) (a : Int32) (b : Int32) (p : Nat) (hp : TG p = 18) (h_p : (σ0 0)[9]? = some (.ref p)) (sg : Int32) (h_sg : (σ0 p)[1]? = some (.int sg)) (hp0 : -sg.toInt ≤ 0) (hP : PLA p) (hX : FXP σ0 p) (hK : KN σ0 p Wv (act Wv)) : En 1 21 none mr_116 (P_116x σ0 Wv a b p sg) 0 [(0, .ref 0), (1, .int a), (2, .int b)] [] σ0 := by
  obtain ⟨hl_sg, hu_sg⟩ := WT_int hσ0 (g := 18) hp (by decide +kernel) (l := (-1)) (u := 4) (by decide +kernel) h_sg
  have hF0 : Fr [] σ0 σ0 := Fr_rfl
  have t1 : Wv (0) = sg.toInt := KN_v hK (Or.inl (by decide)) (by omega) (by omega) (by rw [lcO_lt (by decide) (by decide), Nat.add_zero]) rfl h_sg
  refine En_Ps 1 (pc' := 1) (lv' := [(0, .ref 0), (1, .int a), (2, .int b)]) (st' := [.ref 0]) rfl ?_
  refine En_getK (j := 9) h_p rfl rfl rfl (by decide +kernel : TG 0 = 0) (by decide +kernel) ?_
  refine En_Ps 1 (pc' := 5) (lv' := [(0, .ref 0), (1, .int a), (2, .int b)]) (st' := [.int a, .ref p]) rfl ?_
  obtain ⟨z3, h2, h4, h5⟩ := WT_peekI hσ0 hp (by decide +kernel : FT 18 3 = (0, 0, 4)) (by decide +kernel)
  have t6 : Wv (2) = z3.toInt := KN_v hK (Or.inl (by decide)) (by omega) (by omega) (by rw [lcO_lt (by decide) (by decide), Nat.add_zero]) rfl h2
  refine En_callV rfl rfl rfl rfl rfl rfl rfl rfl hp (by decide +kernel) rfl (c_47x σ0 hσ0 p hp a z3 h2) (by decide) (by decide) (fun v8 σ9 h7 => ?_)
  obtain ⟨h10, h11, z13, rfl, h12⟩ := h7
  obtain rfl : σ0 = σ9 := Fr_nil h11
  have h14 := Imp_m h12.2.2.1
  have h15 := Imp_m h12.2.2.2.1
  have h16 := Imp_m h12.2.2.2.2.1
  have h17 := Imp_m h12.2.2.2.2.2
  refine En_iNe _ rfl rfl (fun h18 => ?_) (fun h18 => ?_)
  · have h19 := Imp_m h12.2.2.1 (by omega)
    have h20 := Imp_m h12.2.2.2.1 (by omega)
    have h21 := Imp_m h12.2.2.2.2.2 (by omega)
    refine En_Ps 1 (pc' := 15) (lv' := [(0, .ref 0), (1, .int a), (2, .int b)]) (st' := [.ref 0]) rfl ?_
    refine En_getK (j := 9) h_p rfl rfl rfl (by decide +kernel : TG 0 = 0) (by decide +kernel) ?_
    refine En_getR (j := 4) (g' := 19) (u := 0) rfl rfl rfl hp (by decide +kernel) hσ0 (by decide +kernel) (fun a23 h22 ha23 => ?_)
    have t24 : a23 = p + 1 := ref_uniq h22 (FXP_fr hP hX hF0 (by decide +kernel)).1
    refine En_Ps 1 (pc' := 22) (lv' := [(0, .ref 0), (1, .int a), (2, .int b)]) (st' := [.int a, .ref a23]) rfl ?_
    refine En_aald (g' := 28) (u := 0) rfl rfl ha23 (by decide +kernel) hσ0 (by omega) (lnI (by decide +kernel : LN _ = 4) (by omega)) (FTsgl (by decide +kernel)) (fun a26 h25 ha26 => ?_)
    have t27 : a26 = p + 10 + 4 * (a.toInt).toNat := DRe (d := a.toInt) (FXP_fr hP hX hF0 (by decide +kernel)) t24 h25 (by omega) (by omega)
    have t28 := lc_d (d := a.toInt) (by omega) (by omega)
    refine En_Ps 2 (pc' := 25) (lv' := [(3, .ref a26), (0, .ref 0), (1, .int a), (2, .int b)]) (st' := [.int b]) rfl ?_
    rcases (show b.toInt = 0 ∨ b.toInt = 1 ∨ b.toInt = 2 ∨ b.toInt = 3 ∨ b.toInt < 0 ∨ 3 < b.toInt by omega) with h29 | h29 | h29 | h29 | h29 | h29
    · refine En_swI (t := 56) (n := 0) rfl h29 rfl (by decide +kernel) ?_
      refine En_Ps 1 (pc' := 57) (lv' := [(3, .ref a26), (0, .ref 0), (1, .int a), (2, .int b)]) (st' := [.ref a26]) rfl ?_
      refine En_getI (j := 1) (l := 0) (u := 2) rfl rfl rfl ha26 (by decide +kernel) hσ0 (by decide +kernel) (fun z31 h30 h32 h33 => ?_)
      have t34 : Wv (10 + 4 * (a.toInt)) = z31.toInt := KN_v hK (Or.inr (Or.inl ⟨by omega, by omega, by omega⟩)) (by omega) (by omega) (by omega) (by omega) h30
      exact En_ret (v := some (.int z31)) rfl rfl rfl ⟨hσ0, hF0, z31, rfl, ⟨by omega, by omega, (by have e := doR_y (w := Wv) (d := a.toInt) (q := b.toInt) (by omega) (by omega) t34; omega)⟩⟩
    · refine En_swI (t := 61) (n := 1) rfl h29 rfl (by decide +kernel) ?_
      refine En_Ps 1 (pc' := 62) (lv' := [(3, .ref a26), (0, .ref 0), (1, .int a), (2, .int b)]) (st' := [.ref a26]) rfl ?_
      refine En_getI (j := 2) (l := 0) (u := 50) rfl rfl rfl ha26 (by decide +kernel) hσ0 (by decide +kernel) (fun z36 h35 h37 h38 => ?_)
      have t39 : Wv (11 + 4 * (a.toInt)) = z36.toInt := KN_v hK (Or.inr (Or.inl ⟨by omega, by omega, by omega⟩)) (by omega) (by omega) (by omega) (by omega) h35
      exact En_ret (v := some (.int z36)) rfl rfl rfl ⟨hσ0, hF0, z36, rfl, ⟨by omega, by omega, (by have e := doR_y (w := Wv) (d := a.toInt) (q := b.toInt) (by omega) (by omega) t39; omega)⟩⟩
    · refine En_swI (t := 66) (n := 2) rfl h29 rfl (by decide +kernel) ?_
      refine En_Ps 1 (pc' := 67) (lv' := [(3, .ref a26), (0, .ref 0), (1, .int a), (2, .int b)]) (st' := [.ref a26]) rfl ?_
      refine En_getR (j := 0) (g' := 20) (u := 0) rfl rfl rfl ha26 (by decide +kernel) hσ0 (by decide +kernel) (fun a41 h40 ha41 => ?_)
      have t42 : a41 = p + 11 + 4 * (a.toInt).toNat := DLc (d := a.toInt) (FXP_fr hP hX hF0 (by decide +kernel)) t27 h40 (by omega) (by omega)
      refine En_getI (j := 2) (l := 0) (u := 13) rfl rfl rfl ha41 (by decide +kernel) hσ0 (by decide +kernel) (fun z44 h43 h45 h46 => ?_)
      have t47 : Wv (12 + 4 * (a.toInt)) = z44.toInt := KN_v hK (Or.inr (Or.inl ⟨by omega, by omega, by omega⟩)) (by omega) (by omega) (by omega) (by omega) h43
      exact En_ret (v := some (.int z44)) rfl rfl rfl ⟨hσ0, hF0, z44, rfl, ⟨by omega, by omega, (by have e := doR_y (w := Wv) (d := a.toInt) (q := b.toInt) (by omega) (by omega) t47; omega)⟩⟩
    · refine En_swI (t := 74) (n := 3) rfl h29 rfl (by decide +kernel) ?_
      refine En_Ps 1 (pc' := 75) (lv' := [(3, .ref a26), (0, .ref 0), (1, .int a), (2, .int b)]) (st' := [.ref a26]) rfl ?_
      refine En_getI (j := 3) (l := (-1)) (u := 3) rfl rfl rfl ha26 (by decide +kernel) hσ0 (by decide +kernel) (fun z49 h48 h50 h51 => ?_)
      have t52 : Wv (13 + 4 * (a.toInt)) = z49.toInt := KN_v hK (Or.inr (Or.inl ⟨by omega, by omega, by omega⟩)) (by omega) (by omega) (by omega) (by omega) h48
      exact En_ret (v := some (.int z49)) rfl rfl rfl ⟨hσ0, hF0, z49, rfl, ⟨by omega, by omega, (by have e := doR_y (w := Wv) (d := a.toInt) (q := b.toInt) (by omega) (by omega) t52; omega)⟩⟩
    · refine En_swO (t := 79) rfl (by omega) rfl (by decide +kernel) ?_
      refine En_Ps 1 (pc' := 81) (lv' := [(3, .ref a26), (0, .ref 0), (1, .int a), (2, .int b)]) (st' := [.int (((Int8.ofInt (-2)).toInt32))]) rfl ?_
      refine En_top (by decide : ((Int8.ofInt (-2)).toInt32).toInt = -2) (fun z53 h54 => ?_)
      exact En_ret (v := some (.int z53)) rfl rfl rfl ⟨hσ0, hF0, z53, rfl, ⟨by omega, by omega, (by have e := doR_n (w := Wv) (d := a.toInt) (q := b.toInt) (by omega); omega)⟩⟩
    · refine En_swO (t := 79) rfl (by omega) rfl (by decide +kernel) ?_
      refine En_Ps 1 (pc' := 81) (lv' := [(3, .ref a26), (0, .ref 0), (1, .int a), (2, .int b)]) (st' := [.int (((Int8.ofInt (-2)).toInt32))]) rfl ?_
      refine En_top (by decide : ((Int8.ofInt (-2)).toInt32).toInt = -2) (fun z55 h56 => ?_)
      exact En_ret (v := some (.int z55)) rfl rfl rfl ⟨hσ0, hF0, z55, rfl, ⟨by omega, by omega, (by have e := doR_n (w := Wv) (d := a.toInt) (q := b.toInt) (by omega); omega)⟩⟩
  · have h57 := Imp_m h12.2.2.2.2.1 (by omega)
    refine En_Ps 1 (pc' := 13) (lv' := [(0, .ref 0), (1, .int a), (2, .int b)]) (st' := [.int (((Int8.ofInt (-2)).toInt32))]) rfl ?_
    refine En_top (by decide : ((Int8.ofInt (-2)).toInt32).toInt = -2) (fun z58 h59 => ?_)
    exact En_ret (v := some (.int z58)) rfl rfl rfl ⟨hσ0, hF0, z58, rfl, ⟨by omega, by omega, (by have e := doR_n (w := Wv) (d := a.toInt) (q := b.toInt) (by omega); omega)⟩⟩
/-- DoorSchool.end(I)I -/
abbrev P_118x (σ0 : SG) (a : Int32) (p : Nat) (sg : Int32) (m : Int32) : PO := fun v σ => WT σ ∧ Fr [(1, 1)] σ0 σ ∧ ∃ m1 : Int32, (σ 1)[1]? = some (.int m1) ∧ ∃ ret : Int32, v = some (.int ret) ∧ -ret.toInt - 1 ≤ 0 ∧ ret.toInt - 1600 ≤ 0 ∧ -m1.toInt ≤ 0 ∧ m1.toInt - 1600 ≤ 0 ∧ -m1.toInt + sg.toInt - 4 ≤ 0 ∧ m1.toInt - sg.toInt - 1600 ≤ 0 ∧ -m1.toInt + m.toInt - 1600 ≤ 0 ∧ m1.toInt - m.toInt ≤ 0 ∧ Imp (-a.toInt ≤ 0 ∧ a.toInt - m.toInt ≤ 0) (m1.toInt - a.toInt ≤ 0 ∧ -m1.toInt + a.toInt ≤ 0 ∧ ret.toInt - a.toInt ≤ 0 ∧ -ret.toInt + a.toInt ≤ 0) ∧ Imp (a.toInt + 1 ≤ 0) (m1.toInt - m.toInt ≤ 0 ∧ -m1.toInt + m.toInt ≤ 0 ∧ ret.toInt + 1 ≤ 0 ∧ -ret.toInt - 1 ≤ 0) ∧ Imp (m.toInt - a.toInt + 1 ≤ 0) (m1.toInt - m.toInt ≤ 0 ∧ -m1.toInt + m.toInt ≤ 0 ∧ ret.toInt + 1 ≤ 0 ∧ -ret.toInt - 1 ≤ 0)
set_option maxRecDepth 10000 in
set_option maxHeartbeats 4000000 in
theorem c_118x (σ0 : SG) (hσ0 : WT σ0) (a : Int32) (p : Nat) (hp : TG p = 18) (h_p : (σ0 0)[9]? = some (.ref p)) (sg : Int32) (h_sg : (σ0 p)[1]? = some (.int sg)) (m : Int32) (h_m : (σ0 1)[1]? = some (.int m)) (hp0 : -sg.toInt ≤ 0) : En 0 0 none mr_118 (P_118x σ0 a p sg m) 0 [(0, .ref 0), (1, .int a)] [] σ0 := by
  obtain ⟨hl_sg, hu_sg⟩ := WT_int hσ0 (g := 18) hp (by decide +kernel) (l := (-1)) (u := 4) (by decide +kernel) h_sg
  obtain ⟨hl_m, hu_m⟩ := WT_int hσ0 (g := 1) (by decide +kernel) (by decide +kernel) (l := 0) (u := 1600) (by decide +kernel) h_m
  have hF0 : Fr [(1, 1)] σ0 σ0 := Fr_rfl
  refine En_Ps 1 (pc' := 1) (lv' := [(0, .ref 0), (1, .int a)]) (st' := [.int a]) rfl ?_
  refine En_iLt _ rfl rfl (fun h1 => ?_) (fun h1 => ?_)
  · refine En_Ps 1 (pc' := 16) (lv' := [(0, .ref 0), (1, .int a)]) (st' := [.int ((Int32.ofInt (-1)))]) rfl ?_
    refine En_top (by decide : (Int32.ofInt (-1)).toInt = -1) (fun z2 h3 => ?_)
    exact En_ret (v := some (.int z2)) rfl rfl rfl ⟨hσ0, hF0, m, h_m, z2, rfl, ⟨by omega, by omega, by omega, by omega, by omega, by omega, by omega, by omega, fun _ => by omega, fun _ => by omega, fun _ => by omega⟩⟩
  · refine En_Ps 2 (pc' := 6) (lv' := [(0, .ref 0), (1, .int a)]) (st' := [.ref 0, .int a]) rfl ?_
    refine En_getU (j := 0) (u := 1) (g' := 1) (q := 0) rfl rfl rfl (by decide +kernel : TG 0 = 0) (by decide +kernel) hσ0 (by decide +kernel) (by decide +kernel) (fun h4 => ?_)
    refine En_getK (j := 1) h_m rfl rfl rfl (by decide +kernel : TG 1 = 1) (by decide +kernel) ?_
    refine En_icLe _ rfl rfl rfl (fun h6 => ?_) (fun h6 => ?_)
    · refine En_Ps 1 (pc' := 18) (lv' := [(0, .ref 0), (1, .int a)]) (st' := [.ref 0]) rfl ?_
      refine En_getK (j := 0) h4 rfl rfl rfl (by decide +kernel : TG 0 = 0) (by decide +kernel) ?_
      refine En_Ps 1 (pc' := 22) (lv' := [(0, .ref 0), (1, .int a)]) (st' := [.int a, .ref 1]) rfl ?_
      refine En_put (j := 1) rfl rfl rfl (by decide +kernel : TG 1 = 1) (by decide +kernel) rfl (vI (l := 0) (u := 1600) (by decide +kernel) rfl (by omega) (by omega)) hσ0 hF0 (by decide +kernel) (fun σ7 h8 h9 h10 h11 => ?_)
      refine En_Ps 1 (pc' := 26) (lv' := [(0, .ref 0), (1, .int a)]) (st' := [.int a]) rfl ?_
      exact En_ret (v := some (.int a)) rfl rfl rfl ⟨h8, h9, a, h10, a, rfl, ⟨by omega, by omega, by omega, by omega, by omega, by omega, by omega, by omega, fun _ => by omega, fun _ => by omega, fun _ => by omega⟩⟩
    · refine En_Ps 1 (pc' := 16) (lv' := [(0, .ref 0), (1, .int a)]) (st' := [.int ((Int32.ofInt (-1)))]) rfl ?_
      refine En_top (by decide : (Int32.ofInt (-1)).toInt = -1) (fun z12 h13 => ?_)
      exact En_ret (v := some (.int z12)) rfl rfl rfl ⟨hσ0, hF0, m, h_m, z12, rfl, ⟨by omega, by omega, by omega, by omega, by omega, by omega, by omega, by omega, fun _ => by omega, fun _ => by omega, fun _ => by omega⟩⟩
/-- DoorSchool.isZeroOrOne(I)Z -/
abbrev P_149x (σ0 : SG) (a : Int32) : PO := fun v σ => WT σ ∧ Fr [] σ0 σ ∧ ∃ ret : Int32, v = some (.int ret) ∧ -ret.toInt ≤ 0 ∧ ret.toInt - 1 ≤ 0 ∧ Imp (ret.toInt - 1 ≤ 0 ∧ -ret.toInt + 1 ≤ 0) (-a.toInt ≤ 0 ∧ a.toInt - 1 ≤ 0) ∧ ((ret.toInt = 1 ∧ (a.toInt = 0 ∨ a.toInt = 1)) ∨ (ret.toInt = 0 ∧ a.toInt ≠ 0 ∧ a.toInt ≠ 1))
set_option maxRecDepth 10000 in
set_option maxHeartbeats 4000000 in
theorem c_149x (σ0 : SG) (hσ0 : WT σ0) (a : Int32) : En 0 0 none mr_149 (P_149x σ0 a) 0 [(0, .int a)] [] σ0 := by
  have hF0 : Fr [] σ0 σ0 := Fr_rfl
  refine En_Ps 1 (pc' := 1) (lv' := [(0, .int a)]) (st' := [.int a]) rfl ?_
  refine En_iEq _ rfl rfl (fun h1 => ?_) (fun h1 => ?_)
  · refine En_Ps 2 (pc' := 14) (lv' := [(0, .int a)]) (st' := [.int ((Int32.ofInt 1))]) rfl ?_
    refine En_top (by decide : (Int32.ofInt 1).toInt = 1) (fun z2 h3 => ?_)
    exact En_ret (v := some (.int z2)) rfl rfl (retZ rfl rfl (by omega) (by omega)) ⟨hσ0, hF0, z2, rfl, ⟨by omega, by omega, fun _ => by omega, (by omega)⟩⟩
  · refine En_Ps 2 (pc' := 6) (lv' := [(0, .int a)]) (st' := [.int ((Int32.ofInt 1)), .int a]) rfl ?_
    refine En_icNe _ rfl (by decide : (Int32.ofInt 1).toInt = 1) rfl (fun h4 => ?_) (fun h4 => ?_)
    · refine En_Ps 1 (pc' := 14) (lv' := [(0, .int a)]) (st' := [.int ((Int32.ofInt 0))]) rfl ?_
      refine En_top (by decide : (Int32.ofInt 0).toInt = 0) (fun z5 h6 => ?_)
      exact En_ret (v := some (.int z5)) rfl rfl (retZ rfl rfl (by omega) (by omega)) ⟨hσ0, hF0, z5, rfl, ⟨by omega, by omega, fun _ => by omega, (by omega)⟩⟩
    · refine En_Ps 2 (pc' := 14) (lv' := [(0, .int a)]) (st' := [.int ((Int32.ofInt 1))]) rfl ?_
      refine En_top (by decide : (Int32.ofInt 1).toInt = 1) (fun z7 h8 => ?_)
      exact En_ret (v := some (.int z7)) rfl rfl (retZ rfl rfl (by omega) (by omega)) ⟨hσ0, hF0, z7, rfl, ⟨by omega, by omega, fun _ => by omega, (by omega)⟩⟩
/-- DoorSchool.exam(II)I -/
abbrev P_120x (σ0 : SG) (Wv : Int → Int) (a : Int32) (b : Int32) (p : Nat) (sg : Int32) : PO := fun v σ => WT σ ∧ Fr [] σ0 σ ∧ ∃ ret : Int32, v = some (.int ret) ∧ -ret.toInt - 2 ≤ 0 ∧ ret.toInt - 15 ≤ 0 ∧ ret.toInt = exR Wv a.toInt b.toInt
set_option maxRecDepth 10000 in
set_option maxHeartbeats 4000000 in
theorem c_120x {Wv : Int → Int} (σ0 : SG) (hσ0 : WT σ0) (a : Int32) (b : Int32) (p : Nat) (hp : TG p = 18) (h_p : (σ0 0)[9]? = some (.ref p)) (sg : Int32) (h_sg : (σ0 p)[1]? = some (.int sg)) (hp0 : -sg.toInt ≤ 0) (hP : PLA p) (hX : FXP σ0 p) (hK : KN σ0 p Wv (act Wv)) (hB : WFw Wv) : En 1 20 none mr_120 (P_120x σ0 Wv a b p sg) 0 [(0, .ref 0), (1, .int a), (2, .int b)] [] σ0 := by
  obtain ⟨hl_sg, hu_sg⟩ := WT_int hσ0 (g := 18) hp (by decide +kernel) (l := (-1)) (u := 4) (by decide +kernel) h_sg
  have hF0 : Fr [] σ0 σ0 := Fr_rfl
  have t1 : Wv (0) = sg.toInt := KN_v hK (Or.inl (by decide)) (by omega) (by omega) (by rw [lcO_lt (by decide) (by decide), Nat.add_zero]) rfl h_sg
  have h2 := hB.2.2.2.1
  refine En_Ps 1 (pc' := 1) (lv' := [(0, .ref 0), (1, .int a), (2, .int b)]) (st' := [.int a]) rfl ?_
  refine En_iLt _ rfl rfl (fun h3 => ?_) (fun h3 => ?_)
  · refine En_Ps 1 (pc' := 27) (lv' := [(0, .ref 0), (1, .int a), (2, .int b)]) (st' := [.int (((Int8.ofInt (-2)).toInt32))]) rfl ?_
    refine En_top (by decide : ((Int8.ofInt (-2)).toInt32).toInt = -2) (fun z4 h5 => ?_)
    exact En_ret (v := some (.int z4)) rfl rfl rfl ⟨hσ0, hF0, z4, rfl, ⟨by omega, by omega, (by have e := exR_n (w := Wv) (d := a.toInt) (q := b.toInt) (by omega); omega)⟩⟩
  · refine En_Ps 2 (pc' := 6) (lv' := [(0, .ref 0), (1, .int a), (2, .int b)]) (st' := [.ref 0, .int a]) rfl ?_
    refine En_getK (j := 9) h_p rfl rfl rfl (by decide +kernel : TG 0 = 0) (by decide +kernel) ?_
    refine En_getR (j := 5) (g' := 20) (u := 0) rfl rfl rfl hp (by decide +kernel) hσ0 (by decide +kernel) (fun a7 h6 ha7 => ?_)
    have t8 : a7 = p + 2 := ref_uniq h6 (FXP_fr hP hX hF0 (by decide +kernel)).2.1
    refine En_getI (j := 2) (l := 0) (u := 13) rfl rfl rfl ha7 (by decide +kernel) hσ0 (by decide +kernel) (fun z10 h9 h11 h12 => ?_)
    have t13 : Wv (3) = z10.toInt := KN_v hK (Or.inl (by decide)) (by omega) (by omega) (by rw [lcO_3]; omega) (by decide) h9
    refine En_icGe _ rfl rfl rfl (fun h14 => ?_) (fun h14 => ?_)
    · refine En_Ps 1 (pc' := 27) (lv' := [(0, .ref 0), (1, .int a), (2, .int b)]) (st' := [.int (((Int8.ofInt (-2)).toInt32))]) rfl ?_
      refine En_top (by decide : ((Int8.ofInt (-2)).toInt32).toInt = -2) (fun z15 h16 => ?_)
      exact En_ret (v := some (.int z15)) rfl rfl rfl ⟨hσ0, hF0, z15, rfl, ⟨by omega, by omega, (by have e := exR_n (w := Wv) (d := a.toInt) (q := b.toInt) (by omega); omega)⟩⟩
    · refine En_Ps 1 (pc' := 19) (lv' := [(0, .ref 0), (1, .int a), (2, .int b)]) (st' := [.int b]) rfl ?_
      refine En_callS rfl rfl rfl rfl rfl rfl rfl rfl rfl (c_149x σ0 hσ0 b) (by decide) (by decide) (fun v18 σ19 h17 => ?_)
      obtain ⟨h20, h21, z23, rfl, h22⟩ := h17
      have h24 := h22.2.2.2
      obtain rfl : σ0 = σ19 := Fr_nil h21
      have h25 := Imp_m h22.2.2.1
      refine En_iNe _ rfl rfl (fun h26 => ?_) (fun h26 => ?_)
      · have h27 := Imp_m h22.2.2.1 (by omega)
        refine En_Ps 1 (pc' := 29) (lv' := [(0, .ref 0), (1, .int a), (2, .int b)]) (st' := [.int b]) rfl ?_
        refine En_iNe _ rfl rfl (fun h28 => ?_) (fun h28 => ?_)
        · refine En_Ps 1 (pc' := 48) (lv' := [(0, .ref 0), (1, .int a), (2, .int b)]) (st' := [.ref 0]) rfl ?_
          refine En_getK (j := 9) h_p rfl rfl rfl (by decide +kernel : TG 0 = 0) (by decide +kernel) ?_
          refine En_getK (j := 5) h6 rfl rfl rfl hp (by decide +kernel) ?_
          refine En_getR (j := 1) (g' := 22) (u := 0) rfl rfl rfl ha7 (by decide +kernel) hσ0 (by decide +kernel) (fun a30 h29 ha30 => ?_)
          have t31 : a30 = p + 4 := EKo (FXP_fr hP hX hF0 (by decide +kernel)) t8 h29
          refine En_Ps 1 (pc' := 58) (lv' := [(0, .ref 0), (1, .int a), (2, .int b)]) (st' := [.int a, .ref a30]) rfl ?_
          refine En_iald (l := 0) (u := 1) rfl rfl ha30 (by decide +kernel) hσ0 (by omega) (lnI (by decide +kernel : LN _ = 13) (by omega)) (FTsgl (by decide +kernel)) (fun z33 h32 h34 h35 => ?_)
          have t36 := lc_e (m := a.toInt) (by omega) (by omega)
          have t37 : Wv (122 + 2 * (a.toInt) + 1) = z33.toInt := KN_v hK (Or.inr (Or.inr (Or.inr (Or.inl ⟨by omega, by omega, by omega⟩)))) (by omega) (by omega) (by omega) (by omega) h32
          exact En_ret (v := some (.int z33)) rfl rfl rfl ⟨hσ0, hF0, z33, rfl, ⟨by omega, by omega, (by have e := exR_y (w := Wv) (d := a.toInt) (q := b.toInt) (by omega) (by omega) t37; omega)⟩⟩
        · refine En_Ps 1 (pc' := 33) (lv' := [(0, .ref 0), (1, .int a), (2, .int b)]) (st' := [.ref 0]) rfl ?_
          refine En_getK (j := 9) h_p rfl rfl rfl (by decide +kernel : TG 0 = 0) (by decide +kernel) ?_
          refine En_getK (j := 5) h6 rfl rfl rfl hp (by decide +kernel) ?_
          refine En_getR (j := 0) (g' := 21) (u := 0) rfl rfl rfl ha7 (by decide +kernel) hσ0 (by decide +kernel) (fun a39 h38 ha39 => ?_)
          have t40 : a39 = p + 3 := EKk (FXP_fr hP hX hF0 (by decide +kernel)) t8 h38
          refine En_Ps 1 (pc' := 43) (lv' := [(0, .ref 0), (1, .int a), (2, .int b)]) (st' := [.int a, .ref a39]) rfl ?_
          refine En_iald (l := 0) (u := 15) rfl rfl ha39 (by decide +kernel) hσ0 (by omega) (lnI (by decide +kernel : LN _ = 13) (by omega)) (FTsgl (by decide +kernel)) (fun z42 h41 h43 h44 => ?_)
          have t45 := lc_e (m := a.toInt) (by omega) (by omega)
          have t46 : Wv (122 + 2 * (a.toInt)) = z42.toInt := KN_v hK (Or.inr (Or.inr (Or.inr (Or.inl ⟨by omega, by omega, by omega⟩)))) (by omega) (by omega) (by omega) (by omega) h41
          refine En_Ps 1 (pc' := 59) (lv' := [(0, .ref 0), (1, .int a), (2, .int b)]) (st' := [.int z42]) rfl ?_
          exact En_ret (v := some (.int z42)) rfl rfl rfl ⟨hσ0, hF0, z42, rfl, ⟨by omega, by omega, (by have e := exR_y (w := Wv) (d := a.toInt) (q := b.toInt) (by omega) (by omega) t46; omega)⟩⟩
      · refine En_Ps 1 (pc' := 27) (lv' := [(0, .ref 0), (1, .int a), (2, .int b)]) (st' := [.int (((Int8.ofInt (-2)).toInt32))]) rfl ?_
        refine En_top (by decide : ((Int8.ofInt (-2)).toInt32).toInt = -2) (fun z47 h48 => ?_)
        exact En_ret (v := some (.int z47)) rfl rfl rfl ⟨hσ0, hF0, z47, rfl, ⟨by omega, by omega, (by have e := exR_n (w := Wv) (d := a.toInt) (q := b.toInt) (by omega); omega)⟩⟩
/-- DoorSchool.fault(I)I -/
abbrev P_121x (σ0 : SG) (a : Int32) (p : Nat) (sg : Int32) (fk : Int32) (fp : Int32) : PO := fun v σ => WT σ ∧ Fr [] σ0 σ ∧ ∃ ret : Int32, v = some (.int ret) ∧ -ret.toInt - 1 ≤ 0 ∧ ret.toInt - 1600 ≤ 0 ∧ Imp (a.toInt ≤ 0 ∧ -a.toInt ≤ 0) (ret.toInt - fk.toInt ≤ 0 ∧ -ret.toInt + fk.toInt ≤ 0) ∧ Imp (a.toInt - 1 ≤ 0 ∧ -a.toInt + 1 ≤ 0) (ret.toInt - fp.toInt ≤ 0 ∧ -ret.toInt + fp.toInt ≤ 0) ∧ Imp (a.toInt + 1 ≤ 0) (ret.toInt + 1 ≤ 0 ∧ -ret.toInt - 1 ≤ 0) ∧ Imp (-a.toInt + 2 ≤ 0) (ret.toInt + 1 ≤ 0 ∧ -ret.toInt - 1 ≤ 0)
set_option maxRecDepth 10000 in
set_option maxHeartbeats 4000000 in
theorem c_121x (σ0 : SG) (hσ0 : WT σ0) (a : Int32) (p : Nat) (hp : TG p = 18) (h_p : (σ0 0)[9]? = some (.ref p)) (sg : Int32) (h_sg : (σ0 p)[1]? = some (.int sg)) (fk : Int32) (h_fk : (σ0 3)[5]? = some (.int fk)) (fp : Int32) (h_fp : (σ0 3)[6]? = some (.int fp)) (hp0 : -sg.toInt ≤ 0) : En 0 0 none mr_121 (P_121x σ0 a p sg fk fp) 0 [(0, .ref 0), (1, .int a)] [] σ0 := by
  obtain ⟨hl_sg, hu_sg⟩ := WT_int hσ0 (g := 18) hp (by decide +kernel) (l := (-1)) (u := 4) (by decide +kernel) h_sg
  obtain ⟨hl_fk, hu_fk⟩ := WT_int hσ0 (g := 3) (by decide +kernel) (by decide +kernel) (l := 0) (u := 3) (by decide +kernel) h_fk
  obtain ⟨hl_fp, hu_fp⟩ := WT_int hσ0 (g := 3) (by decide +kernel) (by decide +kernel) (l := (-1)) (u := 1600) (by decide +kernel) h_fp
  have hF0 : Fr [] σ0 σ0 := Fr_rfl
  refine En_Ps 1 (pc' := 1) (lv' := [(0, .ref 0), (1, .int a)]) (st' := [.int a]) rfl ?_
  refine En_iNe _ rfl rfl (fun h1 => ?_) (fun h1 => ?_)
  · refine En_Ps 2 (pc' := 14) (lv' := [(0, .ref 0), (1, .int a)]) (st' := [.int ((Int32.ofInt 1)), .int a]) rfl ?_
    refine En_icNe _ rfl (by decide : (Int32.ofInt 1).toInt = 1) rfl (fun h2 => ?_) (fun h2 => ?_)
    · refine En_Ps 1 (pc' := 28) (lv' := [(0, .ref 0), (1, .int a)]) (st' := [.int ((Int32.ofInt (-1)))]) rfl ?_
      refine En_top (by decide : (Int32.ofInt (-1)).toInt = -1) (fun z3 h4 => ?_)
      exact En_ret (v := some (.int z3)) rfl rfl rfl ⟨hσ0, hF0, z3, rfl, ⟨by omega, by omega, fun _ => by omega, fun _ => by omega, fun _ => by omega, fun _ => by omega⟩⟩
    · refine En_Ps 1 (pc' := 18) (lv' := [(0, .ref 0), (1, .int a)]) (st' := [.ref 0]) rfl ?_
      refine En_getU (j := 1) (u := 3) (g' := 3) (q := 0) rfl rfl rfl (by decide +kernel : TG 0 = 0) (by decide +kernel) hσ0 (by decide +kernel) (by decide +kernel) (fun h5 => ?_)
      refine En_getK (j := 6) h_fp rfl rfl rfl (by decide +kernel : TG 3 = 3) (by decide +kernel) ?_
      refine En_Ps 1 (pc' := 28) (lv' := [(0, .ref 0), (1, .int a)]) (st' := [.int fp]) rfl ?_
      exact En_ret (v := some (.int fp)) rfl rfl rfl ⟨hσ0, hF0, fp, rfl, ⟨by omega, by omega, fun _ => by omega, fun _ => by omega, fun _ => by omega, fun _ => by omega⟩⟩
  · refine En_Ps 1 (pc' := 5) (lv' := [(0, .ref 0), (1, .int a)]) (st' := [.ref 0]) rfl ?_
    refine En_getU (j := 1) (u := 3) (g' := 3) (q := 0) rfl rfl rfl (by decide +kernel : TG 0 = 0) (by decide +kernel) hσ0 (by decide +kernel) (by decide +kernel) (fun h7 => ?_)
    refine En_getK (j := 5) h_fk rfl rfl rfl (by decide +kernel : TG 3 = 3) (by decide +kernel) ?_
    exact En_ret (v := some (.int fk)) rfl rfl rfl ⟨hσ0, hF0, fk, rfl, ⟨by omega, by omega, fun _ => by omega, fun _ => by omega, fun _ => by omega, fun _ => by omega⟩⟩
/-- DoorSchool.feed(IIIII)I -/
abbrev P_122x (σ0 : SG) (a : Int32) (b : Int32) (c : Int32) (d : Int32) (e : Int32) (p : Nat) (sg : Int32) (m : Int32) : PO := fun v σ => WT σ ∧ Fr [(1, 1), (2, 0)] σ0 σ ∧ ∃ m1 : Int32, (σ 1)[1]? = some (.int m1) ∧ ∃ ret : Int32, v = some (.int ret) ∧ -ret.toInt - 1 ≤ 0 ∧ ret.toInt - 1600 ≤ 0 ∧ -m1.toInt + 20 ≤ 0 ∧ m1.toInt - 1600 ≤ 0 ∧ -m1.toInt + sg.toInt + 16 ≤ 0 ∧ m1.toInt - sg.toInt - 1600 ≤ 0 ∧ -m1.toInt + m.toInt ≤ 0 ∧ m1.toInt - m.toInt - 20 ≤ 0 ∧ Imp (m.toInt - 1580 ≤ 0) (m1.toInt - m.toInt - 20 ≤ 0 ∧ -m1.toInt + m.toInt + 20 ≤ 0 ∧ ret.toInt - m1.toInt ≤ 0 ∧ -ret.toInt + m1.toInt ≤ 0) ∧ Imp (-m.toInt + 1581 ≤ 0) (m1.toInt - m.toInt ≤ 0 ∧ -m1.toInt + m.toInt ≤ 0 ∧ ret.toInt + 1 ≤ 0 ∧ -ret.toInt - 1 ≤ 0) ∧ ((m.toInt ≤ 1580 → FDP σ0 σ 2 m.toInt 20 a b c d e) ∧ (1580 < m.toInt → ∀ i : Int, ci σ 2 i = ci σ0 2 i))
set_option maxRecDepth 10000 in
set_option maxHeartbeats 4000000 in
theorem c_122x (σ0 : SG) (hσ0 : WT σ0) (a : Int32) (b : Int32) (c : Int32) (d : Int32) (e : Int32) (p : Nat) (hp : TG p = 18) (h_p : (σ0 0)[9]? = some (.ref p)) (sg : Int32) (h_sg : (σ0 p)[1]? = some (.int sg)) (m : Int32) (h_m : (σ0 1)[1]? = some (.int m)) (hp0 : -sg.toInt ≤ 0) : En 1 22 none mr_122 (P_122x σ0 a b c d e p sg m) 0 [(0, .ref 0), (1, .int a), (2, .int b), (3, .int c), (4, .int d), (5, .int e)] [] σ0 := by
  obtain ⟨hl_sg, hu_sg⟩ := WT_int hσ0 (g := 18) hp (by decide +kernel) (l := (-1)) (u := 4) (by decide +kernel) h_sg
  obtain ⟨hl_m, hu_m⟩ := WT_int hσ0 (g := 1) (by decide +kernel) (by decide +kernel) (l := 0) (u := 1600) (by decide +kernel) h_m
  have hF0 : Fr [(1, 1), (2, 0)] σ0 σ0 := Fr_rfl
  refine En_Ps 1 (pc' := 1) (lv' := [(0, .ref 0), (1, .int a), (2, .int b), (3, .int c), (4, .int d), (5, .int e)]) (st' := [.ref 0]) rfl ?_
  refine En_getU (j := 0) (u := 1) (g' := 1) (q := 0) rfl rfl rfl (by decide +kernel : TG 0 = 0) (by decide +kernel) hσ0 (by decide +kernel) (by decide +kernel) (fun h1 => ?_)
  refine En_getK (j := 1) h_m rfl rfl rfl (by decide +kernel : TG 1 = 1) (by decide +kernel) ?_
  refine En_Ps 2 (pc' := 10) (lv' := [(0, .ref 0), (1, .int a), (2, .int b), (3, .int c), (4, .int d), (5, .int e)]) (st' := [.int ((m + (((Int8.ofInt 20).toInt32))))]) rfl ?_
  refine En_top (addI rfl (by decide : ((Int8.ofInt 20).toInt32).toInt = 20) (by omega) (by omega)) (fun z3 h4 => ?_)
  refine En_Ps 1 (pc' := 13) (lv' := [(0, .ref 0), (1, .int a), (2, .int b), (3, .int c), (4, .int d), (5, .int e)]) (st' := [.int (((Int16.ofInt 1600).toInt32)), .int z3]) rfl ?_
  refine En_icLe _ rfl (by decide : ((Int16.ofInt 1600).toInt32).toInt = 1600) rfl (fun h5 => ?_) (fun h5 => ?_)
  · refine En_Ps 1 (pc' := 19) (lv' := [(0, .ref 0), (1, .int a), (2, .int b), (3, .int c), (4, .int d), (5, .int e)]) (st' := [.ref 0]) rfl ?_
    refine En_getK (j := 0) h1 rfl rfl rfl (by decide +kernel : TG 0 = 0) (by decide +kernel) ?_
    refine En_Ps 1 (pc' := 23) (lv' := [(0, .ref 0), (1, .int a), (2, .int b), (3, .int c), (4, .int d), (5, .int e)]) (st' := [.int a, .ref 1]) rfl ?_
    refine En_callV rfl rfl rfl rfl rfl rfl rfl rfl (by decide +kernel : TG 1 = 1) (by decide +kernel) rfl (c_90x σ0 hσ0 a m h_m) (by decide) (by decide) (fun v7 σ8 h6 => ?_)
    obtain ⟨h9, h10, z12, h13, rfl, h11⟩ := h6
    have h14 := h11.2.2.2.2.2
    have h15 := Fr_trans hF0 h10 (by decide +kernel)
    have h16 := Imp_m h11.2.2.2.2.1 (by omega)
    refine En_Ps 1 (pc' := 27) (lv' := [(0, .ref 0), (1, .int a), (2, .int b), (3, .int c), (4, .int d), (5, .int e)]) (st' := [.ref 0]) rfl ?_
    refine En_getK (j := 0) ((h10 _ _ (inW (by decide +kernel : TG 0 = 0) (by decide +kernel))).trans h1) rfl rfl rfl (by decide +kernel : TG 0 = 0) (by decide +kernel) ?_
    refine En_Ps 1 (pc' := 31) (lv' := [(0, .ref 0), (1, .int a), (2, .int b), (3, .int c), (4, .int d), (5, .int e)]) (st' := [.int b, .ref 1]) rfl ?_
    refine En_callV rfl rfl rfl rfl rfl rfl rfl rfl (by decide +kernel : TG 1 = 1) (by decide +kernel) rfl (c_90x σ8 h9 b z12 h13) (by decide) (by decide) (fun v18 σ19 h17 => ?_)
    obtain ⟨h20, h21, z23, h24, rfl, h22⟩ := h17
    have h25 := h22.2.2.2.2.2
    have h26 := Fr_trans h15 h21 (by decide +kernel)
    have h27 := Imp_m h22.2.2.2.2.1 (by omega)
    refine En_Ps 1 (pc' := 35) (lv' := [(0, .ref 0), (1, .int a), (2, .int b), (3, .int c), (4, .int d), (5, .int e)]) (st' := [.ref 0]) rfl ?_
    refine En_getK (j := 0) ((h21 _ _ (inW (by decide +kernel : TG 0 = 0) (by decide +kernel))).trans ((h10 _ _ (inW (by decide +kernel : TG 0 = 0) (by decide +kernel))).trans h1)) rfl rfl rfl (by decide +kernel : TG 0 = 0) (by decide +kernel) ?_
    refine En_Ps 1 (pc' := 39) (lv' := [(0, .ref 0), (1, .int a), (2, .int b), (3, .int c), (4, .int d), (5, .int e)]) (st' := [.int c, .ref 1]) rfl ?_
    refine En_callV rfl rfl rfl rfl rfl rfl rfl rfl (by decide +kernel : TG 1 = 1) (by decide +kernel) rfl (c_90x σ19 h20 c z23 h24) (by decide) (by decide) (fun v29 σ30 h28 => ?_)
    obtain ⟨h31, h32, z34, h35, rfl, h33⟩ := h28
    have h36 := h33.2.2.2.2.2
    have h37 := Fr_trans h26 h32 (by decide +kernel)
    have h38 := Imp_m h33.2.2.2.2.1 (by omega)
    refine En_Ps 1 (pc' := 43) (lv' := [(0, .ref 0), (1, .int a), (2, .int b), (3, .int c), (4, .int d), (5, .int e)]) (st' := [.ref 0]) rfl ?_
    refine En_getK (j := 0) ((h32 _ _ (inW (by decide +kernel : TG 0 = 0) (by decide +kernel))).trans ((h21 _ _ (inW (by decide +kernel : TG 0 = 0) (by decide +kernel))).trans ((h10 _ _ (inW (by decide +kernel : TG 0 = 0) (by decide +kernel))).trans h1))) rfl rfl rfl (by decide +kernel : TG 0 = 0) (by decide +kernel) ?_
    refine En_Ps 1 (pc' := 48) (lv' := [(0, .ref 0), (1, .int a), (2, .int b), (3, .int c), (4, .int d), (5, .int e)]) (st' := [.int d, .ref 1]) rfl ?_
    refine En_callV rfl rfl rfl rfl rfl rfl rfl rfl (by decide +kernel : TG 1 = 1) (by decide +kernel) rfl (c_90x σ30 h31 d z34 h35) (by decide) (by decide) (fun v40 σ41 h39 => ?_)
    obtain ⟨h42, h43, z45, h46, rfl, h44⟩ := h39
    have h47 := h44.2.2.2.2.2
    have h48 := Fr_trans h37 h43 (by decide +kernel)
    have h49 := Imp_m h44.2.2.2.2.1 (by omega)
    refine En_Ps 1 (pc' := 52) (lv' := [(0, .ref 0), (1, .int a), (2, .int b), (3, .int c), (4, .int d), (5, .int e)]) (st' := [.ref 0]) rfl ?_
    refine En_getK (j := 0) ((h43 _ _ (inW (by decide +kernel : TG 0 = 0) (by decide +kernel))).trans ((h32 _ _ (inW (by decide +kernel : TG 0 = 0) (by decide +kernel))).trans ((h21 _ _ (inW (by decide +kernel : TG 0 = 0) (by decide +kernel))).trans ((h10 _ _ (inW (by decide +kernel : TG 0 = 0) (by decide +kernel))).trans h1)))) rfl rfl rfl (by decide +kernel : TG 0 = 0) (by decide +kernel) ?_
    refine En_Ps 1 (pc' := 57) (lv' := [(0, .ref 0), (1, .int a), (2, .int b), (3, .int c), (4, .int d), (5, .int e)]) (st' := [.int e, .ref 1]) rfl ?_
    refine En_callV rfl rfl rfl rfl rfl rfl rfl rfl (by decide +kernel : TG 1 = 1) (by decide +kernel) rfl (c_90x σ41 h42 e z45 h46) (by decide) (by decide) (fun v51 σ52 h50 => ?_)
    obtain ⟨h53, h54, z56, h57, rfl, h55⟩ := h50
    have h58 := h55.2.2.2.2.2
    have h59 := Fr_trans h48 h54 (by decide +kernel)
    have h60 := Imp_m h55.2.2.2.2.1 (by omega)
    refine En_Ps 1 (pc' := 61) (lv' := [(0, .ref 0), (1, .int a), (2, .int b), (3, .int c), (4, .int d), (5, .int e)]) (st' := [.ref 0]) rfl ?_
    refine En_getK (j := 0) ((h54 _ _ (inW (by decide +kernel : TG 0 = 0) (by decide +kernel))).trans ((h43 _ _ (inW (by decide +kernel : TG 0 = 0) (by decide +kernel))).trans ((h32 _ _ (inW (by decide +kernel : TG 0 = 0) (by decide +kernel))).trans ((h21 _ _ (inW (by decide +kernel : TG 0 = 0) (by decide +kernel))).trans ((h10 _ _ (inW (by decide +kernel : TG 0 = 0) (by decide +kernel))).trans h1))))) rfl rfl rfl (by decide +kernel : TG 0 = 0) (by decide +kernel) ?_
    refine En_getK (j := 1) h57 rfl rfl rfl (by decide +kernel : TG 1 = 1) (by decide +kernel) ?_
    exact En_ret (v := some (.int z56)) rfl rfl rfl ⟨h53, h59, z56, h57, z56, rfl, ⟨by omega, by omega, by omega, by omega, by omega, by omega, by omega, by omega, fun _ => by omega, fun _ => by omega, ⟨fun _ => FDP_5 (by omega) (APB_d h14 (by omega) (by omega)) (APB_d h25 (by omega) (by omega)) (APB_d h36 (by omega) (by omega)) (APB_d h47 (by omega) (by omega)) (APB_d h58 (by omega) (by omega)), fun h => absurd h (by omega)⟩⟩⟩
  · refine En_Ps 1 (pc' := 17) (lv' := [(0, .ref 0), (1, .int a), (2, .int b), (3, .int c), (4, .int d), (5, .int e)]) (st' := [.int ((Int32.ofInt (-1)))]) rfl ?_
    refine En_top (by decide : (Int32.ofInt (-1)).toInt = -1) (fun z61 h62 => ?_)
    exact En_ret (v := some (.int z61)) rfl rfl rfl ⟨hσ0, hF0, m, h_m, z61, rfl, ⟨by omega, by omega, by omega, by omega, by omega, by omega, by omega, by omega, fun _ => by omega, fun _ => by omega, ⟨fun h => absurd h (by omega), fun _ _ => rfl⟩⟩⟩
/-- DoorSchool.foolingAfter(II)I -/
abbrev P_127x (σ0 : SG) (Wv : Int → Int) (a : Int32) (b : Int32) (p : Nat) (sg : Int32) : PO := fun v σ => WT σ ∧ Fr [(20, 2), (21, 0), (22, 0)] σ0 σ ∧ ∃ ret : Int32, v = some (.int ret) ∧ -ret.toInt ≤ 0 ∧ ret.toInt - 63 ≤ 0 ∧ (KN σ p Wv (act Wv) ∧ OUT σ0 σ p)
set_option maxRecDepth 10000 in
set_option maxHeartbeats 4000000 in
theorem c_127x {Wv : Int → Int} (σ0 : SG) (hσ0 : WT σ0) (a : Int32) (b : Int32) (hl_a : 0 ≤ a.toInt) (hu_a : a.toInt ≤ 3) (hl_b : 0 ≤ b.toInt) (hu_b : b.toInt ≤ 15) (p : Nat) (hp : TG p = 18) (h_p : (σ0 0)[9]? = some (.ref p)) (sg : Int32) (h_sg : (σ0 p)[1]? = some (.int sg)) (hp0 : -sg.toInt ≤ 0) (hP : PLA p) (hX : FXP σ0 p) (hK : KN σ0 p Wv (act Wv)) (hB : WFw Wv) (ha : a.toInt < Wv 2) : En 4 92 none mr_127 (P_127x σ0 Wv a b p sg) 0 [(0, .ref 0), (1, .int a), (2, .int b)] [] σ0 := by
  obtain ⟨hl_sg, hu_sg⟩ := WT_int hσ0 (g := 18) hp (by decide +kernel) (l := (-1)) (u := 4) (by decide +kernel) h_sg
  have hF0 : Fr [(20, 2), (21, 0), (22, 0)] σ0 σ0 := Fr_rfl
  have t1 : Wv (0) = sg.toInt := KN_v hK (Or.inl (by decide)) (by omega) (by omega) (by rw [lcO_lt (by decide) (by decide), Nat.add_zero]) rfl h_sg
  obtain ⟨z3, h2, h4, h5⟩ := WT_peekI hσ0 hp (by decide +kernel : FT 18 3 = (0, 0, 4)) (by decide +kernel)
  have t6 : Wv (2) = z3.toInt := KN_v hK (Or.inl (by decide)) (by omega) (by omega) (by rw [lcO_lt (by decide) (by decide), Nat.add_zero]) rfl h2
  refine En_Ps 1 (pc' := 1) (lv' := [(0, .ref 0), (1, .int a), (2, .int b)]) (st' := [.ref 0]) rfl ?_
  refine En_getK (j := 9) h_p rfl rfl rfl (by decide +kernel : TG 0 = 0) (by decide +kernel) ?_
  refine En_getR (j := 4) (g' := 19) (u := 0) rfl rfl rfl hp (by decide +kernel) hσ0 (by decide +kernel) (fun a8 h7 ha8 => ?_)
  have t9 : a8 = p + 1 := ref_uniq h7 (FXP_fr hP hX hF0 (by decide +kernel)).1
  refine En_Ps 1 (pc' := 8) (lv' := [(0, .ref 0), (1, .int a), (2, .int b)]) (st' := [.int a, .ref a8]) rfl ?_
  refine En_aald (g' := 28) (u := 0) rfl rfl ha8 (by decide +kernel) hσ0 (by omega) (lnI (by decide +kernel : LN _ = 4) (by omega)) (FTsgl (by decide +kernel)) (fun a11 h10 ha11 => ?_)
  have t12 : a11 = p + 10 + 4 * (a.toInt).toNat := DRe (d := a.toInt) (FXP_fr hP hX hF0 (by decide +kernel)) t9 h10 (by omega) (by omega)
  have t13 := lc_d (d := a.toInt) (by omega) (by omega)
  refine En_getR (j := 0) (g' := 20) (u := 0) rfl rfl rfl ha11 (by decide +kernel) hσ0 (by decide +kernel) (fun a15 h14 ha15 => ?_)
  have t16 : a15 = p + 11 + 4 * (a.toInt).toNat := DLc (d := a.toInt) (FXP_fr hP hX hF0 (by decide +kernel)) t12 h14 (by omega) (by omega)
  obtain ⟨a18, h17, ha18⟩ := WT_peekR (g := 20) (j := 0) (g' := 21) (u := 0) hσ0 ha15 (by decide +kernel) (by decide +kernel)
  have t19 : a18 = p + 12 + 4 * (a.toInt).toNat := DKk (d := a.toInt) (FXP_fr hP hX hF0 (by decide +kernel)) t16 h17 (by omega) (by omega)
  obtain ⟨a21, h20, ha21⟩ := WT_peekR (g := 20) (j := 1) (g' := 22) (u := 0) hσ0 ha15 (by decide +kernel) (by decide +kernel)
  have t22 : a21 = p + 13 + 4 * (a.toInt).toNat := DKo (d := a.toInt) (FXP_fr hP hX hF0 (by decide +kernel)) t16 h20 (by omega) (by omega)
  obtain ⟨z24, h23, h25, h26⟩ := WT_peekI hσ0 ha15 (by decide +kernel : FT 20 2 = (0, 0, 13)) (by decide +kernel)
  have t27 : Wv (12 + 4 * (a.toInt)) = z24.toInt := KN_v hK (Or.inr (Or.inl ⟨by omega, by omega, by omega⟩)) (by omega) (by omega) (by omega) (by omega) h23
  have h28 := hB.2.2.2.2.2.2 a.toInt (by omega) (by omega)
  have : z24.toInt ≤ 12 := by omega
  refine En_Ps 4 (pc' := 16) (lv' := [(3, .ref a15), (0, .ref 0), (1, .int a), (2, .int b)]) (st' := [.ref 0, .int b, .ref a15]) rfl ?_
  refine En_callV rfl rfl rfl rfl rfl rfl rfl rfl (by decide +kernel : TG 0 = 0) (by decide +kernel) rfl (c_160 σ0 hσ0 p hp h_p sg h_sg (by omega)) (by decide) (by decide) (fun v30 σ31 h29 => ?_)
  obtain ⟨h32, h33, z35, rfl, h34⟩ := h29
  obtain rfl : σ0 = σ31 := Fr_nil h33
  refine En_Ps 1 (pc' := 20) (lv' := [(3, .ref a15), (0, .ref 0), (1, .int a), (2, .int b)]) (st' := [.int b, .int z35, .int b, .ref a15]) rfl ?_
  refine En_callS rfl rfl rfl rfl rfl rfl rfl rfl rfl (c_108ax σ0 hσ0 z35 b (geI rfl (by omega)) (leI rfl (by omega)) (geI rfl (by omega)) (leI rfl (by omega))) (by decide) (by decide) (fun v37 σ38 h36 => ?_)
  obtain ⟨h39, h40, z42, rfl, h41⟩ := h36
  have h43 := h41.2.2
  obtain rfl : σ0 = σ38 := Fr_nil h40
  refine En_callV rfl rfl rfl rfl rfl rfl rfl rfl ha15 (by decide +kernel) rfl (c_31x σ0 hσ0 a15 ha15 b z42 (geI rfl (by omega)) (leI rfl (by omega)) (geI rfl (by omega)) (leI rfl (by omega)) a18 ha18 h17 a21 ha21 h20 z24 h23 (by omega)) (by decide) (by decide) (fun v45 σ46 h44 => ?_)
  obtain ⟨h47, h48, z50, h51, rfl, h49⟩ := h44
  have h52 := h49.2.2.2.2
  have h53 := Fr_trans hF0 h48 (by decide +kernel)
  refine En_Ps 2 (pc' := 28) (lv' := [(3, .ref a15), (0, .ref 0), (1, .int a), (2, .int b)]) (st' := [.int a, .ref 0]) rfl ?_
  refine En_callV rfl rfl rfl rfl rfl rfl rfl rfl (by decide +kernel : TG 0 = 0) (by decide +kernel) rfl (c_114 σ46 h47 a (geI rfl (by omega)) (leI rfl (by omega)) p hp ((h48 _ _ (inW (by decide +kernel : TG 0 = 0) (by decide +kernel))).trans h_p) sg ((h48 _ _ (inW hp (by decide +kernel))).trans h_sg) (by omega)) (by decide) (by decide) (fun v58 σ59 h57 => ?_)
  obtain ⟨h60, h61, z63, rfl, h62⟩ := h57
  obtain rfl : σ46 = σ59 := Fr_nil h61
  refine En_Ps 2 (pc' := 34) (lv' := [(4, .int z63), (3, .ref a15), (0, .ref 0), (1, .int a), (2, .int b)]) (st' := [.ref a15]) rfl ?_
  refine En_callV rfl rfl rfl rfl rfl rfl rfl rfl ha15 (by decide +kernel) rfl (c_33x σ46 h47 a15 ha15 a18 ha18 ((h48 _ _ (inW ha15 (by decide +kernel))).trans h17) a21 ha21 ((h48 _ _ (inW ha15 (by decide +kernel))).trans h20) z50 h51 (by omega)) (by decide) (by decide) (fun v65 σ66 h64 => ?_)
  obtain ⟨h67, h68, z70, h71, rfl, h69⟩ := h64
  have h72 := h69.2.2.2.2.2.2
  have h73 := Fr_trans h53 h68 (by decide +kernel)
  refine En_Ps 2 (pc' := 40) (lv' := [(4, .int z63), (3, .ref a15), (0, .ref 0), (1, .int a), (2, .int b)]) (st' := [.ref 0, .int z63]) rfl ?_
  refine En_callV rfl rfl rfl rfl rfl rfl rfl rfl (by decide +kernel : TG 0 = 0) (by decide +kernel) rfl (c_160 σ66 h67 p hp ((h68 _ _ (inW (by decide +kernel : TG 0 = 0) (by decide +kernel))).trans ((h48 _ _ (inW (by decide +kernel : TG 0 = 0) (by decide +kernel))).trans h_p)) sg ((h68 _ _ (inW hp (by decide +kernel))).trans ((h48 _ _ (inW hp (by decide +kernel))).trans h_sg)) (by omega)) (by decide) (by decide) (fun v75 σ76 h74 => ?_)
  obtain ⟨h77, h78, z80, rfl, h79⟩ := h74
  obtain rfl : σ66 = σ76 := Fr_nil h78
  refine En_Ps 2 (pc' := 45) (lv' := [(4, .int z63), (3, .ref a15), (0, .ref 0), (1, .int a), (2, .int b)]) (st' := [.int ((z80 ^^^ ((Int32.ofInt (-1))))), .int z63]) rfl ?_
  refine En_nam (fun z81 h82 => ?_)
  refine En_Ps 1 (pc' := 46) (lv' := [(4, .int z63), (3, .ref a15), (0, .ref 0), (1, .int a), (2, .int b)]) (st' := [.int ((z63 &&& z81))]) rfl ?_
  refine En_nam (fun z83 h84 => ?_)
  refine En_callS rfl rfl rfl rfl rfl rfl rfl rfl rfl (c_7bx σ66 h67 z83) (by decide) (by decide) (fun v86 σ87 h85 => ?_)
  obtain ⟨h88, h89, z91, rfl, h90⟩ := h85
  obtain rfl : σ66 = σ87 := Fr_nil h89
  exact En_ret (v := some (.int z91)) rfl rfl rfl ⟨h67, h73, z91, rfl, ⟨by omega, by omega, KN_again hK (PLA_B hP) t27 h52 (DRP_e h72 (by omega)) t16 t19 t22 (by omega) (by omega) (by omega) (by omega)⟩⟩
/-- DoorSchool.gainOf(III)I -/
abbrev P_129x (σ0 : SG) (Wv : Int → Int) (a : Int32) (b : Int32) (c : Int32) (p : Nat) (sg : Int32) : PO := fun v σ => WT σ ∧ Fr [(20, 2), (21, 0), (22, 0)] σ0 σ ∧ ∃ ret : Int32, v = some (.int ret) ∧ -ret.toInt - 63 ≤ 0 ∧ ret.toInt - 63 ≤ 0 ∧ (KN σ p Wv (act Wv) ∧ OUT σ0 σ p)
set_option maxRecDepth 10000 in
set_option maxHeartbeats 4000000 in
theorem c_129x {Wv : Int → Int} (σ0 : SG) (hσ0 : WT σ0) (a : Int32) (b : Int32) (c : Int32) (hl_a : 0 ≤ a.toInt) (hu_a : a.toInt ≤ 3) (hl_b : 0 ≤ b.toInt) (hu_b : b.toInt ≤ 15) (hl_c : 0 ≤ c.toInt) (hu_c : c.toInt ≤ 1) (p : Nat) (hp : TG p = 18) (h_p : (σ0 0)[9]? = some (.ref p)) (sg : Int32) (h_sg : (σ0 p)[1]? = some (.int sg)) (hp0 : -sg.toInt ≤ 0) (hP : PLA p) (hX : FXP σ0 p) (hK : KN σ0 p Wv (act Wv)) (hB : WFw Wv) (ha : a.toInt < Wv 2) : En 4 92 none mr_129 (P_129x σ0 Wv a b c p sg) 0 [(0, .ref 0), (1, .int a), (2, .int b), (3, .int c)] [] σ0 := by
  obtain ⟨hl_sg, hu_sg⟩ := WT_int hσ0 (g := 18) hp (by decide +kernel) (l := (-1)) (u := 4) (by decide +kernel) h_sg
  have hF0 : Fr [(20, 2), (21, 0), (22, 0)] σ0 σ0 := Fr_rfl
  have t1 : Wv (0) = sg.toInt := KN_v hK (Or.inl (by decide)) (by omega) (by omega) (by rw [lcO_lt (by decide) (by decide), Nat.add_zero]) rfl h_sg
  obtain ⟨z3, h2, h4, h5⟩ := WT_peekI hσ0 hp (by decide +kernel : FT 18 3 = (0, 0, 4)) (by decide +kernel)
  have t6 : Wv (2) = z3.toInt := KN_v hK (Or.inl (by decide)) (by omega) (by omega) (by rw [lcO_lt (by decide) (by decide), Nat.add_zero]) rfl h2
  refine En_Ps 1 (pc' := 1) (lv' := [(0, .ref 0), (1, .int a), (2, .int b), (3, .int c)]) (st' := [.ref 0]) rfl ?_
  refine En_getK (j := 9) h_p rfl rfl rfl (by decide +kernel : TG 0 = 0) (by decide +kernel) ?_
  refine En_getR (j := 4) (g' := 19) (u := 0) rfl rfl rfl hp (by decide +kernel) hσ0 (by decide +kernel) (fun a8 h7 ha8 => ?_)
  have t9 : a8 = p + 1 := ref_uniq h7 (FXP_fr hP hX hF0 (by decide +kernel)).1
  refine En_Ps 1 (pc' := 8) (lv' := [(0, .ref 0), (1, .int a), (2, .int b), (3, .int c)]) (st' := [.int a, .ref a8]) rfl ?_
  refine En_aald (g' := 28) (u := 0) rfl rfl ha8 (by decide +kernel) hσ0 (by omega) (lnI (by decide +kernel : LN _ = 4) (by omega)) (FTsgl (by decide +kernel)) (fun a11 h10 ha11 => ?_)
  have t12 : a11 = p + 10 + 4 * (a.toInt).toNat := DRe (d := a.toInt) (FXP_fr hP hX hF0 (by decide +kernel)) t9 h10 (by omega) (by omega)
  have t13 := lc_d (d := a.toInt) (by omega) (by omega)
  refine En_getR (j := 0) (g' := 20) (u := 0) rfl rfl rfl ha11 (by decide +kernel) hσ0 (by decide +kernel) (fun a15 h14 ha15 => ?_)
  have t16 : a15 = p + 11 + 4 * (a.toInt).toNat := DLc (d := a.toInt) (FXP_fr hP hX hF0 (by decide +kernel)) t12 h14 (by omega) (by omega)
  obtain ⟨a18, h17, ha18⟩ := WT_peekR (g := 20) (j := 0) (g' := 21) (u := 0) hσ0 ha15 (by decide +kernel) (by decide +kernel)
  have t19 : a18 = p + 12 + 4 * (a.toInt).toNat := DKk (d := a.toInt) (FXP_fr hP hX hF0 (by decide +kernel)) t16 h17 (by omega) (by omega)
  obtain ⟨a21, h20, ha21⟩ := WT_peekR (g := 20) (j := 1) (g' := 22) (u := 0) hσ0 ha15 (by decide +kernel) (by decide +kernel)
  have t22 : a21 = p + 13 + 4 * (a.toInt).toNat := DKo (d := a.toInt) (FXP_fr hP hX hF0 (by decide +kernel)) t16 h20 (by omega) (by omega)
  obtain ⟨z24, h23, h25, h26⟩ := WT_peekI hσ0 ha15 (by decide +kernel : FT 20 2 = (0, 0, 13)) (by decide +kernel)
  have t27 : Wv (12 + 4 * (a.toInt)) = z24.toInt := KN_v hK (Or.inr (Or.inl ⟨by omega, by omega, by omega⟩)) (by omega) (by omega) (by omega) (by omega) h23
  have h28 := hB.2.2.2.2.2.2 a.toInt (by omega) (by omega)
  have : z24.toInt ≤ 12 := by omega
  refine En_Ps 4 (pc' := 17) (lv' := [(4, .ref a15), (0, .ref 0), (1, .int a), (2, .int b), (3, .int c)]) (st' := [.int a, .ref 0, .ref 0]) rfl ?_
  refine En_callV rfl rfl rfl rfl rfl rfl rfl rfl (by decide +kernel : TG 0 = 0) (by decide +kernel) rfl (c_114 σ0 hσ0 a (geI rfl (by omega)) (leI rfl (by omega)) p hp h_p sg h_sg (by omega)) (by decide) (by decide) (fun v33 σ34 h32 => ?_)
  obtain ⟨h35, h36, z38, rfl, h37⟩ := h32
  obtain rfl : σ0 = σ34 := Fr_nil h36
  refine En_callV rfl rfl rfl rfl rfl rfl rfl rfl (by decide +kernel : TG 0 = 0) (by decide +kernel) rfl (c_156 σ0 hσ0 z38 p hp h_p sg h_sg (by omega)) (by decide) (by decide) (fun v40 σ41 h39 => ?_)
  obtain ⟨h42, h43, z45, rfl, h44⟩ := h39
  obtain rfl : σ0 = σ41 := Fr_nil h43
  refine En_Ps 4 (pc' := 29) (lv' := [(5, .int z45), (4, .ref a15), (0, .ref 0), (1, .int a), (2, .int b), (3, .int c)]) (st' := [.int c, .int b, .ref a15]) rfl ?_
  refine En_callV rfl rfl rfl rfl rfl rfl rfl rfl ha15 (by decide +kernel) rfl (c_31x σ0 hσ0 a15 ha15 b c (geI rfl (by omega)) (leI rfl (by omega)) (geI rfl (by omega)) (leI rfl (by omega)) a18 ha18 h17 a21 ha21 h20 z24 h23 (by omega)) (by decide) (by decide) (fun v47 σ48 h46 => ?_)
  obtain ⟨h49, h50, z52, h53, rfl, h51⟩ := h46
  have h54 := h51.2.2.2.2
  have h55 := Fr_trans hF0 h50 (by decide +kernel)
  refine En_Ps 3 (pc' := 35) (lv' := [(5, .int z45), (4, .ref a15), (0, .ref 0), (1, .int a), (2, .int b), (3, .int c)]) (st' := [.int a, .ref 0, .ref 0]) rfl ?_
  refine En_callV rfl rfl rfl rfl rfl rfl rfl rfl (by decide +kernel : TG 0 = 0) (by decide +kernel) rfl (c_114 σ48 h49 a (geI rfl (by omega)) (leI rfl (by omega)) p hp ((h50 _ _ (inW (by decide +kernel : TG 0 = 0) (by decide +kernel))).trans h_p) sg ((h50 _ _ (inW hp (by decide +kernel))).trans h_sg) (by omega)) (by decide) (by decide) (fun v60 σ61 h59 => ?_)
  obtain ⟨h62, h63, z65, rfl, h64⟩ := h59
  obtain rfl : σ48 = σ61 := Fr_nil h63
  refine En_callV rfl rfl rfl rfl rfl rfl rfl rfl (by decide +kernel : TG 0 = 0) (by decide +kernel) rfl (c_156 σ48 h49 z65 p hp ((h50 _ _ (inW (by decide +kernel : TG 0 = 0) (by decide +kernel))).trans h_p) sg ((h50 _ _ (inW hp (by decide +kernel))).trans h_sg) (by omega)) (by decide) (by decide) (fun v67 σ68 h66 => ?_)
  obtain ⟨h69, h70, z72, rfl, h71⟩ := h66
  obtain rfl : σ48 = σ68 := Fr_nil h70
  refine En_Ps 2 (pc' := 45) (lv' := [(6, .int z72), (5, .int z45), (4, .ref a15), (0, .ref 0), (1, .int a), (2, .int b), (3, .int c)]) (st' := [.ref a15]) rfl ?_
  refine En_callV rfl rfl rfl rfl rfl rfl rfl rfl ha15 (by decide +kernel) rfl (c_33x σ48 h49 a15 ha15 a18 ha18 ((h50 _ _ (inW ha15 (by decide +kernel))).trans h17) a21 ha21 ((h50 _ _ (inW ha15 (by decide +kernel))).trans h20) z52 h53 (by omega)) (by decide) (by decide) (fun v74 σ75 h73 => ?_)
  obtain ⟨h76, h77, z79, h80, rfl, h78⟩ := h73
  have h81 := h78.2.2.2.2.2.2
  have h82 := Fr_trans h55 h77 (by decide +kernel)
  refine En_Ps 3 (pc' := 53) (lv' := [(6, .int z72), (5, .int z45), (4, .ref a15), (0, .ref 0), (1, .int a), (2, .int b), (3, .int c)]) (st' := [.int ((z72 - z45))]) rfl ?_
  refine En_top (subI rfl rfl (by omega) (by omega)) (fun z83 h84 => ?_)
  exact En_ret (v := some (.int z83)) rfl rfl rfl ⟨h76, h82, z83, rfl, ⟨by omega, by omega, KN_again hK (PLA_B hP) t27 h54 (DRP_e h81 (by omega)) t16 t19 t22 (by omega) (by omega) (by omega) (by omega)⟩⟩
/-- DoorSchool.isLesson(III)Z -/
abbrev P_144x (σ0 : SG) (Wv : Int → Int) (a : Int32) (b : Int32) (c : Int32) (p : Nat) (sg : Int32) : PO := fun v σ => WT σ ∧ Fr [] σ0 σ ∧ ∃ ret : Int32, v = some (.int ret) ∧ -ret.toInt ≤ 0 ∧ ret.toInt - 1 ≤ 0 ∧ Imp (ret.toInt ≤ 0 ∧ -ret.toInt ≤ 0) (-a.toInt - 2147483648 ≤ 0 ∧ a.toInt - 2147483647 ≤ 0) ∧ Imp (ret.toInt - 1 ≤ 0 ∧ -ret.toInt + 1 ≤ 0) (-a.toInt ≤ 0 ∧ a.toInt - 3 ≤ 0 ∧ -b.toInt ≤ 0 ∧ b.toInt - 15 ≤ 0 ∧ -c.toInt ≤ 0 ∧ c.toInt - 1 ≤ 0) ∧ ((ret.toInt = 1 ∧ okL Wv a.toInt b.toInt c.toInt) ∨ (ret.toInt = 0 ∧ ¬ okL Wv a.toInt b.toInt c.toInt))
set_option maxRecDepth 10000 in
set_option maxHeartbeats 4000000 in
theorem c_144x {Wv : Int → Int} (σ0 : SG) (hσ0 : WT σ0) (a : Int32) (b : Int32) (c : Int32) (p : Nat) (hp : TG p = 18) (h_p : (σ0 0)[9]? = some (.ref p)) (sg : Int32) (h_sg : (σ0 p)[1]? = some (.int sg)) (hp0 : -sg.toInt ≤ 0) (hP : PLA p) (hX : FXP σ0 p) (hK : KN σ0 p Wv (act Wv)) : En 2 41 none mr_144 (P_144x σ0 Wv a b c p sg) 0 [(0, .ref 0), (1, .int a), (2, .int b), (3, .int c)] [] σ0 := by
  obtain ⟨hl_sg, hu_sg⟩ := WT_int hσ0 (g := 18) hp (by decide +kernel) (l := (-1)) (u := 4) (by decide +kernel) h_sg
  have hF0 : Fr [] σ0 σ0 := Fr_rfl
  have t1 : Wv (0) = sg.toInt := KN_v hK (Or.inl (by decide)) (by omega) (by omega) (by rw [lcO_lt (by decide) (by decide), Nat.add_zero]) rfl h_sg
  refine En_Ps 1 (pc' := 1) (lv' := [(0, .ref 0), (1, .int a), (2, .int b), (3, .int c)]) (st' := [.ref 0]) rfl ?_
  refine En_getK (j := 9) h_p rfl rfl rfl (by decide +kernel : TG 0 = 0) (by decide +kernel) ?_
  refine En_Ps 1 (pc' := 5) (lv' := [(0, .ref 0), (1, .int a), (2, .int b), (3, .int c)]) (st' := [.int a, .ref p]) rfl ?_
  obtain ⟨z3, h2, h4, h5⟩ := WT_peekI hσ0 hp (by decide +kernel : FT 18 3 = (0, 0, 4)) (by decide +kernel)
  have t6 : Wv (2) = z3.toInt := KN_v hK (Or.inl (by decide)) (by omega) (by omega) (by rw [lcO_lt (by decide) (by decide), Nat.add_zero]) rfl h2
  refine En_callV rfl rfl rfl rfl rfl rfl rfl rfl hp (by decide +kernel) rfl (c_47x σ0 hσ0 p hp a z3 h2) (by decide) (by decide) (fun v8 σ9 h7 => ?_)
  obtain ⟨h10, h11, z13, rfl, h12⟩ := h7
  obtain rfl : σ0 = σ9 := Fr_nil h11
  have h14 := Imp_m h12.2.2.1
  have h15 := Imp_m h12.2.2.2.1
  have h16 := Imp_m h12.2.2.2.2.1
  have h17 := Imp_m h12.2.2.2.2.2
  refine En_iEq _ rfl rfl (fun h18 => ?_) (fun h18 => ?_)
  · have h19 := Imp_m h12.2.2.2.2.1 (by omega)
    refine En_Ps 1 (pc' := 34) (lv' := [(0, .ref 0), (1, .int a), (2, .int b), (3, .int c)]) (st' := [.int ((Int32.ofInt 0))]) rfl ?_
    refine En_top (by decide : (Int32.ofInt 0).toInt = 0) (fun z20 h21 => ?_)
    exact En_ret (v := some (.int z20)) rfl rfl (retZ rfl rfl (by omega) (by omega)) ⟨hσ0, hF0, z20, rfl, ⟨by omega, by omega, fun _ => by omega, fun _ => by omega, Or.inr ⟨by omega, fun ⟨q1, q2, q3, q4, q5, q6, q7⟩ => by omega⟩⟩⟩
  · have h22 := Imp_m h12.2.2.1 (by omega)
    have h23 := Imp_m h12.2.2.2.1 (by omega)
    have h24 := Imp_m h12.2.2.2.2.2 (by omega)
    refine En_Ps 1 (pc' := 12) (lv' := [(0, .ref 0), (1, .int a), (2, .int b), (3, .int c)]) (st' := [.ref 0]) rfl ?_
    refine En_getK (j := 9) h_p rfl rfl rfl (by decide +kernel : TG 0 = 0) (by decide +kernel) ?_
    refine En_Ps 1 (pc' := 16) (lv' := [(0, .ref 0), (1, .int a), (2, .int b), (3, .int c)]) (st' := [.int b, .ref p]) rfl ?_
    obtain ⟨z26, h25, h27, h28⟩ := WT_peekI hσ0 hp (by decide +kernel : FT 18 0 = (0, 0, 1601)) (by decide +kernel)
    have t29 : Wv (7) = z26.toInt := KN_v hK (Or.inl (by decide)) (by omega) (by omega) (by rw [lcO_lt (by decide) (by decide), Nat.add_zero]) rfl h25
    refine En_callV rfl rfl rfl rfl rfl rfl rfl rfl hp (by decide +kernel) rfl (c_49x σ0 hσ0 p hp b z26 h25 sg h_sg (by omega)) (by decide) (by decide) (fun v31 σ32 h30 => ?_)
    obtain ⟨h33, h34, z36, rfl, h35⟩ := h30
    have h37 := h35.2.2.2
    obtain rfl : σ0 = σ32 := Fr_nil h34
    have h38 := Imp_m h35.2.2.1
    have h39 := h37
    have h40 : pI (Wv 0) = pI (sg.toInt) := by rw [t1]
    refine En_iEq _ rfl rfl (fun h41 => ?_) (fun h41 => ?_)
    · refine En_Ps 1 (pc' := 34) (lv' := [(0, .ref 0), (1, .int a), (2, .int b), (3, .int c)]) (st' := [.int ((Int32.ofInt 0))]) rfl ?_
      refine En_top (by decide : (Int32.ofInt 0).toInt = 0) (fun z42 h43 => ?_)
      exact En_ret (v := some (.int z42)) rfl rfl (retZ rfl rfl (by omega) (by omega)) ⟨hσ0, hF0, z42, rfl, ⟨by omega, by omega, fun _ => by omega, fun _ => by omega, Or.inr ⟨by omega, fun ⟨q1, q2, q3, q4, q5, q6, q7⟩ => by omega⟩⟩⟩
    · have h44 := Imp_m h35.2.2.1 (by omega)
      refine En_Ps 1 (pc' := 23) (lv' := [(0, .ref 0), (1, .int a), (2, .int b), (3, .int c)]) (st' := [.int c]) rfl ?_
      refine En_callS rfl rfl rfl rfl rfl rfl rfl rfl rfl (c_149x σ0 hσ0 c) (by decide) (by decide) (fun v46 σ47 h45 => ?_)
      obtain ⟨h48, h49, z51, rfl, h50⟩ := h45
      have h52 := h50.2.2.2
      obtain rfl : σ0 = σ47 := Fr_nil h49
      have h53 := Imp_m h50.2.2.1
      refine En_iEq _ rfl rfl (fun h54 => ?_) (fun h54 => ?_)
      · refine En_Ps 1 (pc' := 34) (lv' := [(0, .ref 0), (1, .int a), (2, .int b), (3, .int c)]) (st' := [.int ((Int32.ofInt 0))]) rfl ?_
        refine En_top (by decide : (Int32.ofInt 0).toInt = 0) (fun z55 h56 => ?_)
        exact En_ret (v := some (.int z55)) rfl rfl (retZ rfl rfl (by omega) (by omega)) ⟨hσ0, hF0, z55, rfl, ⟨by omega, by omega, fun _ => by omega, fun _ => by omega, Or.inr ⟨by omega, fun ⟨q1, q2, q3, q4, q5, q6, q7⟩ => by omega⟩⟩⟩
      · have h57 := Imp_m h50.2.2.1 (by omega)
        refine En_Ps 2 (pc' := 34) (lv' := [(0, .ref 0), (1, .int a), (2, .int b), (3, .int c)]) (st' := [.int ((Int32.ofInt 1))]) rfl ?_
        refine En_top (by decide : (Int32.ofInt 1).toInt = 1) (fun z58 h59 => ?_)
        exact En_ret (v := some (.int z58)) rfl rfl (retZ rfl rfl (by omega) (by omega)) ⟨hσ0, hF0, z58, rfl, ⟨by omega, by omega, fun _ => by omega, fun _ => by omega, Or.inl ⟨by omega, by omega, by omega, by omega, by omega, by omega, by omega, by omega⟩⟩⟩
/-- DoorSchool.gains(III)I -/
abbrev P_130x (σ0 : SG) (Wv : Int → Int) (a : Int32) (b : Int32) (c : Int32) (p : Nat) (sg : Int32) : PO := fun v σ => WT σ ∧ Fr [(20, 2), (21, 0), (22, 0)] σ0 σ ∧ ∃ ret : Int32, v = some (.int ret) ∧ -ret.toInt - 1000 ≤ 0 ∧ ret.toInt - 63 ≤ 0 ∧ (KN σ p Wv (act Wv) ∧ OUT σ0 σ p)
set_option maxRecDepth 10000 in
set_option maxHeartbeats 4000000 in
theorem c_130x {Wv : Int → Int} (σ0 : SG) (hσ0 : WT σ0) (a : Int32) (b : Int32) (c : Int32) (p : Nat) (hp : TG p = 18) (h_p : (σ0 0)[9]? = some (.ref p)) (sg : Int32) (h_sg : (σ0 p)[1]? = some (.int sg)) (hp0 : -sg.toInt ≤ 0) (hP : PLA p) (hX : FXP σ0 p) (hK : KN σ0 p Wv (act Wv)) (hB : WFw Wv) : En 5 118 none mr_130 (P_130x σ0 Wv a b c p sg) 0 [(0, .ref 0), (1, .int a), (2, .int b), (3, .int c)] [] σ0 := by
  obtain ⟨hl_sg, hu_sg⟩ := WT_int hσ0 (g := 18) hp (by decide +kernel) (l := (-1)) (u := 4) (by decide +kernel) h_sg
  have hF0 : Fr [(20, 2), (21, 0), (22, 0)] σ0 σ0 := Fr_rfl
  have t1 : Wv (0) = sg.toInt := KN_v hK (Or.inl (by decide)) (by omega) (by omega) (by rw [lcO_lt (by decide) (by decide), Nat.add_zero]) rfl h_sg
  obtain ⟨z3, h2, h4, h5⟩ := WT_peekI hσ0 hp (by decide +kernel : FT 18 3 = (0, 0, 4)) (by decide +kernel)
  have t6 : Wv (2) = z3.toInt := KN_v hK (Or.inl (by decide)) (by omega) (by omega) (by rw [lcO_lt (by decide) (by decide), Nat.add_zero]) rfl h2
  refine En_Ps 4 (pc' := 4) (lv' := [(0, .ref 0), (1, .int a), (2, .int b), (3, .int c)]) (st' := [.int c, .int b, .int a, .ref 0]) rfl ?_
  refine En_callV rfl rfl rfl rfl rfl rfl rfl rfl (by decide +kernel : TG 0 = 0) (by decide +kernel) rfl (c_144x σ0 hσ0 a b c p hp h_p sg h_sg (by omega) hP (FXP_fr hP hX hF0 (by decide +kernel)) hK) (by decide) (by decide) (fun v8 σ9 h7 => ?_)
  obtain ⟨h10, h11, z13, rfl, h12⟩ := h7
  have h14 := h12.2.2.2.2
  obtain rfl : σ0 = σ9 := Fr_nil h11
  have h15 := h14
  refine En_iEq _ rfl rfl (fun h16 => ?_) (fun h16 => ?_)
  · have h17 := Imp_m h12.2.2.1 (by omega)
    refine En_Ps 1 (pc' := 23) (lv' := [(0, .ref 0), (1, .int a), (2, .int b), (3, .int c)]) (st' := [.int (((Int16.ofInt (-1000)).toInt32))]) rfl ?_
    refine En_top (by decide : ((Int16.ofInt (-1000)).toInt32).toInt = -1000) (fun z18 h19 => ?_)
    exact En_ret (v := some (.int z18)) rfl rfl rfl ⟨hσ0, hF0, z18, rfl, ⟨by omega, by omega, ⟨hK, OUT_0⟩⟩⟩
  · have h20 := Imp_m h12.2.2.2.1 (by omega)
    have h21 : okL Wv a.toInt b.toInt c.toInt := by rcases h15 with q | q; exact q.2; exfalso; omega
    have := h21.1
    have := h21.2.1
    refine En_Ps 4 (pc' := 14) (lv' := [(0, .ref 0), (1, .int a), (2, .int b), (3, .int c)]) (st' := [.int c, .int b, .int a, .ref 0]) rfl ?_
    refine En_callV rfl rfl rfl rfl rfl rfl rfl rfl (by decide +kernel : TG 0 = 0) (by decide +kernel) rfl (c_129x σ0 hσ0 a b c (geI rfl (by omega)) (leI rfl (by omega)) (geI rfl (by omega)) (leI rfl (by omega)) (geI rfl (by omega)) (leI rfl (by omega)) p hp h_p sg h_sg (by omega) hP (FXP_fr hP hX hF0 (by decide +kernel)) hK hB (by omega)) (by decide) (by decide) (fun v23 σ24 h22 => ?_)
    obtain ⟨h25, h26, z28, rfl, h27⟩ := h22
    have h29 := h27.2.2
    have h30 := Fr_trans hF0 h26 (by decide +kernel)
    have h31 := h29.2
    refine En_Ps 1 (pc' := 23) (lv' := [(0, .ref 0), (1, .int a), (2, .int b), (3, .int c)]) (st' := [.int z28]) rfl ?_
    exact En_ret (v := some (.int z28)) rfl rfl rfl ⟨h25, h30, z28, rfl, ⟨by omega, by omega, ⟨h29.1, h31⟩⟩⟩
/-- DoorSchool.harden(I)I -/
abbrev P_135x (σ0 : SG) (Wv : Int → Int) (a : Int32) (p : Nat) (sg : Int32) : PO := fun v σ => WT σ ∧ Fr [(20, 2), (21, 0), (22, 0)] σ0 σ ∧ ∃ ret : Int32, v = some (.int ret) ∧ -ret.toInt - 2 ≤ 0 ∧ ret.toInt - 15 ≤ 0 ∧ Imp (-ret.toInt - 1 ≤ 0) (-a.toInt ≤ 0 ∧ a.toInt - 3 ≤ 0) ∧ Imp (-ret.toInt ≤ 0) (ret.toInt - 15 ≤ 0) ∧ Imp (-ret.toInt - 1 ≤ 0) (a.toInt - Wv 2 + 1 ≤ 0) ∧ (KN σ p Wv (act Wv) ∧ OUT σ0 σ p)
set_option maxRecDepth 10000 in
set_option maxHeartbeats 4000000 in
theorem c_135x {Wv : Int → Int} (σ0 : SG) (hσ0 : WT σ0) (a : Int32) (p : Nat) (hp : TG p = 18) (h_p : (σ0 0)[9]? = some (.ref p)) (sg : Int32) (h_sg : (σ0 p)[1]? = some (.int sg)) (hp0 : -sg.toInt ≤ 0) (hP : PLA p) (hX : FXP σ0 p) (hK : KN σ0 p Wv (act Wv)) (hB : WFw Wv) : En 5 116 none mr_135 (P_135x σ0 Wv a p sg) 0 [(0, .ref 0), (1, .int a)] [] σ0 := by
  obtain ⟨hl_sg, hu_sg⟩ := WT_int hσ0 (g := 18) hp (by decide +kernel) (l := (-1)) (u := 4) (by decide +kernel) h_sg
  have hF0 : Fr [(20, 2), (21, 0), (22, 0)] σ0 σ0 := Fr_rfl
  have t1 : Wv (0) = sg.toInt := KN_v hK (Or.inl (by decide)) (by omega) (by omega) (by rw [lcO_lt (by decide) (by decide), Nat.add_zero]) rfl h_sg
  obtain ⟨z3, h2, h4, h5⟩ := WT_peekI hσ0 hp (by decide +kernel : FT 18 3 = (0, 0, 4)) (by decide +kernel)
  have t6 : Wv (2) = z3.toInt := KN_v hK (Or.inl (by decide)) (by omega) (by omega) (by rw [lcO_lt (by decide) (by decide), Nat.add_zero]) rfl h2
  refine En_Ps 1 (pc' := 1) (lv' := [(0, .ref 0), (1, .int a)]) (st' := [.ref 0]) rfl ?_
  refine En_getK (j := 9) h_p rfl rfl rfl (by decide +kernel : TG 0 = 0) (by decide +kernel) ?_
  refine En_Ps 1 (pc' := 5) (lv' := [(0, .ref 0), (1, .int a)]) (st' := [.int a, .ref p]) rfl ?_
  refine En_callV rfl rfl rfl rfl rfl rfl rfl rfl hp (by decide +kernel) rfl (c_47x σ0 hσ0 p hp a z3 h2) (by decide) (by decide) (fun v8 σ9 h7 => ?_)
  obtain ⟨h10, h11, z13, rfl, h12⟩ := h7
  obtain rfl : σ0 = σ9 := Fr_nil h11
  have h14 := Imp_m h12.2.2.1
  have h15 := Imp_m h12.2.2.2.1
  have h16 := Imp_m h12.2.2.2.2.1
  have h17 := Imp_m h12.2.2.2.2.2
  refine En_iNe _ rfl rfl (fun h18 => ?_) (fun h18 => ?_)
  · have h19 := Imp_m h12.2.2.1 (by omega)
    have h20 := Imp_m h12.2.2.2.1 (by omega)
    have h21 := Imp_m h12.2.2.2.2.2 (by omega)
    refine En_Ps 4 (pc' := 18) (lv' := [(2, .int ((Int32.ofInt (-1)))), (0, .ref 0), (1, .int a)]) (st' := [.int a, .ref 0]) rfl ?_
    refine En_callV rfl rfl rfl rfl rfl rfl rfl rfl (by decide +kernel : TG 0 = 0) (by decide +kernel) rfl (c_126 σ0 hσ0 a (geI rfl (by omega)) (leI rfl (by omega)) p hp h_p sg h_sg (by omega)) (by decide) (by decide) (fun v23 σ24 h22 => ?_)
    obtain ⟨h25, h26, z28, rfl, h27⟩ := h22
    obtain rfl : σ0 = σ24 := Fr_nil h26
    refine En_callS rfl rfl rfl rfl rfl rfl rfl rfl rfl (c_7bx σ0 hσ0 z28) (by decide) (by decide) (fun v30 σ31 h29 => ?_)
    obtain ⟨h32, h33, z35, rfl, h34⟩ := h29
    obtain rfl : σ0 = σ31 := Fr_nil h33
    refine En_Ps 3 (pc' := 28) (lv' := [(4, .int ((Int32.ofInt 0))), (3, .int z35), (2, .int ((Int32.ofInt (-1)))), (0, .ref 0), (1, .int a)]) (st' := []) rfl ?_
    have key28 : ∀ (n28 : Nat) (σ39 : SG) (y36 : Int32) (y37 : Int32) (y38 : Int32), WT σ39 → Fr [(20, 2), (21, 0), (22, 0)] σ0 σ39 → (σ39 0)[9]? = some (.ref p) → (σ39 p)[1]? = some (.int sg) → (σ39 p)[3]? = some (.int z3) → (-1) ≤ y36.toInt → y36.toInt ≤ 15 → 0 ≤ y37.toInt → y37.toInt ≤ 63 → 0 ≤ y38.toInt → y38.toInt ≤ 16 → y36.toInt - y38.toInt + 1 ≤ 0 → -y38.toInt + 16 < (n28 : Int) → KN σ39 p Wv (act Wv) → OUT σ0 σ39 p → En 5 116 none mr_135 (P_135x σ0 Wv a p sg) 28 [(0, .ref 0), (1, .int a), (2, .int y36), (3, .int y37), (4, .int y38)] [] σ39 := by
      intro n28
      induction n28 with
      | zero =>
        intro σ39 y36 y37 y38 h40 h41 h42 h43 h44 h45 h46 h47 h48 h49 h50 h51 h52 h53 h54
        exfalso; omega
      | succ n28 ih28 =>
        intro σ39 y36 y37 y38 h40 h41 h42 h43 h44 h45 h46 h47 h48 h49 h50 h51 h52 h53 h54
        refine En_Ps 2 (pc' := 31) (lv' := [(0, .ref 0), (1, .int a), (2, .int y36), (3, .int y37), (4, .int y38)]) (st' := [.ref 0, .int y38]) rfl ?_
        refine En_getK (j := 9) h42 rfl rfl rfl (by decide +kernel : TG 0 = 0) (by decide +kernel) ?_
        refine En_callV rfl rfl rfl rfl rfl rfl rfl rfl hp (by decide +kernel) rfl (c_51x σ39 h40 p hp sg h43 (by omega)) (by decide) (by decide) (fun v56 σ57 h55 => ?_)
        obtain ⟨h58, h59, z61, rfl, h60⟩ := h55
        have h62 := h60.2.2
        obtain rfl : σ39 = σ57 := Fr_nil h59
        refine En_icGe _ rfl rfl rfl (fun h63 => ?_) (fun h63 => ?_)
        · refine En_Ps 1 (pc' := 68) (lv' := [(0, .ref 0), (1, .int a), (2, .int y36), (3, .int y37), (4, .int y38)]) (st' := [.int y36]) rfl ?_
          exact En_ret (v := some (.int y36)) rfl rfl rfl ⟨h40, h41, y36, rfl, ⟨by omega, by omega, fun _ => by omega, fun _ => by omega, fun _ => by omega, ⟨h53, h54⟩⟩⟩
        · refine En_Ps 3 (pc' := 44) (lv' := [(0, .ref 0), (1, .int a), (2, .int y36), (3, .int y37), (4, .int y38)]) (st' := [.int y38, .int a, .ref 0]) rfl ?_
          refine En_callV rfl rfl rfl rfl rfl rfl rfl rfl (by decide +kernel : TG 0 = 0) (by decide +kernel) rfl (c_127x σ39 h40 a y38 (geI rfl (by omega)) (leI rfl (by omega)) (geI rfl (by omega)) (leI rfl (by omega)) p hp h42 sg h43 (by omega) hP (FXP_fr hP hX h41 (by decide +kernel)) h53 hB (by omega)) (by decide) (by decide) (fun v65 σ66 h64 => ?_)
          obtain ⟨h67, h68, z70, rfl, h69⟩ := h64
          have h71 := h69.2.2
          have h72 := Fr_trans h41 h68 (by decide +kernel)
          have h73 := OUT_tr h54 h71.2
          refine En_Ps 3 (pc' := 52) (lv' := [(5, .int z70), (0, .ref 0), (1, .int a), (2, .int y36), (3, .int y37), (4, .int y38)]) (st' := [.int y37, .int z70]) rfl ?_
          refine En_icGe _ rfl rfl rfl (fun h74 => ?_) (fun h74 => ?_)
          · refine En_Ps 1 (pc' := 64) (lv' := [(4, .int ((y38 + Int32.ofInt 1))), (5, .int z70), (0, .ref 0), (1, .int a), (2, .int y36), (3, .int y37)]) (st' := []) rfl ?_
            refine En_lv1 (addI rfl (by decide : (Int32.ofInt 1).toInt = 1) (by omega) (by omega)) (fun z75 h76 => ?_)
            refine En_Ps 1 (pc' := 28) (lv' := [(4, .int z75), (5, .int z70), (0, .ref 0), (1, .int a), (2, .int y36), (3, .int y37)]) (st' := []) rfl ?_
            refine En_lv (lv := [(0, .ref 0), (1, .int a), (2, .int y36), (3, .int y37), (4, .int z75)]) ⟨rfl, rfl, rfl, rfl, rfl, trivial⟩ ?_
            exact ih28 σ66 y36 y37 z75 h67 h72 ((h68 _ _ (inW (by decide +kernel : TG 0 = 0) (by decide +kernel))).trans h42) ((h68 _ _ (inW hp (by decide +kernel))).trans h43) ((h68 _ _ (inW hp (by decide +kernel))).trans h44) (by omega) (by omega) (by omega) (by omega) (by omega) (by omega) (by omega) (by omega) (h71.1) (h73)
          · refine En_Ps 5 (pc' := 64) (lv' := [(4, .int ((y38 + Int32.ofInt 1))), (2, .int y38), (3, .int z70), (5, .int z70), (0, .ref 0), (1, .int a)]) (st' := []) rfl ?_
            refine En_lv1 (addI rfl (by decide : (Int32.ofInt 1).toInt = 1) (by omega) (by omega)) (fun z77 h78 => ?_)
            refine En_Ps 1 (pc' := 28) (lv' := [(4, .int z77), (2, .int y38), (3, .int z70), (5, .int z70), (0, .ref 0), (1, .int a)]) (st' := []) rfl ?_
            refine En_lv (lv := [(0, .ref 0), (1, .int a), (2, .int y38), (3, .int z70), (4, .int z77)]) ⟨rfl, rfl, rfl, rfl, rfl, trivial⟩ ?_
            exact ih28 σ66 y38 z70 z77 h67 h72 ((h68 _ _ (inW (by decide +kernel : TG 0 = 0) (by decide +kernel))).trans h42) ((h68 _ _ (inW hp (by decide +kernel))).trans h43) ((h68 _ _ (inW hp (by decide +kernel))).trans h44) (by omega) (by omega) (by omega) (by omega) (by omega) (by omega) (by omega) (by omega) (h71.1) (h73)
    have := (by decide : (Int32.ofInt (-1)).toInt = -1)
    have := (by decide : (Int32.ofInt 0).toInt = 0)
    refine En_lv (lv := [(0, .ref 0), (1, .int a), (2, .int ((Int32.ofInt (-1)))), (3, .int z35), (4, .int ((Int32.ofInt 0)))]) ⟨rfl, rfl, rfl, rfl, rfl, trivial⟩ ?_
    exact key28 (Int.toNat (16) + 1) σ0 ((Int32.ofInt (-1))) z35 ((Int32.ofInt 0)) hσ0 hF0 h_p h_sg h2 (by omega) (by omega) (by omega) (by omega) (by omega) (by omega) (by omega) (by omega) (hK) (OUT_0)
  · have h79 := Imp_m h12.2.2.2.2.1 (by omega)
    refine En_Ps 1 (pc' := 13) (lv' := [(0, .ref 0), (1, .int a)]) (st' := [.int (((Int8.ofInt (-2)).toInt32))]) rfl ?_
    refine En_top (by decide : ((Int8.ofInt (-2)).toInt32).toInt = -2) (fun z80 h81 => ?_)
    exact En_ret (v := some (.int z80)) rfl rfl rfl ⟨hσ0, hF0, z80, rfl, ⟨by omega, by omega, fun _ => by omega, fun _ => by omega, fun _ => by omega, ⟨hK, OUT_0⟩⟩⟩

