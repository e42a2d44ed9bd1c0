/-- DoorSchool.deeds(I)I -/
abbrev P_112x (σ0 : SG) (Wv : Int → Int) (a : Int32) (p : Nat) (sg : Int32) : PO := fun v σ => WT σ ∧ Fr [] σ0 σ ∧ ∃ ret : Int32, v = some (.int ret) ∧ -ret.toInt - 2 ≤ 0 ∧ ret.toInt - 65535 ≤ 0 ∧ ret.toInt = dsR Wv a.toInt
set_option maxRecDepth 10000 in
set_option maxHeartbeats 4000000 in
theorem c_112x {Wv : Int → Int} (σ0 : SG) (hσ0 : WT σ0) (a : Int32) (p : Nat) (hp : TG p = 18) (h_p : (σ0 0)[9]? = some (.ref p)) (sg : Int32) (h_sg : (σ0 p)[1]? = some (.int sg)) (hp0 : -sg.toInt ≤ 0) (hP : PLA p) (hX : FXP σ0 p) (hK : KN σ0 p Wv (act Wv)) (hB : WFw Wv) (hT : TWN Wv) (hQ : 0 < Wv 7 → RULx σ0 (Wv 0)) (hq : QX Wv) : En 4 92 none mr_112 (P_112x σ0 Wv a p sg) 0 [(0, .ref 0), (1, .int a)] [] σ0 := by
  obtain ⟨hl_sg, hu_sg⟩ := WT_int hσ0 (g := 18) hp (by decide +kernel) (l := (-1)) (u := 4) (by decide +kernel) h_sg
  have hF0 : Fr [] σ0 σ0 := Fr_rfl
  have t1 : Wv (0) = sg.toInt := KN_v hK (Or.inl (by decide)) (by omega) (by omega) (by rw [lcO_lt (by decide) (by decide), Nat.add_zero]) rfl h_sg
  obtain ⟨z3, h2, h4, h5⟩ := WT_peekI hσ0 hp (by decide +kernel : FT 18 3 = (0, 0, 4)) (by decide +kernel)
  have t6 : Wv (2) = z3.toInt := KN_v hK (Or.inl (by decide)) (by omega) (by omega) (by rw [lcO_lt (by decide) (by decide), Nat.add_zero]) rfl h2
  have h7 := hB.2.2.1
  refine En_Ps 1 (pc' := 1) (lv' := [(0, .ref 0), (1, .int a)]) (st' := [.ref 0]) rfl ?_
  refine En_getK (j := 9) h_p rfl rfl rfl (by decide +kernel : TG 0 = 0) (by decide +kernel) ?_
  refine En_Ps 1 (pc' := 5) (lv' := [(0, .ref 0), (1, .int a)]) (st' := [.int a, .ref p]) rfl ?_
  refine En_callV rfl rfl rfl rfl rfl rfl rfl rfl hp (by decide +kernel) rfl (c_47x σ0 hσ0 p hp a z3 h2) (by decide) (by decide) (fun v9 σ10 h8 => ?_)
  obtain ⟨h11, h12, z14, rfl, h13⟩ := h8
  obtain rfl : σ0 = σ10 := Fr_nil h12
  refine En_iEq _ rfl rfl (fun h15 => ?_) (fun h15 => ?_)
  · have h16 := Imp_m h13.2.2.2.2.1 (by omega)
    refine En_Ps 1 (pc' := 21) (lv' := [(0, .ref 0), (1, .int a)]) (st' := [.int (((Int8.ofInt (-2)).toInt32))]) rfl ?_
    refine En_top (by decide : ((Int8.ofInt (-2)).toInt32).toInt = -2) (fun z17 h18 => ?_)
    exact En_ret (v := some (.int z17)) rfl rfl rfl ⟨hσ0, hF0, z17, rfl, ⟨by omega, by omega, dsR_n (by omega) (by omega)⟩⟩
  · have h19 := Imp_m h13.2.2.1 (by omega)
    have h20 := Imp_m h13.2.2.2.1 (by omega)
    have h21 := Imp_m h13.2.2.2.2.2 (by omega)
    refine En_Ps 2 (pc' := 13) (lv' := [(0, .ref 0), (1, .int a)]) (st' := [.int a, .ref 0]) rfl ?_
    refine En_callV rfl rfl rfl rfl rfl rfl rfl rfl (by decide +kernel : TG 0 = 0) (by decide +kernel) rfl (c_114x σ0 hσ0 a (geI rfl (by omega)) (leI rfl (by omega)) p hp h_p sg h_sg (by omega) hP (FXP_fr hP hX hF0 (by decide +kernel)) hK hB hT (by omega) (hQ (hq (by omega)))) (by decide) (by decide) (fun v23 σ24 h22 => ?_)
    obtain ⟨h25, h26, z28, rfl, h27⟩ := h22
    have h29 := h27.2.2
    obtain rfl : σ0 = σ24 := Fr_nil h26
    refine En_Ps 1 (pc' := 21) (lv' := [(0, .ref 0), (1, .int a)]) (st' := [.int z28]) rfl ?_
    exact En_ret (v := some (.int z28)) rfl rfl rfl ⟨hσ0, hF0, z28, rfl, ⟨by omega, by omega, dsR_y (by omega) (by omega) h29⟩⟩
/-- DoorSchool.does(II)I -/
abbrev P_113x (σ0 : SG) (Wv : Int → Int) (a : Int32) (b : Int32) (p : Nat) (sg : Int32) : PO := fun v σ => WT σ ∧ Fr [] σ0 σ ∧ ∃ ret : Int32, v = some (.int ret) ∧ -ret.toInt - 2 ≤ 0 ∧ ret.toInt - 65535 ≤ 0 ∧ ret.toInt = dfR Wv a.toInt b.toInt
set_option maxRecDepth 10000 in
set_option maxHeartbeats 4000000 in
theorem c_113x {Wv : Int → Int} (σ0 : SG) (hσ0 : WT σ0) (a : Int32) (b : Int32) (p : Nat) (hp : TG p = 18) (h_p : (σ0 0)[9]? = some (.ref p)) (sg : Int32) (h_sg : (σ0 p)[1]? = some (.int sg)) (hp0 : -sg.toInt ≤ 0) (hP : PLA p) (hX : FXP σ0 p) (hK : KN σ0 p Wv (act Wv)) (hB : WFw Wv) (hT : TWN Wv) (hQ : 0 < Wv 7 → RULx σ0 (Wv 0)) (hq : QX Wv) : En 3 63 none mr_113 (P_113x σ0 Wv a b p sg) 0 [(0, .ref 0), (1, .int a), (2, .int b)] [] σ0 := by
  obtain ⟨hl_sg, hu_sg⟩ := WT_int hσ0 (g := 18) hp (by decide +kernel) (l := (-1)) (u := 4) (by decide +kernel) h_sg
  have hF0 : Fr [] σ0 σ0 := Fr_rfl
  have t1 : Wv (0) = sg.toInt := KN_v hK (Or.inl (by decide)) (by omega) (by omega) (by rw [lcO_lt (by decide) (by decide), Nat.add_zero]) rfl h_sg
  obtain ⟨z3, h2, h4, h5⟩ := WT_peekI hσ0 hp (by decide +kernel : FT 18 3 = (0, 0, 4)) (by decide +kernel)
  have t6 : Wv (2) = z3.toInt := KN_v hK (Or.inl (by decide)) (by omega) (by omega) (by rw [lcO_lt (by decide) (by decide), Nat.add_zero]) rfl h2
  have h7 := hB.2.2.1
  have h8 := hB.1
  have h9 := hB.2.1
  refine En_Ps 1 (pc' := 1) (lv' := [(0, .ref 0), (1, .int a), (2, .int b)]) (st' := [.ref 0]) rfl ?_
  refine En_getK (j := 9) h_p rfl rfl rfl (by decide +kernel : TG 0 = 0) (by decide +kernel) ?_
  refine En_Ps 2 (pc' := 6) (lv' := [(0, .ref 0), (1, .int a), (2, .int b)]) (st' := [.int b, .int a, .ref p]) rfl ?_
  obtain ⟨z11, h10, h12, h13⟩ := WT_peekI hσ0 hp (by decide +kernel : FT 18 0 = (0, 0, 1601)) (by decide +kernel)
  have t14 : Wv (7) = z11.toInt := KN_v hK (Or.inl (by decide)) (by omega) (by omega) (by rw [lcO_lt (by decide) (by decide), Nat.add_zero]) rfl h10
  refine En_callV rfl rfl rfl rfl rfl rfl rfl rfl hp (by decide +kernel) rfl (c_50x σ0 hσ0 p hp a b z11 h10 sg h_sg (by omega)) (by decide) (by decide) (fun v16 σ17 h15 => ?_)
  obtain ⟨h18, h19, z21, rfl, h20⟩ := h15
  have h22 := h20.2.2.2
  obtain rfl : σ0 = σ17 := Fr_nil h19
  have h23 := h22
  have h24 : pI (Wv 0) = pI (sg.toInt) := by rw [t1]
  refine En_iEq _ rfl rfl (fun h25 => ?_) (fun h25 => ?_)
  · refine En_Ps 1 (pc' := 26) (lv' := [(0, .ref 0), (1, .int a), (2, .int b)]) (st' := [.int (((Int8.ofInt (-2)).toInt32))]) rfl ?_
    refine En_top (by decide : ((Int8.ofInt (-2)).toInt32).toInt = -2) (fun z26 h27 => ?_)
    exact En_ret (v := some (.int z26)) rfl rfl rfl ⟨hσ0, hF0, z26, rfl, ⟨by omega, by omega, dfR_n (fun ⟨q1, q2, q3, q4, q5, q6⟩ => by omega) (by omega)⟩⟩
  · have h28 := Imp_m h20.2.2.1 (by omega)
    have h29 := pI_rng (s := Wv 0) (by omega) (by omega)
    have h30 : 0 ≤ a.toInt ∧ a.toInt ≤ 15 := by omega
    have h31 : 0 ≤ b.toInt ∧ b.toInt ≤ 15 := by omega
    obtain ⟨z33, h32, h34, h35⟩ := WT_peekI hσ0 (by decide +kernel : TG 4 = 4) (by decide +kernel : FT 4 0 = (0, 0, 16)) (by decide +kernel)
    have h36 : z33.toInt = pI (Wv 0) := (ci_at (j := 0) h32 rfl).symm.trans (hQ (by omega)).1
    refine En_Ps 1 (pc' := 13) (lv' := [(0, .ref 0), (1, .int a), (2, .int b)]) (st' := [.ref 0]) rfl ?_
    refine En_getU (j := 2) (u := 4) (g' := 4) (q := 0) rfl rfl rfl (by decide +kernel : TG 0 = 0) (by decide +kernel) hσ0 (by decide +kernel) (by decide +kernel) (fun h37 => ?_)
    refine En_Ps 2 (pc' := 18) (lv' := [(0, .ref 0), (1, .int a), (2, .int b)]) (st' := [.int b, .int a, .ref 4]) rfl ?_
    refine En_callV rfl rfl rfl rfl rfl rfl rfl rfl (by decide +kernel : TG 4 = 4) (by decide +kernel) rfl (c_77ax σ0 hσ0 a b (geI rfl (by omega)) (leI rfl (by omega)) z33 h32) (by decide) (by decide) (fun v40 σ41 h39 => ?_)
    obtain ⟨h42, h43, z45, rfl, h44⟩ := h39
    have h46 := h44.2.2
    obtain rfl : σ0 = σ41 := Fr_nil h43
    refine En_Ps 1 (pc' := 26) (lv' := [(0, .ref 0), (1, .int a), (2, .int b)]) (st' := [.int z45]) rfl ?_
    exact En_ret (v := some (.int z45)) rfl rfl rfl ⟨hσ0, hF0, z45, rfl, ⟨by omega, by omega, dfR_y ⟨by omega, by omega, by omega, by omega, by omega, by omega⟩ h36 h46⟩⟩
/-- DoorSchool.door(II)I -/
abbrev P_116x (σ0 : SG) (Wv : Int → Int) (a : Int32) (b : Int32) (p : Nat) (sg : Int32) : PO := fun v σ => WT σ ∧ Fr [] σ0 σ ∧ ∃ ret : Int32, v = some (.int ret) ∧ -ret.toInt - 2 ≤ 0 ∧ ret.toInt - 50 ≤ 0 ∧ ret.toInt = doR Wv a.toInt b.toInt
set_option maxRecDepth 10000 in
set_option maxHeartbeats 4000000 in
theorem c_116x {Wv : Int → Int} (σ0 : SG) (hσ0 : WT σ0) (a : Int32) (b : Int32) (p : Nat) (hp : TG p = 18) (h_p : (σ0 0)[9]? = some (.ref p)) (sg : Int32) (h_sg : (σ0 p)[1]? = some (.int sg)) (hp0 : -sg.toInt ≤ 0) (hP : PLA p) (hX : FXP σ0 p) (hK : KN σ0 p Wv (act Wv)) : En 1 21 none mr_116 (P_116x σ0 Wv a b p sg) 0 [(0, .ref 0), (1, .int a), (2, .int b)] [] σ0 := by
  obtain ⟨hl_sg, hu_sg⟩ := WT_int hσ0 (g := 18) hp (by decide +kernel) (l := (-1)) (u := 4) (by decide +kernel) h_sg
  have hF0 : Fr [] σ0 σ0 := Fr_rfl
  have t1 : Wv (0) = sg.toInt := KN_v hK (Or.inl (by decide)) (by omega) (by omega) (by rw [lcO_lt (by decide) (by decide), Nat.add_zero]) rfl h_sg
  refine En_Ps 1 (pc' := 1) (lv' := [(0, .ref 0), (1, .int a), (2, .int b)]) (st' := [.ref 0]) rfl ?_
  refine En_getK (j := 9) h_p rfl rfl rfl (by decide +kernel : TG 0 = 0) (by decide +kernel) ?_
  refine En_Ps 1 (pc' := 5) (lv' := [(0, .ref 0), (1, .int a), (2, .int b)]) (st' := [.int a, .ref p]) rfl ?_
  obtain ⟨z3, h2, h4, h5⟩ := WT_peekI hσ0 hp (by decide +kernel : FT 18 3 = (0, 0, 4)) (by decide +kernel)
  have t6 : Wv (2) = z3.toInt := KN_v hK (Or.inl (by decide)) (by omega) (by omega) (by rw [lcO_lt (by decide) (by decide), Nat.add_zero]) rfl h2
  refine En_callV rfl rfl rfl rfl rfl rfl rfl rfl hp (by decide +kernel) rfl (c_47x σ0 hσ0 p hp a z3 h2) (by decide) (by decide) (fun v8 σ9 h7 => ?_)
  obtain ⟨h10, h11, z13, rfl, h12⟩ := h7
  obtain rfl : σ0 = σ9 := Fr_nil h11
  refine En_iNe _ rfl rfl (fun h14 => ?_) (fun h14 => ?_)
  · have h15 := Imp_m h12.2.2.1 (by omega)
    have h16 := Imp_m h12.2.2.2.1 (by omega)
    have h17 := Imp_m h12.2.2.2.2.2 (by omega)
    refine En_Ps 1 (pc' := 15) (lv' := [(0, .ref 0), (1, .int a), (2, .int b)]) (st' := [.ref 0]) rfl ?_
    refine En_getK (j := 9) h_p rfl rfl rfl (by decide +kernel : TG 0 = 0) (by decide +kernel) ?_
    refine En_getR (j := 4) (g' := 19) (u := 0) rfl rfl rfl hp (by decide +kernel) hσ0 (by decide +kernel) (fun a19 h18 ha19 => ?_)
    have t20 : a19 = p + 1 := ref_uniq h18 (FXP_fr hP hX hF0 (by decide +kernel)).1
    refine En_Ps 1 (pc' := 22) (lv' := [(0, .ref 0), (1, .int a), (2, .int b)]) (st' := [.int a, .ref a19]) rfl ?_
    refine En_aald (g' := 28) (u := 0) rfl rfl ha19 (by decide +kernel) hσ0 (by omega) (lnI (by decide +kernel : LN _ = 4) (by omega)) (FTsgl (by decide +kernel)) (fun a22 h21 ha22 => ?_)
    have t23 : a22 = p + 10 + 4 * (a.toInt).toNat := DRe (d := a.toInt) (FXP_fr hP hX hF0 (by decide +kernel)) t20 h21 (by omega) (by omega)
    have t24 := lc_d (d := a.toInt) (by omega) (by omega)
    refine En_Ps 2 (pc' := 25) (lv' := [(3, .ref a22), (0, .ref 0), (1, .int a), (2, .int b)]) (st' := [.int b]) rfl ?_
    rcases (show b.toInt = 0 ∨ b.toInt = 1 ∨ b.toInt = 2 ∨ b.toInt = 3 ∨ b.toInt < 0 ∨ 3 < b.toInt by omega) with h25 | h25 | h25 | h25 | h25 | h25
    · refine En_swI (t := 56) (n := 0) rfl h25 rfl (by decide +kernel) ?_
      refine En_Ps 1 (pc' := 57) (lv' := [(3, .ref a22), (0, .ref 0), (1, .int a), (2, .int b)]) (st' := [.ref a22]) rfl ?_
      refine En_getI (j := 1) (l := 0) (u := 2) rfl rfl rfl ha22 (by decide +kernel) hσ0 (by decide +kernel) (fun z27 h26 h28 h29 => ?_)
      have t30 : Wv (10 + 4 * (a.toInt)) = z27.toInt := KN_v hK (Or.inr (Or.inl ⟨by omega, by omega, by omega⟩)) (by omega) (by omega) (by omega) (by omega) h26
      exact En_ret (v := some (.int z27)) rfl rfl rfl ⟨hσ0, hF0, z27, rfl, ⟨by omega, by omega, (by have e := doR_y (w := Wv) (d := a.toInt) (q := b.toInt) (by omega) (by omega) t30; omega)⟩⟩
    · refine En_swI (t := 61) (n := 1) rfl h25 rfl (by decide +kernel) ?_
      refine En_Ps 1 (pc' := 62) (lv' := [(3, .ref a22), (0, .ref 0), (1, .int a), (2, .int b)]) (st' := [.ref a22]) rfl ?_
      refine En_getI (j := 2) (l := 0) (u := 50) rfl rfl rfl ha22 (by decide +kernel) hσ0 (by decide +kernel) (fun z32 h31 h33 h34 => ?_)
      have t35 : Wv (11 + 4 * (a.toInt)) = z32.toInt := KN_v hK (Or.inr (Or.inl ⟨by omega, by omega, by omega⟩)) (by omega) (by omega) (by omega) (by omega) h31
      exact En_ret (v := some (.int z32)) rfl rfl rfl ⟨hσ0, hF0, z32, rfl, ⟨by omega, by omega, (by have e := doR_y (w := Wv) (d := a.toInt) (q := b.toInt) (by omega) (by omega) t35; omega)⟩⟩
    · refine En_swI (t := 66) (n := 2) rfl h25 rfl (by decide +kernel) ?_
      refine En_Ps 1 (pc' := 67) (lv' := [(3, .ref a22), (0, .ref 0), (1, .int a), (2, .int b)]) (st' := [.ref a22]) rfl ?_
      refine En_getR (j := 0) (g' := 20) (u := 0) rfl rfl rfl ha22 (by decide +kernel) hσ0 (by decide +kernel) (fun a37 h36 ha37 => ?_)
      have t38 : a37 = p + 11 + 4 * (a.toInt).toNat := DLc (d := a.toInt) (FXP_fr hP hX hF0 (by decide +kernel)) t23 h36 (by omega) (by omega)
      refine En_getI (j := 2) (l := 0) (u := 13) rfl rfl rfl ha37 (by decide +kernel) hσ0 (by decide +kernel) (fun z40 h39 h41 h42 => ?_)
      have t43 : Wv (12 + 4 * (a.toInt)) = z40.toInt := KN_v hK (Or.inr (Or.inl ⟨by omega, by omega, by omega⟩)) (by omega) (by omega) (by omega) (by omega) h39
      exact En_ret (v := some (.int z40)) rfl rfl rfl ⟨hσ0, hF0, z40, rfl, ⟨by omega, by omega, (by have e := doR_y (w := Wv) (d := a.toInt) (q := b.toInt) (by omega) (by omega) t43; omega)⟩⟩
    · refine En_swI (t := 74) (n := 3) rfl h25 rfl (by decide +kernel) ?_
      refine En_Ps 1 (pc' := 75) (lv' := [(3, .ref a22), (0, .ref 0), (1, .int a), (2, .int b)]) (st' := [.ref a22]) rfl ?_
      refine En_getI (j := 3) (l := (-1)) (u := 3) rfl rfl rfl ha22 (by decide +kernel) hσ0 (by decide +kernel) (fun z45 h44 h46 h47 => ?_)
      have t48 : Wv (13 + 4 * (a.toInt)) = z45.toInt := KN_v hK (Or.inr (Or.inl ⟨by omega, by omega, by omega⟩)) (by omega) (by omega) (by omega) (by omega) h44
      exact En_ret (v := some (.int z45)) rfl rfl rfl ⟨hσ0, hF0, z45, rfl, ⟨by omega, by omega, (by have e := doR_y (w := Wv) (d := a.toInt) (q := b.toInt) (by omega) (by omega) t48; omega)⟩⟩
    · refine En_swO (t := 79) rfl (by omega) rfl (by decide +kernel) ?_
      refine En_Ps 1 (pc' := 81) (lv' := [(3, .ref a22), (0, .ref 0), (1, .int a), (2, .int b)]) (st' := [.int (((Int8.ofInt (-2)).toInt32))]) rfl ?_
      refine En_top (by decide : ((Int8.ofInt (-2)).toInt32).toInt = -2) (fun z49 h50 => ?_)
      exact En_ret (v := some (.int z49)) rfl rfl rfl ⟨hσ0, hF0, z49, rfl, ⟨by omega, by omega, (by have e := doR_n (w := Wv) (d := a.toInt) (q := b.toInt) (by omega); omega)⟩⟩
    · refine En_swO (t := 79) rfl (by omega) rfl (by decide +kernel) ?_
      refine En_Ps 1 (pc' := 81) (lv' := [(3, .ref a22), (0, .ref 0), (1, .int a), (2, .int b)]) (st' := [.int (((Int8.ofInt (-2)).toInt32))]) rfl ?_
      refine En_top (by decide : ((Int8.ofInt (-2)).toInt32).toInt = -2) (fun z51 h52 => ?_)
      exact En_ret (v := some (.int z51)) rfl rfl rfl ⟨hσ0, hF0, z51, rfl, ⟨by omega, by omega, (by have e := doR_n (w := Wv) (d := a.toInt) (q := b.toInt) (by omega); omega)⟩⟩
  · have h53 := Imp_m h12.2.2.2.2.1 (by omega)
    refine En_Ps 1 (pc' := 13) (lv' := [(0, .ref 0), (1, .int a), (2, .int b)]) (st' := [.int (((Int8.ofInt (-2)).toInt32))]) rfl ?_
    refine En_top (by decide : ((Int8.ofInt (-2)).toInt32).toInt = -2) (fun z54 h55 => ?_)
    exact En_ret (v := some (.int z54)) rfl rfl rfl ⟨hσ0, hF0, z54, rfl, ⟨by omega, by omega, (by have e := doR_n (w := Wv) (d := a.toInt) (q := b.toInt) (by omega); omega)⟩⟩
/-- DoorSchool.end(I)I -/
abbrev P_118x (σ0 : SG) (a : Int32) (p : Nat) (sg : Int32) (m : Int32) : PO := fun v σ => WT σ ∧ Fr [(1, 1)] σ0 σ ∧ ∃ m1 : Int32, (σ 1)[1]? = some (.int m1) ∧ ∃ ret : Int32, v = some (.int ret) ∧ -ret.toInt - 1 ≤ 0 ∧ ret.toInt - 1600 ≤ 0 ∧ -m1.toInt ≤ 0 ∧ m1.toInt - 1600 ≤ 0 ∧ -m1.toInt + sg.toInt - 4 ≤ 0 ∧ m1.toInt - sg.toInt - 1600 ≤ 0 ∧ -m1.toInt + m.toInt - 1600 ≤ 0 ∧ m1.toInt - m.toInt ≤ 0 ∧ Imp (-a.toInt ≤ 0 ∧ a.toInt - m.toInt ≤ 0) (m1.toInt - a.toInt ≤ 0 ∧ -m1.toInt + a.toInt ≤ 0 ∧ ret.toInt - a.toInt ≤ 0 ∧ -ret.toInt + a.toInt ≤ 0) ∧ Imp (a.toInt + 1 ≤ 0) (m1.toInt - m.toInt ≤ 0 ∧ -m1.toInt + m.toInt ≤ 0 ∧ ret.toInt + 1 ≤ 0 ∧ -ret.toInt - 1 ≤ 0) ∧ Imp (m.toInt - a.toInt + 1 ≤ 0) (m1.toInt - m.toInt ≤ 0 ∧ -m1.toInt + m.toInt ≤ 0 ∧ ret.toInt + 1 ≤ 0 ∧ -ret.toInt - 1 ≤ 0)
set_option maxRecDepth 10000 in
set_option maxHeartbeats 4000000 in
theorem c_118x (σ0 : SG) (hσ0 : WT σ0) (a : Int32) (p : Nat) (hp : TG p = 18) (h_p : (σ0 0)[9]? = some (.ref p)) (sg : Int32) (h_sg : (σ0 p)[1]? = some (.int sg)) (m : Int32) (h_m : (σ0 1)[1]? = some (.int m)) (hp0 : -sg.toInt ≤ 0) : En 0 0 none mr_118 (P_118x σ0 a p sg m) 0 [(0, .ref 0), (1, .int a)] [] σ0 := by
  obtain ⟨hl_sg, hu_sg⟩ := WT_int hσ0 (g := 18) hp (by decide +kernel) (l := (-1)) (u := 4) (by decide +kernel) h_sg
  obtain ⟨hl_m, hu_m⟩ := WT_int hσ0 (g := 1) (by decide +kernel) (by decide +kernel) (l := 0) (u := 1600) (by decide +kernel) h_m
  have hF0 : Fr [(1, 1)] σ0 σ0 := Fr_rfl
  refine En_Ps 1 (pc' := 1) (lv' := [(0, .ref 0), (1, .int a)]) (st' := [.int a]) rfl ?_
  refine En_iLt _ rfl rfl (fun h1 => ?_) (fun h1 => ?_)
  · refine En_Ps 1 (pc' := 16) (lv' := [(0, .ref 0), (1, .int a)]) (st' := [.int ((Int32.ofInt (-1)))]) rfl ?_
    refine En_top (by decide : (Int32.ofInt (-1)).toInt = -1) (fun z2 h3 => ?_)
    exact En_ret (v := some (.int z2)) rfl rfl rfl ⟨hσ0, hF0, m, h_m, z2, rfl, ⟨by omega, by omega, by omega, by omega, by omega, by omega, by omega, by omega, fun _ => by omega, fun _ => by omega, fun _ => by omega⟩⟩
  · refine En_Ps 2 (pc' := 6) (lv' := [(0, .ref 0), (1, .int a)]) (st' := [.ref 0, .int a]) rfl ?_
    refine En_getU (j := 0) (u := 1) (g' := 1) (q := 0) rfl rfl rfl (by decide +kernel : TG 0 = 0) (by decide +kernel) hσ0 (by decide +kernel) (by decide +kernel) (fun h4 => ?_)
    refine En_getK (j := 1) h_m rfl rfl rfl (by decide +kernel : TG 1 = 1) (by decide +kernel) ?_
    refine En_icLe _ rfl rfl rfl (fun h6 => ?_) (fun h6 => ?_)
    · refine En_Ps 1 (pc' := 18) (lv' := [(0, .ref 0), (1, .int a)]) (st' := [.ref 0]) rfl ?_
      refine En_getK (j := 0) h4 rfl rfl rfl (by decide +kernel : TG 0 = 0) (by decide +kernel) ?_
      refine En_Ps 1 (pc' := 22) (lv' := [(0, .ref 0), (1, .int a)]) (st' := [.int a, .ref 1]) rfl ?_
      refine En_put (j := 1) rfl rfl rfl (by decide +kernel : TG 1 = 1) (by decide +kernel) rfl (vI (l := 0) (u := 1600) (by decide +kernel) rfl (by omega) (by omega)) hσ0 hF0 (by decide +kernel) (fun σ7 h8 h9 h10 h11 => ?_)
      refine En_Ps 1 (pc' := 26) (lv' := [(0, .ref 0), (1, .int a)]) (st' := [.int a]) rfl ?_
      exact En_ret (v := some (.int a)) rfl rfl rfl ⟨h8, h9, a, h10, a, rfl, ⟨by omega, by omega, by omega, by omega, by omega, by omega, by omega, by omega, fun _ => by omega, fun _ => by omega, fun _ => by omega⟩⟩
    · refine En_Ps 1 (pc' := 16) (lv' := [(0, .ref 0), (1, .int a)]) (st' := [.int ((Int32.ofInt (-1)))]) rfl ?_
      refine En_top (by decide : (Int32.ofInt (-1)).toInt = -1) (fun z12 h13 => ?_)
      exact En_ret (v := some (.int z12)) rfl rfl rfl ⟨hσ0, hF0, m, h_m, z12, rfl, ⟨by omega, by omega, by omega, by omega, by omega, by omega, by omega, by omega, fun _ => by omega, fun _ => by omega, fun _ => by omega⟩⟩
/-- DoorSchool.exam(II)I -/
abbrev P_120x (σ0 : SG) (Wv : Int → Int) (a : Int32) (b : Int32) (p : Nat) (sg : Int32) : PO := fun v σ => WT σ ∧ Fr [] σ0 σ ∧ ∃ ret : Int32, v = some (.int ret) ∧ -ret.toInt - 2 ≤ 0 ∧ ret.toInt - 15 ≤ 0 ∧ ret.toInt = exR Wv a.toInt b.toInt
set_option maxRecDepth 10000 in
set_option maxHeartbeats 4000000 in
theorem c_120x {Wv : Int → Int} (σ0 : SG) (hσ0 : WT σ0) (a : Int32) (b : Int32) (p : Nat) (hp : TG p = 18) (h_p : (σ0 0)[9]? = some (.ref p)) (sg : Int32) (h_sg : (σ0 p)[1]? = some (.int sg)) (hp0 : -sg.toInt ≤ 0) (hP : PLA p) (hX : FXP σ0 p) (hK : KN σ0 p Wv (act Wv)) : En 1 20 none mr_120 (P_120x σ0 Wv a b p sg) 0 [(0, .ref 0), (1, .int a), (2, .int b)] [] σ0 := by
  obtain ⟨hl_sg, hu_sg⟩ := WT_int hσ0 (g := 18) hp (by decide +kernel) (l := (-1)) (u := 4) (by decide +kernel) h_sg
  have hF0 : Fr [] σ0 σ0 := Fr_rfl
  have t1 : Wv (0) = sg.toInt := KN_v hK (Or.inl (by decide)) (by omega) (by omega) (by rw [lcO_lt (by decide) (by decide), Nat.add_zero]) rfl h_sg
  refine En_Ps 1 (pc' := 1) (lv' := [(0, .ref 0), (1, .int a), (2, .int b)]) (st' := [.int a]) rfl ?_
  refine En_iLt _ rfl rfl (fun h2 => ?_) (fun h2 => ?_)
  · refine En_Ps 1 (pc' := 27) (lv' := [(0, .ref 0), (1, .int a), (2, .int b)]) (st' := [.int (((Int8.ofInt (-2)).toInt32))]) rfl ?_
    refine En_top (by decide : ((Int8.ofInt (-2)).toInt32).toInt = -2) (fun z3 h4 => ?_)
    exact En_ret (v := some (.int z3)) rfl rfl rfl ⟨hσ0, hF0, z3, rfl, ⟨by omega, by omega, (by have e := exR_n (w := Wv) (d := a.toInt) (q := b.toInt) (by omega); omega)⟩⟩
  · refine En_Ps 2 (pc' := 6) (lv' := [(0, .ref 0), (1, .int a), (2, .int b)]) (st' := [.ref 0, .int a]) rfl ?_
    refine En_getK (j := 9) h_p rfl rfl rfl (by decide +kernel : TG 0 = 0) (by decide +kernel) ?_
    refine En_getR (j := 5) (g' := 20) (u := 0) rfl rfl rfl hp (by decide +kernel) hσ0 (by decide +kernel) (fun a6 h5 ha6 => ?_)
    have t7 : a6 = p + 2 := ref_uniq h5 (FXP_fr hP hX hF0 (by decide +kernel)).2.1
    refine En_getI (j := 2) (l := 0) (u := 13) rfl rfl rfl ha6 (by decide +kernel) hσ0 (by decide +kernel) (fun z9 h8 h10 h11 => ?_)
    have t12 : Wv (3) = z9.toInt := KN_v hK (Or.inl (by decide)) (by omega) (by omega) (by rw [lcO_3]; omega) (by decide) h8
    refine En_icGe _ rfl rfl rfl (fun h13 => ?_) (fun h13 => ?_)
    · refine En_Ps 1 (pc' := 27) (lv' := [(0, .ref 0), (1, .int a), (2, .int b)]) (st' := [.int (((Int8.ofInt (-2)).toInt32))]) rfl ?_
      refine En_top (by decide : ((Int8.ofInt (-2)).toInt32).toInt = -2) (fun z14 h15 => ?_)
      exact En_ret (v := some (.int z14)) rfl rfl rfl ⟨hσ0, hF0, z14, rfl, ⟨by omega, by omega, (by have e := exR_n (w := Wv) (d := a.toInt) (q := b.toInt) (by omega); omega)⟩⟩
    · refine En_Ps 1 (pc' := 19) (lv' := [(0, .ref 0), (1, .int a), (2, .int b)]) (st' := [.int b]) rfl ?_
      refine En_callS rfl rfl rfl rfl rfl rfl rfl rfl rfl (c_149 σ0 hσ0 b) (by decide) (by decide) (fun v17 σ18 h16 => ?_)
      obtain ⟨h19, h20, z22, rfl, h21⟩ := h16
      obtain rfl : σ0 = σ18 := Fr_nil h20
      refine En_iNe _ rfl rfl (fun h23 => ?_) (fun h23 => ?_)
      · refine En_Ps 1 (pc' := 29) (lv' := [(0, .ref 0), (1, .int a), (2, .int b)]) (st' := [.int b]) rfl ?_
        refine En_iNe _ rfl rfl (fun h24 => ?_) (fun h24 => ?_)
        · refine En_Ps 1 (pc' := 48) (lv' := [(0, .ref 0), (1, .int a), (2, .int b)]) (st' := [.ref 0]) rfl ?_
          refine En_getK (j := 9) h_p rfl rfl rfl (by decide +kernel : TG 0 = 0) (by decide +kernel) ?_
          refine En_getK (j := 5) h5 rfl rfl rfl hp (by decide +kernel) ?_
          refine En_getR (j := 1) (g' := 22) (u := 0) rfl rfl rfl ha6 (by decide +kernel) hσ0 (by decide +kernel) (fun a26 h25 ha26 => ?_)
          have t27 : a26 = p + 4 := EKo (FXP_fr hP hX hF0 (by decide +kernel)) t7 h25
          refine En_Ps 1 (pc' := 58) (lv' := [(0, .ref 0), (1, .int a), (2, .int b)]) (st' := [.int a, .ref a26]) rfl ?_
          refine En_iald (l := 0) (u := 1) rfl rfl ha26 (by decide +kernel) hσ0 (by omega) (lnI (by decide +kernel : LN _ = 13) (by omega)) (FTsgl (by decide +kernel)) (fun z29 h28 h30 h31 => ?_)
          have t32 := lc_e (m := a.toInt) (by omega) (by omega)
          have t33 : Wv (122 + 2 * (a.toInt) + 1) = z29.toInt := KN_v hK (Or.inr (Or.inr (Or.inr (Or.inl ⟨by omega, by omega, by omega⟩)))) (by omega) (by omega) (by omega) (by omega) h28
          exact En_ret (v := some (.int z29)) rfl rfl rfl ⟨hσ0, hF0, z29, rfl, ⟨by omega, by omega, (by have e := exR_y (w := Wv) (d := a.toInt) (q := b.toInt) (by omega) (by omega) t33; omega)⟩⟩
        · refine En_Ps 1 (pc' := 33) (lv' := [(0, .ref 0), (1, .int a), (2, .int b)]) (st' := [.ref 0]) rfl ?_
          refine En_getK (j := 9) h_p rfl rfl rfl (by decide +kernel : TG 0 = 0) (by decide +kernel) ?_
          refine En_getK (j := 5) h5 rfl rfl rfl hp (by decide +kernel) ?_
          refine En_getR (j := 0) (g' := 21) (u := 0) rfl rfl rfl ha6 (by decide +kernel) hσ0 (by decide +kernel) (fun a35 h34 ha35 => ?_)
          have t36 : a35 = p + 3 := EKk (FXP_fr hP hX hF0 (by decide +kernel)) t7 h34
          refine En_Ps 1 (pc' := 43) (lv' := [(0, .ref 0), (1, .int a), (2, .int b)]) (st' := [.int a, .ref a35]) rfl ?_
          refine En_iald (l := 0) (u := 15) rfl rfl ha35 (by decide +kernel) hσ0 (by omega) (lnI (by decide +kernel : LN _ = 13) (by omega)) (FTsgl (by decide +kernel)) (fun z38 h37 h39 h40 => ?_)
          have t41 := lc_e (m := a.toInt) (by omega) (by omega)
          have t42 : Wv (122 + 2 * (a.toInt)) = z38.toInt := KN_v hK (Or.inr (Or.inr (Or.inr (Or.inl ⟨by omega, by omega, by omega⟩)))) (by omega) (by omega) (by omega) (by omega) h37
          refine En_Ps 1 (pc' := 59) (lv' := [(0, .ref 0), (1, .int a), (2, .int b)]) (st' := [.int z38]) rfl ?_
          exact En_ret (v := some (.int z38)) rfl rfl rfl ⟨hσ0, hF0, z38, rfl, ⟨by omega, by omega, (by have e := exR_y (w := Wv) (d := a.toInt) (q := b.toInt) (by omega) (by omega) t42; omega)⟩⟩
      · refine En_Ps 1 (pc' := 27) (lv' := [(0, .ref 0), (1, .int a), (2, .int b)]) (st' := [.int (((Int8.ofInt (-2)).toInt32))]) rfl ?_
        refine En_top (by decide : ((Int8.ofInt (-2)).toInt32).toInt = -2) (fun z43 h44 => ?_)
        exact En_ret (v := some (.int z43)) rfl rfl rfl ⟨hσ0, hF0, z43, rfl, ⟨by omega, by omega, (by have e := exR_n (w := Wv) (d := a.toInt) (q := b.toInt) (by omega); omega)⟩⟩
/-- DoorSchool.fault(I)I -/
abbrev P_121x (σ0 : SG) (a : Int32) (p : Nat) (sg : Int32) (fk : Int32) (fp : Int32) : PO := fun v σ => WT σ ∧ Fr [] σ0 σ ∧ ∃ ret : Int32, v = some (.int ret) ∧ -ret.toInt - 1 ≤ 0 ∧ ret.toInt - 1600 ≤ 0 ∧ Imp (a.toInt ≤ 0 ∧ -a.toInt ≤ 0) (ret.toInt - fk.toInt ≤ 0 ∧ -ret.toInt + fk.toInt ≤ 0) ∧ Imp (a.toInt - 1 ≤ 0 ∧ -a.toInt + 1 ≤ 0) (ret.toInt - fp.toInt ≤ 0 ∧ -ret.toInt + fp.toInt ≤ 0) ∧ Imp (a.toInt + 1 ≤ 0) (ret.toInt + 1 ≤ 0 ∧ -ret.toInt - 1 ≤ 0) ∧ Imp (-a.toInt + 2 ≤ 0) (ret.toInt + 1 ≤ 0 ∧ -ret.toInt - 1 ≤ 0)
set_option maxRecDepth 10000 in
set_option maxHeartbeats 4000000 in
theorem c_121x (σ0 : SG) (hσ0 : WT σ0) (a : Int32) (p : Nat) (hp : TG p = 18) (h_p : (σ0 0)[9]? = some (.ref p)) (sg : Int32) (h_sg : (σ0 p)[1]? = some (.int sg)) (fk : Int32) (h_fk : (σ0 3)[5]? = some (.int fk)) (fp : Int32) (h_fp : (σ0 3)[6]? = some (.int fp)) (hp0 : -sg.toInt ≤ 0) : En 0 0 none mr_121 (P_121x σ0 a p sg fk fp) 0 [(0, .ref 0), (1, .int a)] [] σ0 := by
  obtain ⟨hl_sg, hu_sg⟩ := WT_int hσ0 (g := 18) hp (by decide +kernel) (l := (-1)) (u := 4) (by decide +kernel) h_sg
  obtain ⟨hl_fk, hu_fk⟩ := WT_int hσ0 (g := 3) (by decide +kernel) (by decide +kernel) (l := 0) (u := 3) (by decide +kernel) h_fk
  obtain ⟨hl_fp, hu_fp⟩ := WT_int hσ0 (g := 3) (by decide +kernel) (by decide +kernel) (l := (-1)) (u := 1600) (by decide +kernel) h_fp
  have hF0 : Fr [] σ0 σ0 := Fr_rfl
  refine En_Ps 1 (pc' := 1) (lv' := [(0, .ref 0), (1, .int a)]) (st' := [.int a]) rfl ?_
  refine En_iNe _ rfl rfl (fun h1 => ?_) (fun h1 => ?_)
  · refine En_Ps 2 (pc' := 14) (lv' := [(0, .ref 0), (1, .int a)]) (st' := [.int ((Int32.ofInt 1)), .int a]) rfl ?_
    refine En_icNe _ rfl (by decide : (Int32.ofInt 1).toInt = 1) rfl (fun h2 => ?_) (fun h2 => ?_)
    · refine En_Ps 1 (pc' := 28) (lv' := [(0, .ref 0), (1, .int a)]) (st' := [.int ((Int32.ofInt (-1)))]) rfl ?_
      refine En_top (by decide : (Int32.ofInt (-1)).toInt = -1) (fun z3 h4 => ?_)
      exact En_ret (v := some (.int z3)) rfl rfl rfl ⟨hσ0, hF0, z3, rfl, ⟨by omega, by omega, fun _ => by omega, fun _ => by omega, fun _ => by omega, fun _ => by omega⟩⟩
    · refine En_Ps 1 (pc' := 18) (lv' := [(0, .ref 0), (1, .int a)]) (st' := [.ref 0]) rfl ?_
      refine En_getU (j := 1) (u := 3) (g' := 3) (q := 0) rfl rfl rfl (by decide +kernel : TG 0 = 0) (by decide +kernel) hσ0 (by decide +kernel) (by decide +kernel) (fun h5 => ?_)
      refine En_getK (j := 6) h_fp rfl rfl rfl (by decide +kernel : TG 3 = 3) (by decide +kernel) ?_
      refine En_Ps 1 (pc' := 28) (lv' := [(0, .ref 0), (1, .int a)]) (st' := [.int fp]) rfl ?_
      exact En_ret (v := some (.int fp)) rfl rfl rfl ⟨hσ0, hF0, fp, rfl, ⟨by omega, by omega, fun _ => by omega, fun _ => by omega, fun _ => by omega, fun _ => by omega⟩⟩
  · refine En_Ps 1 (pc' := 5) (lv' := [(0, .ref 0), (1, .int a)]) (st' := [.ref 0]) rfl ?_
    refine En_getU (j := 1) (u := 3) (g' := 3) (q := 0) rfl rfl rfl (by decide +kernel : TG 0 = 0) (by decide +kernel) hσ0 (by decide +kernel) (by decide +kernel) (fun h7 => ?_)
    refine En_getK (j := 5) h_fk rfl rfl rfl (by decide +kernel : TG 3 = 3) (by decide +kernel) ?_
    exact En_ret (v := some (.int fk)) rfl rfl rfl ⟨hσ0, hF0, fk, rfl, ⟨by omega, by omega, fun _ => by omega, fun _ => by omega, fun _ => by omega, fun _ => by omega⟩⟩
/-- DoorSchool.feed(IIIII)I -/
abbrev P_122x (σ0 : SG) (a : Int32) (b : Int32) (c : Int32) (d : Int32) (e : Int32) (p : Nat) (sg : Int32) (m : Int32) : PO := fun v σ => WT σ ∧ Fr [(1, 1), (2, 0)] σ0 σ ∧ ∃ m1 : Int32, (σ 1)[1]? = some (.int m1) ∧ ∃ ret : Int32, v = some (.int ret) ∧ -ret.toInt - 1 ≤ 0 ∧ ret.toInt - 1600 ≤ 0 ∧ -m1.toInt + 20 ≤ 0 ∧ m1.toInt - 1600 ≤ 0 ∧ -m1.toInt + sg.toInt + 16 ≤ 0 ∧ m1.toInt - sg.toInt - 1600 ≤ 0 ∧ -m1.toInt + m.toInt ≤ 0 ∧ m1.toInt - m.toInt - 20 ≤ 0 ∧ Imp (m.toInt - 1580 ≤ 0) (m1.toInt - m.toInt - 20 ≤ 0 ∧ -m1.toInt + m.toInt + 20 ≤ 0 ∧ ret.toInt - m1.toInt ≤ 0 ∧ -ret.toInt + m1.toInt ≤ 0) ∧ Imp (-m.toInt + 1581 ≤ 0) (m1.toInt - m.toInt ≤ 0 ∧ -m1.toInt + m.toInt ≤ 0 ∧ ret.toInt + 1 ≤ 0 ∧ -ret.toInt - 1 ≤ 0) ∧ ((m.toInt ≤ 1580 → FDP σ0 σ 2 m.toInt 20 a b c d e) ∧ (1580 < m.toInt → ∀ i : Int, ci σ 2 i = ci σ0 2 i))
set_option maxRecDepth 10000 in
set_option maxHeartbeats 4000000 in
theorem c_122x (σ0 : SG) (hσ0 : WT σ0) (a : Int32) (b : Int32) (c : Int32) (d : Int32) (e : Int32) (p : Nat) (hp : TG p = 18) (h_p : (σ0 0)[9]? = some (.ref p)) (sg : Int32) (h_sg : (σ0 p)[1]? = some (.int sg)) (m : Int32) (h_m : (σ0 1)[1]? = some (.int m)) (hp0 : -sg.toInt ≤ 0) : En 1 22 none mr_122 (P_122x σ0 a b c d e p sg m) 0 [(0, .ref 0), (1, .int a), (2, .int b), (3, .int c), (4, .int d), (5, .int e)] [] σ0 := by
  obtain ⟨hl_sg, hu_sg⟩ := WT_int hσ0 (g := 18) hp (by decide +kernel) (l := (-1)) (u := 4) (by decide +kernel) h_sg
  obtain ⟨hl_m, hu_m⟩ := WT_int hσ0 (g := 1) (by decide +kernel) (by decide +kernel) (l := 0) (u := 1600) (by decide +kernel) h_m
  have hF0 : Fr [(1, 1), (2, 0)] σ0 σ0 := Fr_rfl
  refine En_Ps 1 (pc' := 1) (lv' := [(0, .ref 0), (1, .int a), (2, .int b), (3, .int c), (4, .int d), (5, .int e)]) (st' := [.ref 0]) rfl ?_
  refine En_getU (j := 0) (u := 1) (g' := 1) (q := 0) rfl rfl rfl (by decide +kernel : TG 0 = 0) (by decide +kernel) hσ0 (by decide +kernel) (by decide +kernel) (fun h1 => ?_)
  refine En_getK (j := 1) h_m rfl rfl rfl (by decide +kernel : TG 1 = 1) (by decide +kernel) ?_
  refine En_Ps 2 (pc' := 10) (lv' := [(0, .ref 0), (1, .int a), (2, .int b), (3, .int c), (4, .int d), (5, .int e)]) (st' := [.int ((m + (((Int8.ofInt 20).toInt32))))]) rfl ?_
  refine En_top (addI rfl (by decide : ((Int8.ofInt 20).toInt32).toInt = 20) (by omega) (by omega)) (fun z3 h4 => ?_)
  refine En_Ps 1 (pc' := 13) (lv' := [(0, .ref 0), (1, .int a), (2, .int b), (3, .int c), (4, .int d), (5, .int e)]) (st' := [.int (((Int16.ofInt 1600).toInt32)), .int z3]) rfl ?_
  refine En_icLe _ rfl (by decide : ((Int16.ofInt 1600).toInt32).toInt = 1600) rfl (fun h5 => ?_) (fun h5 => ?_)
  · refine En_Ps 1 (pc' := 19) (lv' := [(0, .ref 0), (1, .int a), (2, .int b), (3, .int c), (4, .int d), (5, .int e)]) (st' := [.ref 0]) rfl ?_
    refine En_getK (j := 0) h1 rfl rfl rfl (by decide +kernel : TG 0 = 0) (by decide +kernel) ?_
    refine En_Ps 1 (pc' := 23) (lv' := [(0, .ref 0), (1, .int a), (2, .int b), (3, .int c), (4, .int d), (5, .int e)]) (st' := [.int a, .ref 1]) rfl ?_
    refine En_callV rfl rfl rfl rfl rfl rfl rfl rfl (by decide +kernel : TG 1 = 1) (by decide +kernel) rfl (c_90x σ0 hσ0 a m h_m) (by decide) (by decide) (fun v7 σ8 h6 => ?_)
    obtain ⟨h9, h10, z12, h13, rfl, h11⟩ := h6
    have h14 := h11.2.2.2.2.2
    have h15 := Fr_trans hF0 h10 (by decide +kernel)
    have h16 := Imp_m h11.2.2.2.2.1 (by omega)
    refine En_Ps 1 (pc' := 27) (lv' := [(0, .ref 0), (1, .int a), (2, .int b), (3, .int c), (4, .int d), (5, .int e)]) (st' := [.ref 0]) rfl ?_
    refine En_getK (j := 0) ((h10 _ _ (inW (by decide +kernel : TG 0 = 0) (by decide +kernel))).trans h1) rfl rfl rfl (by decide +kernel : TG 0 = 0) (by decide +kernel) ?_
    refine En_Ps 1 (pc' := 31) (lv' := [(0, .ref 0), (1, .int a), (2, .int b), (3, .int c), (4, .int d), (5, .int e)]) (st' := [.int b, .ref 1]) rfl ?_
    refine En_callV rfl rfl rfl rfl rfl rfl rfl rfl (by decide +kernel : TG 1 = 1) (by decide +kernel) rfl (c_90x σ8 h9 b z12 h13) (by decide) (by decide) (fun v18 σ19 h17 => ?_)
    obtain ⟨h20, h21, z23, h24, rfl, h22⟩ := h17
    have h25 := h22.2.2.2.2.2
    have h26 := Fr_trans h15 h21 (by decide +kernel)
    have h27 := Imp_m h22.2.2.2.2.1 (by omega)
    refine En_Ps 1 (pc' := 35) (lv' := [(0, .ref 0), (1, .int a), (2, .int b), (3, .int c), (4, .int d), (5, .int e)]) (st' := [.ref 0]) rfl ?_
    refine En_getK (j := 0) ((h21 _ _ (inW (by decide +kernel : TG 0 = 0) (by decide +kernel))).trans ((h10 _ _ (inW (by decide +kernel : TG 0 = 0) (by decide +kernel))).trans h1)) rfl rfl rfl (by decide +kernel : TG 0 = 0) (by decide +kernel) ?_
    refine En_Ps 1 (pc' := 39) (lv' := [(0, .ref 0), (1, .int a), (2, .int b), (3, .int c), (4, .int d), (5, .int e)]) (st' := [.int c, .ref 1]) rfl ?_
    refine En_callV rfl rfl rfl rfl rfl rfl rfl rfl (by decide +kernel : TG 1 = 1) (by decide +kernel) rfl (c_90x σ19 h20 c z23 h24) (by decide) (by decide) (fun v29 σ30 h28 => ?_)
    obtain ⟨h31, h32, z34, h35, rfl, h33⟩ := h28
    have h36 := h33.2.2.2.2.2
    have h37 := Fr_trans h26 h32 (by decide +kernel)
    have h38 := Imp_m h33.2.2.2.2.1 (by omega)
    refine En_Ps 1 (pc' := 43) (lv' := [(0, .ref 0), (1, .int a), (2, .int b), (3, .int c), (4, .int d), (5, .int e)]) (st' := [.ref 0]) rfl ?_
    refine En_getK (j := 0) ((h32 _ _ (inW (by decide +kernel : TG 0 = 0) (by decide +kernel))).trans ((h21 _ _ (inW (by decide +kernel : TG 0 = 0) (by decide +kernel))).trans ((h10 _ _ (inW (by decide +kernel : TG 0 = 0) (by decide +kernel))).trans h1))) rfl rfl rfl (by decide +kernel : TG 0 = 0) (by decide +kernel) ?_
    refine En_Ps 1 (pc' := 48) (lv' := [(0, .ref 0), (1, .int a), (2, .int b), (3, .int c), (4, .int d), (5, .int e)]) (st' := [.int d, .ref 1]) rfl ?_
    refine En_callV rfl rfl rfl rfl rfl rfl rfl rfl (by decide +kernel : TG 1 = 1) (by decide +kernel) rfl (c_90x σ30 h31 d z34 h35) (by decide) (by decide) (fun v40 σ41 h39 => ?_)
    obtain ⟨h42, h43, z45, h46, rfl, h44⟩ := h39
    have h47 := h44.2.2.2.2.2
    have h48 := Fr_trans h37 h43 (by decide +kernel)
    have h49 := Imp_m h44.2.2.2.2.1 (by omega)
    refine En_Ps 1 (pc' := 52) (lv' := [(0, .ref 0), (1, .int a), (2, .int b), (3, .int c), (4, .int d), (5, .int e)]) (st' := [.ref 0]) rfl ?_
    refine En_getK (j := 0) ((h43 _ _ (inW (by decide +kernel : TG 0 = 0) (by decide +kernel))).trans ((h32 _ _ (inW (by decide +kernel : TG 0 = 0) (by decide +kernel))).trans ((h21 _ _ (inW (by decide +kernel : TG 0 = 0) (by decide +kernel))).trans ((h10 _ _ (inW (by decide +kernel : TG 0 = 0) (by decide +kernel))).trans h1)))) rfl rfl rfl (by decide +kernel : TG 0 = 0) (by decide +kernel) ?_
    refine En_Ps 1 (pc' := 57) (lv' := [(0, .ref 0), (1, .int a), (2, .int b), (3, .int c), (4, .int d), (5, .int e)]) (st' := [.int e, .ref 1]) rfl ?_
    refine En_callV rfl rfl rfl rfl rfl rfl rfl rfl (by decide +kernel : TG 1 = 1) (by decide +kernel) rfl (c_90x σ41 h42 e z45 h46) (by decide) (by decide) (fun v51 σ52 h50 => ?_)
    obtain ⟨h53, h54, z56, h57, rfl, h55⟩ := h50
    have h58 := h55.2.2.2.2.2
    have h59 := Fr_trans h48 h54 (by decide +kernel)
    have h60 := Imp_m h55.2.2.2.2.1 (by omega)
    refine En_Ps 1 (pc' := 61) (lv' := [(0, .ref 0), (1, .int a), (2, .int b), (3, .int c), (4, .int d), (5, .int e)]) (st' := [.ref 0]) rfl ?_
    refine En_getK (j := 0) ((h54 _ _ (inW (by decide +kernel : TG 0 = 0) (by decide +kernel))).trans ((h43 _ _ (inW (by decide +kernel : TG 0 = 0) (by decide +kernel))).trans ((h32 _ _ (inW (by decide +kernel : TG 0 = 0) (by decide +kernel))).trans ((h21 _ _ (inW (by decide +kernel : TG 0 = 0) (by decide +kernel))).trans ((h10 _ _ (inW (by decide +kernel : TG 0 = 0) (by decide +kernel))).trans h1))))) rfl rfl rfl (by decide +kernel : TG 0 = 0) (by decide +kernel) ?_
    refine En_getK (j := 1) h57 rfl rfl rfl (by decide +kernel : TG 1 = 1) (by decide +kernel) ?_
    exact En_ret (v := some (.int z56)) rfl rfl rfl ⟨h53, h59, z56, h57, z56, rfl, ⟨by omega, by omega, by omega, by omega, by omega, by omega, by omega, by omega, fun _ => by omega, fun _ => by omega, ⟨fun _ => FDP_5 (by omega) (APB_d h14 (by omega) (by omega)) (APB_d h25 (by omega) (by omega)) (APB_d h36 (by omega) (by omega)) (APB_d h47 (by omega) (by omega)) (APB_d h58 (by omega) (by omega)), fun h => absurd h (by omega)⟩⟩⟩
  · refine En_Ps 1 (pc' := 17) (lv' := [(0, .ref 0), (1, .int a), (2, .int b), (3, .int c), (4, .int d), (5, .int e)]) (st' := [.int ((Int32.ofInt (-1)))]) rfl ?_
    refine En_top (by decide : (Int32.ofInt (-1)).toInt = -1) (fun z61 h62 => ?_)
    exact En_ret (v := some (.int z61)) rfl rfl rfl ⟨hσ0, hF0, m, h_m, z61, rfl, ⟨by omega, by omega, by omega, by omega, by omega, by omega, by omega, by omega, fun _ => by omega, fun _ => by omega, ⟨fun h => absurd h (by omega), fun _ _ => rfl⟩⟩⟩
/-- DoorSchool.foolingAfter(II)I -/
abbrev P_127x (σ0 : SG) (Wv : Int → Int) (a : Int32) (b : Int32) (p : Nat) (sg : Int32) : PO := fun v σ => WT σ ∧ Fr [(20, 2), (21, 0), (22, 0)] σ0 σ ∧ ∃ ret : Int32, v = some (.int ret) ∧ -ret.toInt ≤ 0 ∧ ret.toInt - 63 ≤ 0 ∧ (KN σ p Wv (act Wv) ∧ OUT σ0 σ p)
set_option maxRecDepth 10000 in
set_option maxHeartbeats 4000000 in
theorem c_127x {Wv : Int → Int} (σ0 : SG) (hσ0 : WT σ0) (a : Int32) (b : Int32) (hl_a : 0 ≤ a.toInt) (hu_a : a.toInt ≤ 3) (hl_b : 0 ≤ b.toInt) (hu_b : b.toInt ≤ 15) (p : Nat) (hp : TG p = 18) (h_p : (σ0 0)[9]? = some (.ref p)) (sg : Int32) (h_sg : (σ0 p)[1]? = some (.int sg)) (hp0 : -sg.toInt ≤ 0) (hP : PLA p) (hX : FXP σ0 p) (hK : KN σ0 p Wv (act Wv)) (hB : WFw Wv) (ha : a.toInt < Wv 2) : En 4 92 none mr_127 (P_127x σ0 Wv a b p sg) 0 [(0, .ref 0), (1, .int a), (2, .int b)] [] σ0 := by
  obtain ⟨hl_sg, hu_sg⟩ := WT_int hσ0 (g := 18) hp (by decide +kernel) (l := (-1)) (u := 4) (by decide +kernel) h_sg
  have hF0 : Fr [(20, 2), (21, 0), (22, 0)] σ0 σ0 := Fr_rfl
  have t1 : Wv (0) = sg.toInt := KN_v hK (Or.inl (by decide)) (by omega) (by omega) (by rw [lcO_lt (by decide) (by decide), Nat.add_zero]) rfl h_sg
  obtain ⟨z3, h2, h4, h5⟩ := WT_peekI hσ0 hp (by decide +kernel : FT 18 3 = (0, 0, 4)) (by decide +kernel)
  have t6 : Wv (2) = z3.toInt := KN_v hK (Or.inl (by decide)) (by omega) (by omega) (by rw [lcO_lt (by decide) (by decide), Nat.add_zero]) rfl h2
  refine En_Ps 1 (pc' := 1) (lv' := [(0, .ref 0), (1, .int a), (2, .int b)]) (st' := [.ref 0]) rfl ?_
  refine En_getK (j := 9) h_p rfl rfl rfl (by decide +kernel : TG 0 = 0) (by decide +kernel) ?_
  refine En_getR (j := 4) (g' := 19) (u := 0) rfl rfl rfl hp (by decide +kernel) hσ0 (by decide +kernel) (fun a8 h7 ha8 => ?_)
  have t9 : a8 = p + 1 := ref_uniq h7 (FXP_fr hP hX hF0 (by decide +kernel)).1
  refine En_Ps 1 (pc' := 8) (lv' := [(0, .ref 0), (1, .int a), (2, .int b)]) (st' := [.int a, .ref a8]) rfl ?_
  refine En_aald (g' := 28) (u := 0) rfl rfl ha8 (by decide +kernel) hσ0 (by omega) (lnI (by decide +kernel : LN _ = 4) (by omega)) (FTsgl (by decide +kernel)) (fun a11 h10 ha11 => ?_)
  have t12 : a11 = p + 10 + 4 * (a.toInt).toNat := DRe (d := a.toInt) (FXP_fr hP hX hF0 (by decide +kernel)) t9 h10 (by omega) (by omega)
  have t13 := lc_d (d := a.toInt) (by omega) (by omega)
  refine En_getR (j := 0) (g' := 20) (u := 0) rfl rfl rfl ha11 (by decide +kernel) hσ0 (by decide +kernel) (fun a15 h14 ha15 => ?_)
  have t16 : a15 = p + 11 + 4 * (a.toInt).toNat := DLc (d := a.toInt) (FXP_fr hP hX hF0 (by decide +kernel)) t12 h14 (by omega) (by omega)
  obtain ⟨a18, h17, ha18⟩ := WT_peekR (g := 20) (j := 0) (g' := 21) (u := 0) hσ0 ha15 (by decide +kernel) (by decide +kernel)
  have t19 : a18 = p + 12 + 4 * (a.toInt).toNat := DKk (d := a.toInt) (FXP_fr hP hX hF0 (by decide +kernel)) t16 h17 (by omega) (by omega)
  obtain ⟨a21, h20, ha21⟩ := WT_peekR (g := 20) (j := 1) (g' := 22) (u := 0) hσ0 ha15 (by decide +kernel) (by decide +kernel)
  have t22 : a21 = p + 13 + 4 * (a.toInt).toNat := DKo (d := a.toInt) (FXP_fr hP hX hF0 (by decide +kernel)) t16 h20 (by omega) (by omega)
  obtain ⟨z24, h23, h25, h26⟩ := WT_peekI hσ0 ha15 (by decide +kernel : FT 20 2 = (0, 0, 13)) (by decide +kernel)
  have t27 : Wv (12 + 4 * (a.toInt)) = z24.toInt := KN_v hK (Or.inr (Or.inl ⟨by omega, by omega, by omega⟩)) (by omega) (by omega) (by omega) (by omega) h23
  have h28 := hB.2.2.2.2.2.2 a.toInt (by omega) (by omega)
  have : z24.toInt ≤ 12 := by omega
  refine En_Ps 4 (pc' := 16) (lv' := [(3, .ref a15), (0, .ref 0), (1, .int a), (2, .int b)]) (st' := [.ref 0, .int b, .ref a15]) rfl ?_
  refine En_callV rfl rfl rfl rfl rfl rfl rfl rfl (by decide +kernel : TG 0 = 0) (by decide +kernel) rfl (c_160 σ0 hσ0 p hp h_p sg h_sg (by omega)) (by decide) (by decide) (fun v30 σ31 h29 => ?_)
  obtain ⟨h32, h33, z35, rfl, h34⟩ := h29
  obtain rfl : σ0 = σ31 := Fr_nil h33
  refine En_Ps 1 (pc' := 20) (lv' := [(3, .ref a15), (0, .ref 0), (1, .int a), (2, .int b)]) (st' := [.int b, .int z35, .int b, .ref a15]) rfl ?_
  refine En_callS rfl rfl rfl rfl rfl rfl rfl rfl rfl (c_108ax σ0 hσ0 z35 b (geI rfl (by omega)) (leI rfl (by omega)) (geI rfl (by omega)) (leI rfl (by omega))) (by decide) (by decide) (fun v37 σ38 h36 => ?_)
  obtain ⟨h39, h40, z42, rfl, h41⟩ := h36
  have h43 := h41.2.2
  obtain rfl : σ0 = σ38 := Fr_nil h40
  refine En_callV rfl rfl rfl rfl rfl rfl rfl rfl ha15 (by decide +kernel) rfl (c_31x σ0 hσ0 a15 ha15 b z42 (geI rfl (by omega)) (leI rfl (by omega)) (geI rfl (by omega)) (leI rfl (by omega)) a18 ha18 h17 a21 ha21 h20 z24 h23 (by omega)) (by decide) (by decide) (fun v45 σ46 h44 => ?_)
  obtain ⟨h47, h48, z50, h51, rfl, h49⟩ := h44
  have h52 := h49.2.2.2.2
  have h53 := Fr_trans hF0 h48 (by decide +kernel)
  refine En_Ps 2 (pc' := 28) (lv' := [(3, .ref a15), (0, .ref 0), (1, .int a), (2, .int b)]) (st' := [.int a, .ref 0]) rfl ?_
  refine En_callV rfl rfl rfl rfl rfl rfl rfl rfl (by decide +kernel : TG 0 = 0) (by decide +kernel) rfl (c_114 σ46 h47 a (geI rfl (by omega)) (leI rfl (by omega)) p hp ((h48 _ _ (inW (by decide +kernel : TG 0 = 0) (by decide +kernel))).trans h_p) sg ((h48 _ _ (inW hp (by decide +kernel))).trans h_sg) (by omega)) (by decide) (by decide) (fun v58 σ59 h57 => ?_)
  obtain ⟨h60, h61, z63, rfl, h62⟩ := h57
  obtain rfl : σ46 = σ59 := Fr_nil h61
  refine En_Ps 2 (pc' := 34) (lv' := [(4, .int z63), (3, .ref a15), (0, .ref 0), (1, .int a), (2, .int b)]) (st' := [.ref a15]) rfl ?_
  refine En_callV rfl rfl rfl rfl rfl rfl rfl rfl ha15 (by decide +kernel) rfl (c_33x σ46 h47 a15 ha15 a18 ha18 ((h48 _ _ (inW ha15 (by decide +kernel))).trans h17) a21 ha21 ((h48 _ _ (inW ha15 (by decide +kernel))).trans h20) z50 h51 (by omega)) (by decide) (by decide) (fun v65 σ66 h64 => ?_)
  obtain ⟨h67, h68, z70, h71, rfl, h69⟩ := h64
  have h72 := h69.2.2.2.2.2.2
  have h73 := Fr_trans h53 h68 (by decide +kernel)
  refine En_Ps 2 (pc' := 40) (lv' := [(4, .int z63), (3, .ref a15), (0, .ref 0), (1, .int a), (2, .int b)]) (st' := [.ref 0, .int z63]) rfl ?_
  refine En_callV rfl rfl rfl rfl rfl rfl rfl rfl (by decide +kernel : TG 0 = 0) (by decide +kernel) rfl (c_160 σ66 h67 p hp ((h68 _ _ (inW (by decide +kernel : TG 0 = 0) (by decide +kernel))).trans ((h48 _ _ (inW (by decide +kernel : TG 0 = 0) (by decide +kernel))).trans h_p)) sg ((h68 _ _ (inW hp (by decide +kernel))).trans ((h48 _ _ (inW hp (by decide +kernel))).trans h_sg)) (by omega)) (by decide) (by decide) (fun v75 σ76 h74 => ?_)
  obtain ⟨h77, h78, z80, rfl, h79⟩ := h74
  obtain rfl : σ66 = σ76 := Fr_nil h78
  refine En_Ps 2 (pc' := 45) (lv' := [(4, .int z63), (3, .ref a15), (0, .ref 0), (1, .int a), (2, .int b)]) (st' := [.int ((z80 ^^^ ((Int32.ofInt (-1))))), .int z63]) rfl ?_
  refine En_nam (fun z81 h82 => ?_)
  refine En_Ps 1 (pc' := 46) (lv' := [(4, .int z63), (3, .ref a15), (0, .ref 0), (1, .int a), (2, .int b)]) (st' := [.int ((z63 &&& z81))]) rfl ?_
  refine En_nam (fun z83 h84 => ?_)
  refine En_callS rfl rfl rfl rfl rfl rfl rfl rfl rfl (c_7bx σ66 h67 z83) (by decide) (by decide) (fun v86 σ87 h85 => ?_)
  obtain ⟨h88, h89, z91, rfl, h90⟩ := h85
  obtain rfl : σ66 = σ87 := Fr_nil h89
  exact En_ret (v := some (.int z91)) rfl rfl rfl ⟨h67, h73, z91, rfl, ⟨by omega, by omega, KN_again hK (PLA_B hP) t27 h52 (DRP_e h72 (by omega)) t16 t19 t22 (by omega) (by omega) (by omega) (by omega)⟩⟩
/-- DoorSchool.gainOf(III)I -/
abbrev P_129x (σ0 : SG) (Wv : Int → Int) (a : Int32) (b : Int32) (c : Int32) (p : Nat) (sg : Int32) : PO := fun v σ => WT σ ∧ Fr [(20, 2), (21, 0), (22, 0)] σ0 σ ∧ ∃ ret : Int32, v = some (.int ret) ∧ -ret.toInt - 63 ≤ 0 ∧ ret.toInt - 63 ≤ 0 ∧ (KN σ p Wv (act Wv) ∧ OUT σ0 σ p)
set_option maxRecDepth 10000 in
set_option maxHeartbeats 4000000 in
theorem c_129x {Wv : Int → Int} (σ0 : SG) (hσ0 : WT σ0) (a : Int32) (b : Int32) (c : Int32) (hl_a : 0 ≤ a.toInt) (hu_a : a.toInt ≤ 3) (hl_b : 0 ≤ b.toInt) (hu_b : b.toInt ≤ 15) (hl_c : 0 ≤ c.toInt) (hu_c : c.toInt ≤ 1) (p : Nat) (hp : TG p = 18) (h_p : (σ0 0)[9]? = some (.ref p)) (sg : Int32) (h_sg : (σ0 p)[1]? = some (.int sg)) (hp0 : -sg.toInt ≤ 0) (hP : PLA p) (hX : FXP σ0 p) (hK : KN σ0 p Wv (act Wv)) (hB : WFw Wv) (ha : a.toInt < Wv 2) : En 4 92 none mr_129 (P_129x σ0 Wv a b c p sg) 0 [(0, .ref 0), (1, .int a), (2, .int b), (3, .int c)] [] σ0 := by
  obtain ⟨hl_sg, hu_sg⟩ := WT_int hσ0 (g := 18) hp (by decide +kernel) (l := (-1)) (u := 4) (by decide +kernel) h_sg
  have hF0 : Fr [(20, 2), (21, 0), (22, 0)] σ0 σ0 := Fr_rfl
  have t1 : Wv (0) = sg.toInt := KN_v hK (Or.inl (by decide)) (by omega) (by omega) (by rw [lcO_lt (by decide) (by decide), Nat.add_zero]) rfl h_sg
  obtain ⟨z3, h2, h4, h5⟩ := WT_peekI hσ0 hp (by decide +kernel : FT 18 3 = (0, 0, 4)) (by decide +kernel)
  have t6 : Wv (2) = z3.toInt := KN_v hK (Or.inl (by decide)) (by omega) (by omega) (by rw [lcO_lt (by decide) (by decide), Nat.add_zero]) rfl h2
  refine En_Ps 1 (pc' := 1) (lv' := [(0, .ref 0), (1, .int a), (2, .int b), (3, .int c)]) (st' := [.ref 0]) rfl ?_
  refine En_getK (j := 9) h_p rfl rfl rfl (by decide +kernel : TG 0 = 0) (by decide +kernel) ?_
  refine En_getR (j := 4) (g' := 19) (u := 0) rfl rfl rfl hp (by decide +kernel) hσ0 (by decide +kernel) (fun a8 h7 ha8 => ?_)
  have t9 : a8 = p + 1 := ref_uniq h7 (FXP_fr hP hX hF0 (by decide +kernel)).1
  refine En_Ps 1 (pc' := 8) (lv' := [(0, .ref 0), (1, .int a), (2, .int b), (3, .int c)]) (st' := [.int a, .ref a8]) rfl ?_
  refine En_aald (g' := 28) (u := 0) rfl rfl ha8 (by decide +kernel) hσ0 (by omega) (lnI (by decide +kernel : LN _ = 4) (by omega)) (FTsgl (by decide +kernel)) (fun a11 h10 ha11 => ?_)
  have t12 : a11 = p + 10 + 4 * (a.toInt).toNat := DRe (d := a.toInt) (FXP_fr hP hX hF0 (by decide +kernel)) t9 h10 (by omega) (by omega)
  have t13 := lc_d (d := a.toInt) (by omega) (by omega)
  refine En_getR (j := 0) (g' := 20) (u := 0) rfl rfl rfl ha11 (by decide +kernel) hσ0 (by decide +kernel) (fun a15 h14 ha15 => ?_)
  have t16 : a15 = p + 11 + 4 * (a.toInt).toNat := DLc (d := a.toInt) (FXP_fr hP hX hF0 (by decide +kernel)) t12 h14 (by omega) (by omega)
  obtain ⟨a18, h17, ha18⟩ := WT_peekR (g := 20) (j := 0) (g' := 21) (u := 0) hσ0 ha15 (by decide +kernel) (by decide +kernel)
  have t19 : a18 = p + 12 + 4 * (a.toInt).toNat := DKk (d := a.toInt) (FXP_fr hP hX hF0 (by decide +kernel)) t16 h17 (by omega) (by omega)
  obtain ⟨a21, h20, ha21⟩ := WT_peekR (g := 20) (j := 1) (g' := 22) (u := 0) hσ0 ha15 (by decide +kernel) (by decide +kernel)
  have t22 : a21 = p + 13 + 4 * (a.toInt).toNat := DKo (d := a.toInt) (FXP_fr hP hX hF0 (by decide +kernel)) t16 h20 (by omega) (by omega)
  obtain ⟨z24, h23, h25, h26⟩ := WT_peekI hσ0 ha15 (by decide +kernel : FT 20 2 = (0, 0, 13)) (by decide +kernel)
  have t27 : Wv (12 + 4 * (a.toInt)) = z24.toInt := KN_v hK (Or.inr (Or.inl ⟨by omega, by omega, by omega⟩)) (by omega) (by omega) (by omega) (by omega) h23
  have h28 := hB.2.2.2.2.2.2 a.toInt (by omega) (by omega)
  have : z24.toInt ≤ 12 := by omega
  refine En_Ps 4 (pc' := 17) (lv' := [(4, .ref a15), (0, .ref 0), (1, .int a), (2, .int b), (3, .int c)]) (st' := [.int a, .ref 0, .ref 0]) rfl ?_
  refine En_callV rfl rfl rfl rfl rfl rfl rfl rfl (by decide +kernel : TG 0 = 0) (by decide +kernel) rfl (c_114 σ0 hσ0 a (geI rfl (by omega)) (leI rfl (by omega)) p hp h_p sg h_sg (by omega)) (by decide) (by decide) (fun v33 σ34 h32 => ?_)
  obtain ⟨h35, h36, z38, rfl, h37⟩ := h32
  obtain rfl : σ0 = σ34 := Fr_nil h36
  refine En_callV rfl rfl rfl rfl rfl rfl rfl rfl (by decide +kernel : TG 0 = 0) (by decide +kernel) rfl (c_156 σ0 hσ0 z38 p hp h_p sg h_sg (by omega)) (by decide) (by decide) (fun v40 σ41 h39 => ?_)
  obtain ⟨h42, h43, z45, rfl, h44⟩ := h39
  obtain rfl : σ0 = σ41 := Fr_nil h43
  refine En_Ps 4 (pc' := 29) (lv' := [(5, .int z45), (4, .ref a15), (0, .ref 0), (1, .int a), (2, .int b), (3, .int c)]) (st' := [.int c, .int b, .ref a15]) rfl ?_
  refine En_callV rfl rfl rfl rfl rfl rfl rfl rfl ha15 (by decide +kernel) rfl (c_31x σ0 hσ0 a15 ha15 b c (geI rfl (by omega)) (leI rfl (by omega)) (geI rfl (by omega)) (leI rfl (by omega)) a18 ha18 h17 a21 ha21 h20 z24 h23 (by omega)) (by decide) (by decide) (fun v47 σ48 h46 => ?_)
  obtain ⟨h49, h50, z52, h53, rfl, h51⟩ := h46
  have h54 := h51.2.2.2.2
  have h55 := Fr_trans hF0 h50 (by decide +kernel)
  refine En_Ps 3 (pc' := 35) (lv' := [(5, .int z45), (4, .ref a15), (0, .ref 0), (1, .int a), (2, .int b), (3, .int c)]) (st' := [.int a, .ref 0, .ref 0]) rfl ?_
  refine En_callV rfl rfl rfl rfl rfl rfl rfl rfl (by decide +kernel : TG 0 = 0) (by decide +kernel) rfl (c_114 σ48 h49 a (geI rfl (by omega)) (leI rfl (by omega)) p hp ((h50 _ _ (inW (by decide +kernel : TG 0 = 0) (by decide +kernel))).trans h_p) sg ((h50 _ _ (inW hp (by decide +kernel))).trans h_sg) (by omega)) (by decide) (by decide) (fun v60 σ61 h59 => ?_)
  obtain ⟨h62, h63, z65, rfl, h64⟩ := h59
  obtain rfl : σ48 = σ61 := Fr_nil h63
  refine En_callV rfl rfl rfl rfl rfl rfl rfl rfl (by decide +kernel : TG 0 = 0) (by decide +kernel) rfl (c_156 σ48 h49 z65 p hp ((h50 _ _ (inW (by decide +kernel : TG 0 = 0) (by decide +kernel))).trans h_p) sg ((h50 _ _ (inW hp (by decide +kernel))).trans h_sg) (by omega)) (by decide) (by decide) (fun v67 σ68 h66 => ?_)
  obtain ⟨h69, h70, z72, rfl, h71⟩ := h66
  obtain rfl : σ48 = σ68 := Fr_nil h70
  refine En_Ps 2 (pc' := 45) (lv' := [(6, .int z72), (5, .int z45), (4, .ref a15), (0, .ref 0), (1, .int a), (2, .int b), (3, .int c)]) (st' := [.ref a15]) rfl ?_
  refine En_callV rfl rfl rfl rfl rfl rfl rfl rfl ha15 (by decide +kernel) rfl (c_33x σ48 h49 a15 ha15 a18 ha18 ((h50 _ _ (inW ha15 (by decide +kernel))).trans h17) a21 ha21 ((h50 _ _ (inW ha15 (by decide +kernel))).trans h20) z52 h53 (by omega)) (by decide) (by decide) (fun v74 σ75 h73 => ?_)
  obtain ⟨h76, h77, z79, h80, rfl, h78⟩ := h73
  have h81 := h78.2.2.2.2.2.2
  have h82 := Fr_trans h55 h77 (by decide +kernel)
  refine En_Ps 3 (pc' := 53) (lv' := [(6, .int z72), (5, .int z45), (4, .ref a15), (0, .ref 0), (1, .int a), (2, .int b), (3, .int c)]) (st' := [.int ((z72 - z45))]) rfl ?_
  refine En_top (subI rfl rfl (by omega) (by omega)) (fun z83 h84 => ?_)
  exact En_ret (v := some (.int z83)) rfl rfl rfl ⟨h76, h82, z83, rfl, ⟨by omega, by omega, KN_again hK (PLA_B hP) t27 h54 (DRP_e h81 (by omega)) t16 t19 t22 (by omega) (by omega) (by omega) (by omega)⟩⟩
/-- DoorSchool.isLesson(III)Z -/
abbrev P_144x (σ0 : SG) (Wv : Int → Int) (a : Int32) (b : Int32) (c : Int32) (p : Nat) (sg : Int32) : PO := fun v σ => WT σ ∧ Fr [] σ0 σ ∧ ∃ ret : Int32, v = some (.int ret) ∧ -ret.toInt ≤ 0 ∧ ret.toInt - 1 ≤ 0 ∧ Imp (ret.toInt ≤ 0 ∧ -ret.toInt ≤ 0) (-a.toInt - 2147483648 ≤ 0 ∧ a.toInt - 2147483647 ≤ 0) ∧ Imp (ret.toInt - 1 ≤ 0 ∧ -ret.toInt + 1 ≤ 0) (-a.toInt ≤ 0 ∧ a.toInt - 3 ≤ 0 ∧ -b.toInt ≤ 0 ∧ b.toInt - 15 ≤ 0 ∧ -c.toInt ≤ 0 ∧ c.toInt - 1 ≤ 0) ∧ ((ret.toInt = 1 ∧ okL Wv a.toInt b.toInt c.toInt) ∨ (ret.toInt = 0 ∧ ¬ okL Wv a.toInt b.toInt c.toInt))
set_option maxRecDepth 10000 in
set_option maxHeartbeats 4000000 in
theorem c_144x {Wv : Int → Int} (σ0 : SG) (hσ0 : WT σ0) (a : Int32) (b : Int32) (c : Int32) (p : Nat) (hp : TG p = 18) (h_p : (σ0 0)[9]? = some (.ref p)) (sg : Int32) (h_sg : (σ0 p)[1]? = some (.int sg)) (hp0 : -sg.toInt ≤ 0) (hP : PLA p) (hX : FXP σ0 p) (hK : KN σ0 p Wv (act Wv)) : En 2 41 none mr_144 (P_144x σ0 Wv a b c p sg) 0 [(0, .ref 0), (1, .int a), (2, .int b), (3, .int c)] [] σ0 := by
  obtain ⟨hl_sg, hu_sg⟩ := WT_int hσ0 (g := 18) hp (by decide +kernel) (l := (-1)) (u := 4) (by decide +kernel) h_sg
  have hF0 : Fr [] σ0 σ0 := Fr_rfl
  have t1 : Wv (0) = sg.toInt := KN_v hK (Or.inl (by decide)) (by omega) (by omega) (by rw [lcO_lt (by decide) (by decide), Nat.add_zero]) rfl h_sg
  refine En_Ps 1 (pc' := 1) (lv' := [(0, .ref 0), (1, .int a), (2, .int b), (3, .int c)]) (st' := [.ref 0]) rfl ?_
  refine En_getK (j := 9) h_p rfl rfl rfl (by decide +kernel : TG 0 = 0) (by decide +kernel) ?_
  refine En_Ps 1 (pc' := 5) (lv' := [(0, .ref 0), (1, .int a), (2, .int b), (3, .int c)]) (st' := [.int a, .ref p]) rfl ?_
  obtain ⟨z3, h2, h4, h5⟩ := WT_peekI hσ0 hp (by decide +kernel : FT 18 3 = (0, 0, 4)) (by decide +kernel)
  have t6 : Wv (2) = z3.toInt := KN_v hK (Or.inl (by decide)) (by omega) (by omega) (by rw [lcO_lt (by decide) (by decide), Nat.add_zero]) rfl h2
  refine En_callV rfl rfl rfl rfl rfl rfl rfl rfl hp (by decide +kernel) rfl (c_47x σ0 hσ0 p hp a z3 h2) (by decide) (by decide) (fun v8 σ9 h7 => ?_)
  obtain ⟨h10, h11, z13, rfl, h12⟩ := h7
  obtain rfl : σ0 = σ9 := Fr_nil h11
  refine En_iEq _ rfl rfl (fun h14 => ?_) (fun h14 => ?_)
  · have h15 := Imp_m h12.2.2.2.2.1 (by omega)
    refine En_Ps 1 (pc' := 34) (lv' := [(0, .ref 0), (1, .int a), (2, .int b), (3, .int c)]) (st' := [.int ((Int32.ofInt 0))]) rfl ?_
    refine En_top (by decide : (Int32.ofInt 0).toInt = 0) (fun z16 h17 => ?_)
    exact En_ret (v := some (.int z16)) rfl rfl (retZ rfl rfl (by omega) (by omega)) ⟨hσ0, hF0, z16, rfl, ⟨by omega, by omega, fun _ => by omega, fun _ => by omega, Or.inr ⟨by omega, fun ⟨q1, q2, q3, q4, q5, q6, q7⟩ => by omega⟩⟩⟩
  · have h18 := Imp_m h12.2.2.1 (by omega)
    have h19 := Imp_m h12.2.2.2.1 (by omega)
    have h20 := Imp_m h12.2.2.2.2.2 (by omega)
    refine En_Ps 1 (pc' := 12) (lv' := [(0, .ref 0), (1, .int a), (2, .int b), (3, .int c)]) (st' := [.ref 0]) rfl ?_
    refine En_getK (j := 9) h_p rfl rfl rfl (by decide +kernel : TG 0 = 0) (by decide +kernel) ?_
    refine En_Ps 1 (pc' := 16) (lv' := [(0, .ref 0), (1, .int a), (2, .int b), (3, .int c)]) (st' := [.int b, .ref p]) rfl ?_
    obtain ⟨z22, h21, h23, h24⟩ := WT_peekI hσ0 hp (by decide +kernel : FT 18 0 = (0, 0, 1601)) (by decide +kernel)
    have t25 : Wv (7) = z22.toInt := KN_v hK (Or.inl (by decide)) (by omega) (by omega) (by rw [lcO_lt (by decide) (by decide), Nat.add_zero]) rfl h21
    refine En_callV rfl rfl rfl rfl rfl rfl rfl rfl hp (by decide +kernel) rfl (c_49x σ0 hσ0 p hp b z22 h21 sg h_sg (by omega)) (by decide) (by decide) (fun v27 σ28 h26 => ?_)
    obtain ⟨h29, h30, z32, rfl, h31⟩ := h26
    have h33 := h31.2.2.2
    obtain rfl : σ0 = σ28 := Fr_nil h30
    have h34 := h33
    have h35 : pI (Wv 0) = pI (sg.toInt) := by rw [t1]
    refine En_iEq _ rfl rfl (fun h36 => ?_) (fun h36 => ?_)
    · refine En_Ps 1 (pc' := 34) (lv' := [(0, .ref 0), (1, .int a), (2, .int b), (3, .int c)]) (st' := [.int ((Int32.ofInt 0))]) rfl ?_
      refine En_top (by decide : (Int32.ofInt 0).toInt = 0) (fun z37 h38 => ?_)
      exact En_ret (v := some (.int z37)) rfl rfl (retZ rfl rfl (by omega) (by omega)) ⟨hσ0, hF0, z37, rfl, ⟨by omega, by omega, fun _ => by omega, fun _ => by omega, Or.inr ⟨by omega, fun ⟨q1, q2, q3, q4, q5, q6, q7⟩ => by omega⟩⟩⟩
    · have h39 := Imp_m h31.2.2.1 (by omega)
      refine En_Ps 1 (pc' := 23) (lv' := [(0, .ref 0), (1, .int a), (2, .int b), (3, .int c)]) (st' := [.int c]) rfl ?_
      refine En_callS rfl rfl rfl rfl rfl rfl rfl rfl rfl (c_149 σ0 hσ0 c) (by decide) (by decide) (fun v41 σ42 h40 => ?_)
      obtain ⟨h43, h44, z46, rfl, h45⟩ := h40
      obtain rfl : σ0 = σ42 := Fr_nil h44
      refine En_iEq _ rfl rfl (fun h47 => ?_) (fun h47 => ?_)
      · refine En_Ps 1 (pc' := 34) (lv' := [(0, .ref 0), (1, .int a), (2, .int b), (3, .int c)]) (st' := [.int ((Int32.ofInt 0))]) rfl ?_
        refine En_top (by decide : (Int32.ofInt 0).toInt = 0) (fun z48 h49 => ?_)
        exact En_ret (v := some (.int z48)) rfl rfl (retZ rfl rfl (by omega) (by omega)) ⟨hσ0, hF0, z48, rfl, ⟨by omega, by omega, fun _ => by omega, fun _ => by omega, Or.inr ⟨by omega, fun ⟨q1, q2, q3, q4, q5, q6, q7⟩ => by omega⟩⟩⟩
      · refine En_Ps 2 (pc' := 34) (lv' := [(0, .ref 0), (1, .int a), (2, .int b), (3, .int c)]) (st' := [.int ((Int32.ofInt 1))]) rfl ?_
        refine En_top (by decide : (Int32.ofInt 1).toInt = 1) (fun z50 h51 => ?_)
        exact En_ret (v := some (.int z50)) rfl rfl (retZ rfl rfl (by omega) (by omega)) ⟨hσ0, hF0, z50, rfl, ⟨by omega, by omega, fun _ => by omega, fun _ => by omega, Or.inl ⟨by omega, by omega, by omega, by omega, by omega, by omega, by omega, by omega⟩⟩⟩
/-- DoorSchool.gains(III)I -/
abbrev P_130x (σ0 : SG) (Wv : Int → Int) (a : Int32) (b : Int32) (c : Int32) (p : Nat) (sg : Int32) : PO := fun v σ => WT σ ∧ Fr [(20, 2), (21, 0), (22, 0)] σ0 σ ∧ ∃ ret : Int32, v = some (.int ret) ∧ -ret.toInt - 1000 ≤ 0 ∧ ret.toInt - 63 ≤ 0 ∧ (KN σ p Wv (act Wv) ∧ OUT σ0 σ p)
set_option maxRecDepth 10000 in
set_option maxHeartbeats 4000000 in
theorem c_130x {Wv : Int → Int} (σ0 : SG) (hσ0 : WT σ0) (a : Int32) (b : Int32) (c : Int32) (p : Nat) (hp : TG p = 18) (h_p : (σ0 0)[9]? = some (.ref p)) (sg : Int32) (h_sg : (σ0 p)[1]? = some (.int sg)) (hp0 : -sg.toInt ≤ 0) (hP : PLA p) (hX : FXP σ0 p) (hK : KN σ0 p Wv (act Wv)) (hB : WFw Wv) : En 5 118 none mr_130 (P_130x σ0 Wv a b c p sg) 0 [(0, .ref 0), (1, .int a), (2, .int b), (3, .int c)] [] σ0 := by
  obtain ⟨hl_sg, hu_sg⟩ := WT_int hσ0 (g := 18) hp (by decide +kernel) (l := (-1)) (u := 4) (by decide +kernel) h_sg
  have hF0 : Fr [(20, 2), (21, 0), (22, 0)] σ0 σ0 := Fr_rfl
  have t1 : Wv (0) = sg.toInt := KN_v hK (Or.inl (by decide)) (by omega) (by omega) (by rw [lcO_lt (by decide) (by decide), Nat.add_zero]) rfl h_sg
  obtain ⟨z3, h2, h4, h5⟩ := WT_peekI hσ0 hp (by decide +kernel : FT 18 3 = (0, 0, 4)) (by decide +kernel)
  have t6 : Wv (2) = z3.toInt := KN_v hK (Or.inl (by decide)) (by omega) (by omega) (by rw [lcO_lt (by decide) (by decide), Nat.add_zero]) rfl h2
  refine En_Ps 4 (pc' := 4) (lv' := [(0, .ref 0), (1, .int a), (2, .int b), (3, .int c)]) (st' := [.int c, .int b, .int a, .ref 0]) rfl ?_
  refine En_callV rfl rfl rfl rfl rfl rfl rfl rfl (by decide +kernel : TG 0 = 0) (by decide +kernel) rfl (c_144x σ0 hσ0 a b c p hp h_p sg h_sg (by omega) hP (FXP_fr hP hX hF0 (by decide +kernel)) hK) (by decide) (by decide) (fun v8 σ9 h7 => ?_)
  obtain ⟨h10, h11, z13, rfl, h12⟩ := h7
  have h14 := h12.2.2.2.2
  obtain rfl : σ0 = σ9 := Fr_nil h11
  have h15 := h14
  refine En_iEq _ rfl rfl (fun h16 => ?_) (fun h16 => ?_)
  · have h17 := Imp_m h12.2.2.1 (by omega)
    refine En_Ps 1 (pc' := 23) (lv' := [(0, .ref 0), (1, .int a), (2, .int b), (3, .int c)]) (st' := [.int (((Int16.ofInt (-1000)).toInt32))]) rfl ?_
    refine En_top (by decide : ((Int16.ofInt (-1000)).toInt32).toInt = -1000) (fun z18 h19 => ?_)
    exact En_ret (v := some (.int z18)) rfl rfl rfl ⟨hσ0, hF0, z18, rfl, ⟨by omega, by omega, ⟨hK, OUT_0⟩⟩⟩
  · have h20 := Imp_m h12.2.2.2.1 (by omega)
    have h21 : okL Wv a.toInt b.toInt c.toInt := by rcases h15 with q | q; exact q.2; exfalso; omega
    have := h21.1
    have := h21.2.1
    refine En_Ps 4 (pc' := 14) (lv' := [(0, .ref 0), (1, .int a), (2, .int b), (3, .int c)]) (st' := [.int c, .int b, .int a, .ref 0]) rfl ?_
    refine En_callV rfl rfl rfl rfl rfl rfl rfl rfl (by decide +kernel : TG 0 = 0) (by decide +kernel) rfl (c_129x σ0 hσ0 a b c (geI rfl (by omega)) (leI rfl (by omega)) (geI rfl (by omega)) (leI rfl (by omega)) (geI rfl (by omega)) (leI rfl (by omega)) p hp h_p sg h_sg (by omega) hP (FXP_fr hP hX hF0 (by decide +kernel)) hK hB (by omega)) (by decide) (by decide) (fun v23 σ24 h22 => ?_)
    obtain ⟨h25, h26, z28, rfl, h27⟩ := h22
    have h29 := h27.2.2
    have h30 := Fr_trans hF0 h26 (by decide +kernel)
    have h31 := h29.2
    refine En_Ps 1 (pc' := 23) (lv' := [(0, .ref 0), (1, .int a), (2, .int b), (3, .int c)]) (st' := [.int z28]) rfl ?_
    exact En_ret (v := some (.int z28)) rfl rfl rfl ⟨h25, h30, z28, rfl, ⟨by omega, by omega, ⟨h29.1, h31⟩⟩⟩
/-- DoorSchool.harden(I)I -/
abbrev P_135x (σ0 : SG) (Wv : Int → Int) (a : Int32) (p : Nat) (sg : Int32) : PO := fun v σ => WT σ ∧ Fr [(20, 2), (21, 0), (22, 0)] σ0 σ ∧ ∃ ret : Int32, v = some (.int ret) ∧ -ret.toInt - 2 ≤ 0 ∧ ret.toInt - 15 ≤ 0 ∧ Imp (-ret.toInt - 1 ≤ 0) (-a.toInt ≤ 0 ∧ a.toInt - 3 ≤ 0) ∧ Imp (-ret.toInt ≤ 0) (ret.toInt - 15 ≤ 0) ∧ (KN σ p Wv (act Wv) ∧ OUT σ0 σ p)
set_option maxRecDepth 10000 in
set_option maxHeartbeats 4000000 in
theorem c_135x {Wv : Int → Int} (σ0 : SG) (hσ0 : WT σ0) (a : Int32) (p : Nat) (hp : TG p = 18) (h_p : (σ0 0)[9]? = some (.ref p)) (sg : Int32) (h_sg : (σ0 p)[1]? = some (.int sg)) (hp0 : -sg.toInt ≤ 0) (hP : PLA p) (hX : FXP σ0 p) (hK : KN σ0 p Wv (act Wv)) (hB : WFw Wv) : En 5 116 none mr_135 (P_135x σ0 Wv a p sg) 0 [(0, .ref 0), (1, .int a)] [] σ0 := by
  obtain ⟨hl_sg, hu_sg⟩ := WT_int hσ0 (g := 18) hp (by decide +kernel) (l := (-1)) (u := 4) (by decide +kernel) h_sg
  have hF0 : Fr [(20, 2), (21, 0), (22, 0)] σ0 σ0 := Fr_rfl
  have t1 : Wv (0) = sg.toInt := KN_v hK (Or.inl (by decide)) (by omega) (by omega) (by rw [lcO_lt (by decide) (by decide), Nat.add_zero]) rfl h_sg
  obtain ⟨z3, h2, h4, h5⟩ := WT_peekI hσ0 hp (by decide +kernel : FT 18 3 = (0, 0, 4)) (by decide +kernel)
  have t6 : Wv (2) = z3.toInt := KN_v hK (Or.inl (by decide)) (by omega) (by omega) (by rw [lcO_lt (by decide) (by decide), Nat.add_zero]) rfl h2
  refine En_Ps 1 (pc' := 1) (lv' := [(0, .ref 0), (1, .int a)]) (st' := [.ref 0]) rfl ?_
  refine En_getK (j := 9) h_p rfl rfl rfl (by decide +kernel : TG 0 = 0) (by decide +kernel) ?_
  refine En_Ps 1 (pc' := 5) (lv' := [(0, .ref 0), (1, .int a)]) (st' := [.int a, .ref p]) rfl ?_
  refine En_callV rfl rfl rfl rfl rfl rfl rfl rfl hp (by decide +kernel) rfl (c_47x σ0 hσ0 p hp a z3 h2) (by decide) (by decide) (fun v8 σ9 h7 => ?_)
  obtain ⟨h10, h11, z13, rfl, h12⟩ := h7
  obtain rfl : σ0 = σ9 := Fr_nil h11
  refine En_iNe _ rfl rfl (fun h14 => ?_) (fun h14 => ?_)
  · have h15 := Imp_m h12.2.2.1 (by omega)
    have h16 := Imp_m h12.2.2.2.1 (by omega)
    have h17 := Imp_m h12.2.2.2.2.2 (by omega)
    refine En_Ps 4 (pc' := 18) (lv' := [(2, .int ((Int32.ofInt (-1)))), (0, .ref 0), (1, .int a)]) (st' := [.int a, .ref 0]) rfl ?_
    refine En_callV rfl rfl rfl rfl rfl rfl rfl rfl (by decide +kernel : TG 0 = 0) (by decide +kernel) rfl (c_126 σ0 hσ0 a (geI rfl (by omega)) (leI rfl (by omega)) p hp h_p sg h_sg (by omega)) (by decide) (by decide) (fun v19 σ20 h18 => ?_)
    obtain ⟨h21, h22, z24, rfl, h23⟩ := h18
    obtain rfl : σ0 = σ20 := Fr_nil h22
    refine En_callS rfl rfl rfl rfl rfl rfl rfl rfl rfl (c_7bx σ0 hσ0 z24) (by decide) (by decide) (fun v26 σ27 h25 => ?_)
    obtain ⟨h28, h29, z31, rfl, h30⟩ := h25
    obtain rfl : σ0 = σ27 := Fr_nil h29
    refine En_Ps 3 (pc' := 28) (lv' := [(4, .int ((Int32.ofInt 0))), (3, .int z31), (2, .int ((Int32.ofInt (-1)))), (0, .ref 0), (1, .int a)]) (st' := []) rfl ?_
    have key28 : ∀ (n28 : Nat) (σ35 : SG) (y32 : Int32) (y33 : Int32) (y34 : Int32), WT σ35 → Fr [(20, 2), (21, 0), (22, 0)] σ0 σ35 → (σ35 0)[9]? = some (.ref p) → (σ35 p)[1]? = some (.int sg) → (σ35 p)[3]? = some (.int z3) → (-1) ≤ y32.toInt → y32.toInt ≤ 15 → 0 ≤ y33.toInt → y33.toInt ≤ 63 → 0 ≤ y34.toInt → y34.toInt ≤ 16 → y32.toInt - y34.toInt + 1 ≤ 0 → -y34.toInt + 16 < (n28 : Int) → KN σ35 p Wv (act Wv) → OUT σ0 σ35 p → En 5 116 none mr_135 (P_135x σ0 Wv a p sg) 28 [(0, .ref 0), (1, .int a), (2, .int y32), (3, .int y33), (4, .int y34)] [] σ35 := by
      intro n28
      induction n28 with
      | zero =>
        intro σ35 y32 y33 y34 h36 h37 h38 h39 h40 h41 h42 h43 h44 h45 h46 h47 h48 h49 h50
        exfalso; omega
      | succ n28 ih28 =>
        intro σ35 y32 y33 y34 h36 h37 h38 h39 h40 h41 h42 h43 h44 h45 h46 h47 h48 h49 h50
        refine En_Ps 2 (pc' := 31) (lv' := [(0, .ref 0), (1, .int a), (2, .int y32), (3, .int y33), (4, .int y34)]) (st' := [.ref 0, .int y34]) rfl ?_
        refine En_getK (j := 9) h38 rfl rfl rfl (by decide +kernel : TG 0 = 0) (by decide +kernel) ?_
        refine En_callV rfl rfl rfl rfl rfl rfl rfl rfl hp (by decide +kernel) rfl (c_51x σ35 h36 p hp sg h39 (by omega)) (by decide) (by decide) (fun v52 σ53 h51 => ?_)
        obtain ⟨h54, h55, z57, rfl, h56⟩ := h51
        have h58 := h56.2.2
        obtain rfl : σ35 = σ53 := Fr_nil h55
        refine En_icGe _ rfl rfl rfl (fun h59 => ?_) (fun h59 => ?_)
        · refine En_Ps 1 (pc' := 68) (lv' := [(0, .ref 0), (1, .int a), (2, .int y32), (3, .int y33), (4, .int y34)]) (st' := [.int y32]) rfl ?_
          exact En_ret (v := some (.int y32)) rfl rfl rfl ⟨h36, h37, y32, rfl, ⟨by omega, by omega, fun _ => by omega, fun _ => by omega, ⟨h49, h50⟩⟩⟩
        · refine En_Ps 3 (pc' := 44) (lv' := [(0, .ref 0), (1, .int a), (2, .int y32), (3, .int y33), (4, .int y34)]) (st' := [.int y34, .int a, .ref 0]) rfl ?_
          refine En_callV rfl rfl rfl rfl rfl rfl rfl rfl (by decide +kernel : TG 0 = 0) (by decide +kernel) rfl (c_127x σ35 h36 a y34 (geI rfl (by omega)) (leI rfl (by omega)) (geI rfl (by omega)) (leI rfl (by omega)) p hp h38 sg h39 (by omega) hP (FXP_fr hP hX h37 (by decide +kernel)) h49 hB (by omega)) (by decide) (by decide) (fun v61 σ62 h60 => ?_)
          obtain ⟨h63, h64, z66, rfl, h65⟩ := h60
          have h67 := h65.2.2
          have h68 := Fr_trans h37 h64 (by decide +kernel)
          have h69 := OUT_tr h50 h67.2
          refine En_Ps 3 (pc' := 52) (lv' := [(5, .int z66), (0, .ref 0), (1, .int a), (2, .int y32), (3, .int y33), (4, .int y34)]) (st' := [.int y33, .int z66]) rfl ?_
          refine En_icGe _ rfl rfl rfl (fun h70 => ?_) (fun h70 => ?_)
          · refine En_Ps 1 (pc' := 64) (lv' := [(4, .int ((y34 + Int32.ofInt 1))), (5, .int z66), (0, .ref 0), (1, .int a), (2, .int y32), (3, .int y33)]) (st' := []) rfl ?_
            refine En_lv1 (addI rfl (by decide : (Int32.ofInt 1).toInt = 1) (by omega) (by omega)) (fun z71 h72 => ?_)
            refine En_Ps 1 (pc' := 28) (lv' := [(4, .int z71), (5, .int z66), (0, .ref 0), (1, .int a), (2, .int y32), (3, .int y33)]) (st' := []) rfl ?_
            refine En_lv (lv := [(0, .ref 0), (1, .int a), (2, .int y32), (3, .int y33), (4, .int z71)]) ⟨rfl, rfl, rfl, rfl, rfl, trivial⟩ ?_
            exact ih28 σ62 y32 y33 z71 h63 h68 ((h64 _ _ (inW (by decide +kernel : TG 0 = 0) (by decide +kernel))).trans h38) ((h64 _ _ (inW hp (by decide +kernel))).trans h39) ((h64 _ _ (inW hp (by decide +kernel))).trans h40) (by omega) (by omega) (by omega) (by omega) (by omega) (by omega) (by omega) (by omega) (h67.1) (h69)
          · refine En_Ps 5 (pc' := 64) (lv' := [(4, .int ((y34 + Int32.ofInt 1))), (2, .int y34), (3, .int z66), (5, .int z66), (0, .ref 0), (1, .int a)]) (st' := []) rfl ?_
            refine En_lv1 (addI rfl (by decide : (Int32.ofInt 1).toInt = 1) (by omega) (by omega)) (fun z73 h74 => ?_)
            refine En_Ps 1 (pc' := 28) (lv' := [(4, .int z73), (2, .int y34), (3, .int z66), (5, .int z66), (0, .ref 0), (1, .int a)]) (st' := []) rfl ?_
            refine En_lv (lv := [(0, .ref 0), (1, .int a), (2, .int y34), (3, .int z66), (4, .int z73)]) ⟨rfl, rfl, rfl, rfl, rfl, trivial⟩ ?_
            exact ih28 σ62 y34 z66 z73 h63 h68 ((h64 _ _ (inW (by decide +kernel : TG 0 = 0) (by decide +kernel))).trans h38) ((h64 _ _ (inW hp (by decide +kernel))).trans h39) ((h64 _ _ (inW hp (by decide +kernel))).trans h40) (by omega) (by omega) (by omega) (by omega) (by omega) (by omega) (by omega) (by omega) (h67.1) (h69)
    have := (by decide : (Int32.ofInt (-1)).toInt = -1)
    have := (by decide : (Int32.ofInt 0).toInt = 0)
    refine En_lv (lv := [(0, .ref 0), (1, .int a), (2, .int ((Int32.ofInt (-1)))), (3, .int z31), (4, .int ((Int32.ofInt 0)))]) ⟨rfl, rfl, rfl, rfl, rfl, trivial⟩ ?_
    exact key28 (Int.toNat (16) + 1) σ0 ((Int32.ofInt (-1))) z31 ((Int32.ofInt 0)) hσ0 hF0 h_p h_sg h2 (by omega) (by omega) (by omega) (by omega) (by omega) (by omega) (by omega) (by omega) (hK) (OUT_0)
  · have h75 := Imp_m h12.2.2.2.2.1 (by omega)
    refine En_Ps 1 (pc' := 13) (lv' := [(0, .ref 0), (1, .int a)]) (st' := [.int (((Int8.ofInt (-2)).toInt32))]) rfl ?_
    refine En_top (by decide : ((Int8.ofInt (-2)).toInt32).toInt = -2) (fun z76 h77 => ?_)
    exact En_ret (v := some (.int z76)) rfl rfl rfl ⟨hσ0, hF0, z76, rfl, ⟨by omega, by omega, fun _ => by omega, fun _ => by omega, ⟨hK, OUT_0⟩⟩⟩
/-- DoorSchool.help(I)I -/
abbrev P_136x (σ0 : SG) (Wv : Int → Int) (a : Int32) (p : Nat) (sg : Int32) : PO := fun v σ => WT σ ∧ Fr [(20, 2), (21, 0), (22, 0)] σ0 σ ∧ ∃ ret : Int32, v = some (.int ret) ∧ -ret.toInt - 2 ≤ 0 ∧ ret.toInt - 49 ≤ 0 ∧ (KN σ p Wv (act Wv) ∧ OUT σ0 σ p)
set_option maxRecDepth 10000 in
set_option maxHeartbeats 4000000 in
theorem c_136x {Wv : Int → Int} (σ0 : SG) (hσ0 : WT σ0) (a : Int32) (p : Nat) (hp : TG p = 18) (h_p : (σ0 0)[9]? = some (.ref p)) (sg : Int32) (h_sg : (σ0 p)[1]? = some (.int sg)) (hp0 : -sg.toInt ≤ 0) (hP : PLA p) (hX : FXP σ0 p) (hK : KN σ0 p Wv (act Wv)) (hB : WFw Wv) : En 5 118 none mr_136 (P_136x σ0 Wv a p sg) 0 [(0, .ref 0), (1, .int a)] [] σ0 := by
  obtain ⟨hl_sg, hu_sg⟩ := WT_int hσ0 (g := 18) hp (by decide +kernel) (l := (-1)) (u := 4) (by decide +kernel) h_sg
  have hF0 : Fr [(20, 2), (21, 0), (22, 0)] σ0 σ0 := Fr_rfl
  have t1 : Wv (0) = sg.toInt := KN_v hK (Or.inl (by decide)) (by omega) (by omega) (by rw [lcO_lt (by decide) (by decide), Nat.add_zero]) rfl h_sg
  obtain ⟨z3, h2, h4, h5⟩ := WT_peekI hσ0 hp (by decide +kernel : FT 18 3 = (0, 0, 4)) (by decide +kernel)
  have t6 : Wv (2) = z3.toInt := KN_v hK (Or.inl (by decide)) (by omega) (by omega) (by rw [lcO_lt (by decide) (by decide), Nat.add_zero]) rfl h2
  refine En_Ps 1 (pc' := 1) (lv' := [(0, .ref 0), (1, .int a)]) (st' := [.ref 0]) rfl ?_
  refine En_getK (j := 9) h_p rfl rfl rfl (by decide +kernel : TG 0 = 0) (by decide +kernel) ?_
  refine En_Ps 1 (pc' := 5) (lv' := [(0, .ref 0), (1, .int a)]) (st' := [.int a, .ref p]) rfl ?_
  refine En_callV rfl rfl rfl rfl rfl rfl rfl rfl hp (by decide +kernel) rfl (c_47x σ0 hσ0 p hp a z3 h2) (by decide) (by decide) (fun v8 σ9 h7 => ?_)
  obtain ⟨h10, h11, z13, rfl, h12⟩ := h7
  obtain rfl : σ0 = σ9 := Fr_nil h11
  refine En_iNe _ rfl rfl (fun h14 => ?_) (fun h14 => ?_)
  · have h15 := Imp_m h12.2.2.1 (by omega)
    have h16 := Imp_m h12.2.2.2.1 (by omega)
    have h17 := Imp_m h12.2.2.2.2.2 (by omega)
    refine En_Ps 6 (pc' := 21) (lv' := [(4, .int ((Int32.ofInt 0))), (3, .int ((Int32.ofInt 0))), (2, .int ((Int32.ofInt (-1)))), (0, .ref 0), (1, .int a)]) (st' := []) rfl ?_
    have key21 : ∀ (n21 : Nat) (σ21 : SG) (y18 : Int32) (y19 : Int32) (y20 : Int32), WT σ21 → Fr [(20, 2), (21, 0), (22, 0)] σ0 σ21 → (σ21 0)[9]? = some (.ref p) → (σ21 p)[1]? = some (.int sg) → (σ21 p)[3]? = some (.int z3) → (-1) ≤ y18.toInt → y18.toInt ≤ 50 → 0 ≤ y19.toInt → y19.toInt ≤ 63 → 0 ≤ y20.toInt → y20.toInt ≤ 50 → y18.toInt - y20.toInt + 1 ≤ 0 → -y20.toInt + 50 < (n21 : Int) → KN σ21 p Wv (act Wv) → OUT σ0 σ21 p → En 5 118 none mr_136 (P_136x σ0 Wv a p sg) 21 [(0, .ref 0), (1, .int a), (2, .int y18), (3, .int y19), (4, .int y20)] [] σ21 := by
      intro n21
      induction n21 with
      | zero =>
        intro σ21 y18 y19 y20 h22 h23 h24 h25 h26 h27 h28 h29 h30 h31 h32 h33 h34 h35 h36
        exfalso; omega
      | succ n21 ih21 =>
        intro σ21 y18 y19 y20 h22 h23 h24 h25 h26 h27 h28 h29 h30 h31 h32 h33 h34 h35 h36
        refine En_Ps 3 (pc' := 25) (lv' := [(0, .ref 0), (1, .int a), (2, .int y18), (3, .int y19), (4, .int y20)]) (st' := [.ref 0, .int ((Int32.ofInt 2)), .int y20]) rfl ?_
        refine En_getK (j := 9) h24 rfl rfl rfl (by decide +kernel : TG 0 = 0) (by decide +kernel) ?_
        refine En_callV rfl rfl rfl rfl rfl rfl rfl rfl hp (by decide +kernel) rfl (c_51x σ21 h22 p hp sg h25 (by omega)) (by decide) (by decide) (fun v38 σ39 h37 => ?_)
        obtain ⟨h40, h41, z43, rfl, h42⟩ := h37
        have h44 := h42.2.2
        obtain rfl : σ21 = σ39 := Fr_nil h41
        refine En_Ps 1 (pc' := 32) (lv' := [(0, .ref 0), (1, .int a), (2, .int y18), (3, .int y19), (4, .int y20)]) (st' := [.int ((((Int32.ofInt 2)) * z43)), .int y20]) rfl ?_
        refine En_top (mulI (by decide : (Int32.ofInt 2).toInt = 2) rfl (Z := 2 * z43.toInt) (by omega) (by omega) (by omega)) (fun z45 h46 => ?_)
        refine En_icGe _ rfl rfl rfl (fun h47 => ?_) (fun h47 => ?_)
        · refine En_Ps 1 (pc' := 69) (lv' := [(0, .ref 0), (1, .int a), (2, .int y18), (3, .int y19), (4, .int y20)]) (st' := [.int y18]) rfl ?_
          exact En_ret (v := some (.int y18)) rfl rfl rfl ⟨h22, h23, y18, rfl, ⟨by omega, by omega, ⟨h35, h36⟩⟩⟩
        · refine En_Ps 4 (pc' := 40) (lv' := [(0, .ref 0), (1, .int a), (2, .int y18), (3, .int y19), (4, .int y20)]) (st' := [.int ((Int32.ofInt 2)), .int y20, .int a, .ref 0]) rfl ?_
          refine En_idiv (c := 2) rfl rfl (by decide : (Int32.ofInt 2).toInt = 2) (by omega) (by decide) (fun z48 h49 => ?_)
          refine En_Ps 2 (pc' := 44) (lv' := [(0, .ref 0), (1, .int a), (2, .int y18), (3, .int y19), (4, .int y20)]) (st' := [.int ((Int32.ofInt 2)), .int y20, .int z48, .int a, .ref 0]) rfl ?_
          refine En_irem (c := 2) rfl rfl (by decide : (Int32.ofInt 2).toInt = 2) (by omega) (by decide) (fun z50 h51 => ?_)
          refine En_callV rfl rfl rfl rfl rfl rfl rfl rfl (by decide +kernel : TG 0 = 0) (by decide +kernel) rfl (c_129x σ21 h22 a z48 z50 (geI rfl (by omega)) (leI rfl (by omega)) (geI rfl (by omega)) (leI rfl (by omega)) (geI rfl (by omega)) (leI rfl (by omega)) p hp h24 sg h25 (by omega) hP (FXP_fr hP hX h23 (by decide +kernel)) h35 hB (by omega)) (by decide) (by decide) (fun v53 σ54 h52 => ?_)
          obtain ⟨h55, h56, z58, rfl, h57⟩ := h52
          have h59 := h57.2.2
          have h60 := Fr_trans h23 h56 (by decide +kernel)
          have h61 := OUT_tr h36 h59.2
          refine En_Ps 3 (pc' := 53) (lv' := [(5, .int z58), (0, .ref 0), (1, .int a), (2, .int y18), (3, .int y19), (4, .int y20)]) (st' := [.int y19, .int z58]) rfl ?_
          refine En_icLe _ rfl rfl rfl (fun h62 => ?_) (fun h62 => ?_)
          · refine En_Ps 1 (pc' := 65) (lv' := [(4, .int ((y20 + Int32.ofInt 1))), (5, .int z58), (0, .ref 0), (1, .int a), (2, .int y18), (3, .int y19)]) (st' := []) rfl ?_
            refine En_lv1 (addI rfl (by decide : (Int32.ofInt 1).toInt = 1) (by omega) (by omega)) (fun z63 h64 => ?_)
            refine En_Ps 1 (pc' := 21) (lv' := [(4, .int z63), (5, .int z58), (0, .ref 0), (1, .int a), (2, .int y18), (3, .int y19)]) (st' := []) rfl ?_
            refine En_lv (lv := [(0, .ref 0), (1, .int a), (2, .int y18), (3, .int y19), (4, .int z63)]) ⟨rfl, rfl, rfl, rfl, rfl, trivial⟩ ?_
            exact ih21 σ54 y18 y19 z63 h55 h60 ((h56 _ _ (inW (by decide +kernel : TG 0 = 0) (by decide +kernel))).trans h24) ((h56 _ _ (inW hp (by decide +kernel))).trans h25) ((h56 _ _ (inW hp (by decide +kernel))).trans h26) (by omega) (by omega) (by omega) (by omega) (by omega) (by omega) (by omega) (by omega) (h59.1) (h61)
          · refine En_Ps 5 (pc' := 65) (lv' := [(4, .int ((y20 + Int32.ofInt 1))), (2, .int y20), (3, .int z58), (5, .int z58), (0, .ref 0), (1, .int a)]) (st' := []) rfl ?_
            refine En_lv1 (addI rfl (by decide : (Int32.ofInt 1).toInt = 1) (by omega) (by omega)) (fun z65 h66 => ?_)
            refine En_Ps 1 (pc' := 21) (lv' := [(4, .int z65), (2, .int y20), (3, .int z58), (5, .int z58), (0, .ref 0), (1, .int a)]) (st' := []) rfl ?_
            refine En_lv (lv := [(0, .ref 0), (1, .int a), (2, .int y20), (3, .int z58), (4, .int z65)]) ⟨rfl, rfl, rfl, rfl, rfl, trivial⟩ ?_
            exact ih21 σ54 y20 z58 z65 h55 h60 ((h56 _ _ (inW (by decide +kernel : TG 0 = 0) (by decide +kernel))).trans h24) ((h56 _ _ (inW hp (by decide +kernel))).trans h25) ((h56 _ _ (inW hp (by decide +kernel))).trans h26) (by omega) (by omega) (by omega) (by omega) (by omega) (by omega) (by omega) (by omega) (h59.1) (h61)
    have := (by decide : (Int32.ofInt (-1)).toInt = -1)
    have := (by decide : (Int32.ofInt 0).toInt = 0)
    have := (by decide : (Int32.ofInt 0).toInt = 0)
    refine En_lv (lv := [(0, .ref 0), (1, .int a), (2, .int ((Int32.ofInt (-1)))), (3, .int ((Int32.ofInt 0))), (4, .int ((Int32.ofInt 0)))]) ⟨rfl, rfl, rfl, rfl, rfl, trivial⟩ ?_
    exact key21 (Int.toNat (50) + 1) σ0 ((Int32.ofInt (-1))) ((Int32.ofInt 0)) ((Int32.ofInt 0)) hσ0 hF0 h_p h_sg h2 (by omega) (by omega) (by omega) (by omega) (by omega) (by omega) (by omega) (by omega) (hK) (OUT_0)
  · have h67 := Imp_m h12.2.2.2.2.1 (by omega)
    refine En_Ps 1 (pc' := 13) (lv' := [(0, .ref 0), (1, .int a)]) (st' := [.int (((Int8.ofInt (-2)).toInt32))]) rfl ?_
    refine En_top (by decide : ((Int8.ofInt (-2)).toInt32).toInt = -2) (fun z68 h69 => ?_)
    exact En_ret (v := some (.int z68)) rfl rfl rfl ⟨hσ0, hF0, z68, rfl, ⟨by omega, by omega, ⟨hK, OUT_0⟩⟩⟩

