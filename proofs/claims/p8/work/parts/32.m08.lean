/-- DoorSchoolModel.end(I)I -/
abbrev P_221x (σ0 : SG) (a : Int32) (m : Int32) : PO := fun v σ => WT σ ∧ Fr [(35, 5)] σ0 σ ∧ ∃ m1 : Int32, (σ 159)[5]? = some (.int m1) ∧ ∃ ret : Int32, v = some (.int ret) ∧ -ret.toInt - 1 ≤ 0 ∧ ret.toInt - 1600 ≤ 0 ∧ -m1.toInt ≤ 0 ∧ m1.toInt - 1600 ≤ 0 ∧ -m1.toInt + m.toInt - 1600 ≤ 0 ∧ m1.toInt - m.toInt ≤ 0 ∧ Imp (-a.toInt ≤ 0 ∧ a.toInt - m.toInt ≤ 0) (m1.toInt - a.toInt ≤ 0 ∧ -m1.toInt + a.toInt ≤ 0 ∧ ret.toInt - a.toInt ≤ 0 ∧ -ret.toInt + a.toInt ≤ 0) ∧ Imp (a.toInt + 1 ≤ 0) (m1.toInt - m.toInt ≤ 0 ∧ -m1.toInt + m.toInt ≤ 0 ∧ ret.toInt + 1 ≤ 0 ∧ -ret.toInt - 1 ≤ 0) ∧ Imp (m.toInt - a.toInt + 1 ≤ 0) (m1.toInt - m.toInt ≤ 0 ∧ -m1.toInt + m.toInt ≤ 0 ∧ ret.toInt + 1 ≤ 0 ∧ -ret.toInt - 1 ≤ 0)
set_option maxRecDepth 10000 in
set_option maxHeartbeats 4000000 in
theorem c_221x (σ0 : SG) (hσ0 : WT σ0) (a : Int32) (m : Int32) (h_m : (σ0 159)[5]? = some (.int m)) : En 1 25 none mr_221 (P_221x σ0 a m) 0 [(0, .ref 159), (1, .int a)] [] σ0 := by
  obtain ⟨hl_m, hu_m⟩ := WT_int hσ0 (g := 35) (by decide +kernel) (by decide +kernel) (l := 0) (u := 1600) (by decide +kernel) h_m
  have hF0 : Fr [(35, 5)] σ0 σ0 := Fr_rfl
  refine En_Ps 4 (pc' := 4) (lv' := [(0, .ref 159), (1, .int a)]) (st' := [.ref 159, .long ((Int64.ofNat 0)), .long a.toInt64]) rfl ?_
  refine En_getK (j := 5) h_m rfl rfl rfl (by decide +kernel : TG 159 = 35) (by decide +kernel) ?_
  refine En_Ps 1 (pc' := 8) (lv' := [(0, .ref 159), (1, .int a)]) (st' := [.long m.toInt64, .long ((Int64.ofNat 0)), .long a.toInt64]) rfl ?_
  have : a.toInt64.toInt = a.toInt := (i2lI rfl)
  have := (by decide : ((Int64.ofNat 0)).toInt = 0)
  have : m.toInt64.toInt = m.toInt := (i2lI rfl)
  refine En_callS rfl rfl rfl rfl rfl rfl rfl rfl rfl (c_249 σ0 hσ0 a.toInt64 ((Int64.ofNat 0)) m.toInt64) (by decide) (by decide) (fun v2 σ3 h1 => ?_)
  obtain ⟨h4, h5, z7, rfl, h6⟩ := h1
  have h8 := Fr_trans hF0 h5 (by decide +kernel)
  refine En_iNe _ rfl rfl (fun h9 => ?_) (fun h9 => ?_)
  · refine En_Ps 2 (pc' := 18) (lv' := [(0, .ref 159), (1, .int a)]) (st' := [.int a, .ref 159]) rfl ?_
    refine En_put (j := 5) rfl rfl rfl (by decide +kernel : TG 159 = 35) (by decide +kernel) rfl (vI (l := 0) (u := 1600) (by decide +kernel) rfl (by omega) (by omega)) h4 h8 (by decide +kernel) (fun σ10 h11 h12 h13 h14 => ?_)
    refine En_Ps 1 (pc' := 22) (lv' := [(0, .ref 159), (1, .int a)]) (st' := [.int a]) rfl ?_
    exact En_ret (v := some (.int a)) rfl rfl rfl ⟨h11, h12, a, h13, a, rfl, ⟨by omega, by omega, by omega, by omega, by omega, by omega, fun _ => by omega, fun _ => by omega, fun _ => by omega⟩⟩
  · refine En_Ps 1 (pc' := 15) (lv' := [(0, .ref 159), (1, .int a)]) (st' := [.int ((Int32.ofInt (-1)))]) rfl ?_
    refine En_top (by decide : (Int32.ofInt (-1)).toInt = -1) (fun z15 h16 => ?_)
    exact En_ret (v := some (.int z15)) rfl rfl rfl ⟨h4, h8, m, ((h5 _ _ (inW (by decide +kernel : TG 159 = 35) (by decide +kernel))).trans h_m), z15, rfl, ⟨by omega, by omega, by omega, by omega, by omega, by omega, fun _ => by omega, fun _ => by omega, fun _ => by omega⟩⟩
/-- DoorSchoolModel.isExam(I)Z -/
abbrev P_255x (σ0 : SG) (a : Int32) (ne : Int32) : PO := fun v σ => WT σ ∧ Fr [] σ0 σ ∧ ∃ ret : Int32, v = some (.int ret) ∧ -ret.toInt ≤ 0 ∧ ret.toInt - 1 ≤ 0 ∧ Imp (-ret.toInt + 1 ≤ 0) (-a.toInt ≤ 0 ∧ a.toInt - ne.toInt + 1 ≤ 0) ∧ Imp (-a.toInt ≤ 0 ∧ a.toInt - ne.toInt + 1 ≤ 0) (-ret.toInt + 1 ≤ 0) ∧ Imp (ret.toInt ≤ 0 ∧ -ret.toInt ≤ 0) (-a.toInt - 2147483648 ≤ 0 ∧ a.toInt - 2147483647 ≤ 0) ∧ Imp (ret.toInt - 1 ≤ 0 ∧ -ret.toInt + 1 ≤ 0) (-a.toInt ≤ 0 ∧ a.toInt - 11 ≤ 0)
set_option maxRecDepth 10000 in
set_option maxHeartbeats 4000000 in
theorem c_255x (σ0 : SG) (hσ0 : WT σ0) (a : Int32) (ne : Int32) (h_ne : (σ0 160)[(3 : Int).toNat]? = some (.int ne)) : En 1 25 none mr_255 (P_255x σ0 a ne) 0 [(0, .ref 159), (1, .int a)] [] σ0 := by
  obtain ⟨hl_ne, hu_ne⟩ := WT_int hσ0 (g := 36) (by decide +kernel) (by decide +kernel) (l := 0) (u := 12) (by decide +kernel) h_ne
  have := Int32.le_toInt a
  have := Int32.toInt_lt a
  have hF0 : Fr [] σ0 σ0 := Fr_rfl
  refine En_Ps 4 (pc' := 4) (lv' := [(0, .ref 159), (1, .int a)]) (st' := [.ref 159, .long ((Int64.ofNat 0)), .long a.toInt64]) rfl ?_
  refine En_getU (j := 1) (u := 160) (g' := 36) (q := 0) rfl rfl rfl (by decide +kernel : TG 159 = 35) (by decide +kernel) hσ0 (by decide +kernel) (by decide +kernel) (fun h1 => ?_)
  refine En_Ps 1 (pc' := 8) (lv' := [(0, .ref 159), (1, .int a)]) (st' := [.int ((Int32.ofInt 3)), .ref 160, .long ((Int64.ofNat 0)), .long a.toInt64]) rfl ?_
  refine En_ialdK h_ne rfl (by decide : (Int32.ofInt 3).toInt = 3) (by decide +kernel : TG 160 = 36) (by decide +kernel) hσ0 (by omega) (lnI (by decide +kernel : LN _ = 226) (by omega)) ?_
  refine En_Ps 2 (pc' := 11) (lv' := [(0, .ref 159), (1, .int a)]) (st' := [.int ((ne - ((Int32.ofInt 1)))), .long ((Int64.ofNat 0)), .long a.toInt64]) rfl ?_
  refine En_top (subI rfl (by decide : (Int32.ofInt 1).toInt = 1) (by omega) (by omega)) (fun z4 h5 => ?_)
  refine En_Ps 1 (pc' := 12) (lv' := [(0, .ref 159), (1, .int a)]) (st' := [.long z4.toInt64, .long ((Int64.ofNat 0)), .long a.toInt64]) rfl ?_
  have : a.toInt64.toInt = a.toInt := (i2lI rfl)
  have := (by decide : ((Int64.ofNat 0)).toInt = 0)
  have : z4.toInt64.toInt = z4.toInt := (i2lI rfl)
  refine En_callS rfl rfl rfl rfl rfl rfl rfl rfl rfl (c_249 σ0 hσ0 a.toInt64 ((Int64.ofNat 0)) z4.toInt64) (by decide) (by decide) (fun v7 σ8 h6 => ?_)
  obtain ⟨h9, h10, z12, rfl, h11⟩ := h6
  have h13 := Fr_trans hF0 h10 (by decide +kernel)
  exact En_ret (v := some (.int z12)) rfl rfl (retZ rfl rfl (by omega) (by omega)) ⟨h9, h13, z12, rfl, ⟨by omega, by omega, fun _ => by omega, fun _ => by omega, fun _ => by omega, fun _ => by omega⟩⟩
/-- DoorSchoolModel.exam(II)I -/
abbrev P_224x (σ0 : SG) (a : Int32) (b : Int32) : PO := fun v σ => WT σ ∧ Fr [] σ0 σ ∧ ∃ ret : Int32, v = some (.int ret) ∧ -ret.toInt - 2 ≤ 0 ∧ ret.toInt - 15 ≤ 0 ∧ ret.toInt = exR (wf σ0) a.toInt b.toInt
set_option maxRecDepth 10000 in
set_option maxHeartbeats 4000000 in
theorem c_224x (σ0 : SG) (hσ0 : WT σ0) (a : Int32) (b : Int32) : En 2 46 none mr_224 (P_224x σ0 a b) 0 [(0, .ref 159), (1, .int a), (2, .int b)] [] σ0 := by
  have hF0 : Fr [] σ0 σ0 := Fr_rfl
  refine En_Ps 2 (pc' := 2) (lv' := [(0, .ref 159), (1, .int a), (2, .int b)]) (st' := [.int a, .ref 159]) rfl ?_
  obtain ⟨z2, h1, h3, h4⟩ := WT_peekI hσ0 (by decide +kernel : TG 160 = 36) (by decide +kernel : FT 36 (3 : Int).toNat = (0, 0, 12)) (by decide +kernel)
  refine En_callV rfl rfl rfl rfl rfl rfl rfl rfl (by decide +kernel : TG 159 = 35) (by decide +kernel) rfl (c_255x σ0 hσ0 a z2 h1) (by decide) (by decide) (fun v6 σ7 h5 => ?_)
  obtain ⟨h8, h9, z11, rfl, h10⟩ := h5
  obtain rfl : σ0 = σ7 := Fr_nil h9
  have w12 : wf σ0 (3) = z2.toInt := ci_at h1 (by omega)
  refine En_iEq _ rfl rfl (fun h13 => ?_) (fun h13 => ?_)
  · have h14 := Imp_m h10.2.2.2.2.1 (by omega)
    refine En_Ps 1 (pc' := 36) (lv' := [(0, .ref 159), (1, .int a), (2, .int b)]) (st' := [.int (((Int8.ofInt (-2)).toInt32))]) rfl ?_
    refine En_top (by decide : ((Int8.ofInt (-2)).toInt32).toInt = -2) (fun z15 h16 => ?_)
    exact En_ret (v := some (.int z15)) rfl rfl rfl ⟨hσ0, hF0, z15, rfl, ⟨by omega, by omega, (by have e := exR_n (w := wf σ0) (d := a.toInt) (q := b.toInt) (by omega); omega)⟩⟩
  · have h17 := Imp_m h10.2.2.1 (by omega)
    have h18 := Imp_m h10.2.2.2.1 (by omega)
    have h19 := Imp_m h10.2.2.2.2.2 (by omega)
    refine En_Ps 4 (pc' := 12) (lv' := [(0, .ref 159), (1, .int a), (2, .int b)]) (st' := [.long ((Int64.ofNat 1)), .long ((Int64.ofNat 0)), .long b.toInt64]) rfl ?_
    have : b.toInt64.toInt = b.toInt := (i2lI rfl)
    have := (by decide : ((Int64.ofNat 0)).toInt = 0)
    have := (by decide : ((Int64.ofNat 1)).toInt = 1)
    refine En_callS rfl rfl rfl rfl rfl rfl rfl rfl rfl (c_249 σ0 hσ0 b.toInt64 ((Int64.ofNat 0)) ((Int64.ofNat 1))) (by decide) (by decide) (fun v21 σ22 h20 => ?_)
    obtain ⟨h23, h24, z26, rfl, h25⟩ := h20
    obtain rfl : σ0 = σ22 := Fr_nil h24
    refine En_iEq _ rfl rfl (fun h27 => ?_) (fun h27 => ?_)
    · refine En_Ps 1 (pc' := 36) (lv' := [(0, .ref 159), (1, .int a), (2, .int b)]) (st' := [.int (((Int8.ofInt (-2)).toInt32))]) rfl ?_
      refine En_top (by decide : ((Int8.ofInt (-2)).toInt32).toInt = -2) (fun z28 h29 => ?_)
      exact En_ret (v := some (.int z28)) rfl rfl rfl ⟨hσ0, hF0, z28, rfl, ⟨by omega, by omega, (by have e := exR_n (w := wf σ0) (d := a.toInt) (q := b.toInt) (by omega); omega)⟩⟩
    · refine En_Ps 1 (pc' := 19) (lv' := [(0, .ref 159), (1, .int a), (2, .int b)]) (st' := [.ref 159]) rfl ?_
      refine En_getU (j := 1) (u := 160) (g' := 36) (q := 0) rfl rfl rfl (by decide +kernel : TG 159 = 35) (by decide +kernel) hσ0 (by decide +kernel) (by decide +kernel) (fun h30 => ?_)
      refine En_Ps 4 (pc' := 27) (lv' := [(0, .ref 159), (1, .int a), (2, .int b)]) (st' := [.int ((((Int32.ofInt 2)) * a)), .int (((Int8.ofInt 122).toInt32)), .ref 160]) rfl ?_
      refine En_top (mulI (by decide : (Int32.ofInt 2).toInt = 2) rfl (Z := 2 * a.toInt) (by omega) (by omega) (by omega)) (fun z32 h33 => ?_)
      refine En_Ps 1 (pc' := 28) (lv' := [(0, .ref 159), (1, .int a), (2, .int b)]) (st' := [.int (((((Int8.ofInt 122).toInt32)) + z32)), .ref 160]) rfl ?_
      refine En_top (addI (by decide : ((Int8.ofInt 122).toInt32).toInt = 122) rfl (by omega) (by omega)) (fun z34 h35 => ?_)
      refine En_Ps 2 (pc' := 30) (lv' := [(0, .ref 159), (1, .int a), (2, .int b)]) (st' := [.int ((z34 + b)), .ref 160]) rfl ?_
      refine En_top (addI rfl rfl (by omega) (by omega)) (fun z36 h37 => ?_)
      rcases (show z36.toInt = 122 ∨ z36.toInt = 123 ∨ z36.toInt = 124 ∨ z36.toInt = 125 ∨ z36.toInt = 126 ∨ z36.toInt = 127 ∨ z36.toInt = 128 ∨ z36.toInt = 129 ∨ z36.toInt = 130 ∨ z36.toInt = 131 ∨ z36.toInt = 132 ∨ z36.toInt = 133 ∨ z36.toInt = 134 ∨ z36.toInt = 135 ∨ z36.toInt = 136 ∨ z36.toInt = 137 ∨ z36.toInt = 138 ∨ z36.toInt = 139 ∨ z36.toInt = 140 ∨ z36.toInt = 141 ∨ z36.toInt = 142 ∨ z36.toInt = 143 ∨ z36.toInt = 144 ∨ z36.toInt = 145 by omega) with h38 | h38 | h38 | h38 | h38 | h38 | h38 | h38 | h38 | h38 | h38 | h38 | h38 | h38 | h38 | h38 | h38 | h38 | h38 | h38 | h38 | h38 | h38 | h38
      · refine En_iald (l := 0) (u := 15) rfl h38 (by decide +kernel : TG 160 = 36) (by decide +kernel) hσ0 (by omega) (lnI (by decide +kernel : LN _ = 226) (by omega)) (by decide +kernel) (fun z40 h39 h41 h42 => ?_)
        refine En_Ps 1 (pc' := 36) (lv' := [(0, .ref 159), (1, .int a), (2, .int b)]) (st' := [.int z40]) rfl ?_
        have w43 : wf σ0 (122) = z40.toInt := ci_at h39 (by omega)
        exact En_ret (v := some (.int z40)) rfl rfl rfl ⟨hσ0, hF0, z40, rfl, ⟨by omega, by omega, (by have e := exR_y (w := wf σ0) (d := a.toInt) (q := b.toInt) (by omega) (by omega) w43; omega)⟩⟩
      · refine En_iald (l := 0) (u := 1) rfl h38 (by decide +kernel : TG 160 = 36) (by decide +kernel) hσ0 (by omega) (lnI (by decide +kernel : LN _ = 226) (by omega)) (by decide +kernel) (fun z45 h44 h46 h47 => ?_)
        refine En_Ps 1 (pc' := 36) (lv' := [(0, .ref 159), (1, .int a), (2, .int b)]) (st' := [.int z45]) rfl ?_
        have w48 : wf σ0 (123) = z45.toInt := ci_at h44 (by omega)
        exact En_ret (v := some (.int z45)) rfl rfl rfl ⟨hσ0, hF0, z45, rfl, ⟨by omega, by omega, (by have e := exR_y (w := wf σ0) (d := a.toInt) (q := b.toInt) (by omega) (by omega) w48; omega)⟩⟩
      · refine En_iald (l := 0) (u := 15) rfl h38 (by decide +kernel : TG 160 = 36) (by decide +kernel) hσ0 (by omega) (lnI (by decide +kernel : LN _ = 226) (by omega)) (by decide +kernel) (fun z50 h49 h51 h52 => ?_)
        refine En_Ps 1 (pc' := 36) (lv' := [(0, .ref 159), (1, .int a), (2, .int b)]) (st' := [.int z50]) rfl ?_
        have w53 : wf σ0 (124) = z50.toInt := ci_at h49 (by omega)
        exact En_ret (v := some (.int z50)) rfl rfl rfl ⟨hσ0, hF0, z50, rfl, ⟨by omega, by omega, (by have e := exR_y (w := wf σ0) (d := a.toInt) (q := b.toInt) (by omega) (by omega) w53; omega)⟩⟩
      · refine En_iald (l := 0) (u := 1) rfl h38 (by decide +kernel : TG 160 = 36) (by decide +kernel) hσ0 (by omega) (lnI (by decide +kernel : LN _ = 226) (by omega)) (by decide +kernel) (fun z55 h54 h56 h57 => ?_)
        refine En_Ps 1 (pc' := 36) (lv' := [(0, .ref 159), (1, .int a), (2, .int b)]) (st' := [.int z55]) rfl ?_
        have w58 : wf σ0 (125) = z55.toInt := ci_at h54 (by omega)
        exact En_ret (v := some (.int z55)) rfl rfl rfl ⟨hσ0, hF0, z55, rfl, ⟨by omega, by omega, (by have e := exR_y (w := wf σ0) (d := a.toInt) (q := b.toInt) (by omega) (by omega) w58; omega)⟩⟩
      · refine En_iald (l := 0) (u := 15) rfl h38 (by decide +kernel : TG 160 = 36) (by decide +kernel) hσ0 (by omega) (lnI (by decide +kernel : LN _ = 226) (by omega)) (by decide +kernel) (fun z60 h59 h61 h62 => ?_)
        refine En_Ps 1 (pc' := 36) (lv' := [(0, .ref 159), (1, .int a), (2, .int b)]) (st' := [.int z60]) rfl ?_
        have w63 : wf σ0 (126) = z60.toInt := ci_at h59 (by omega)
        exact En_ret (v := some (.int z60)) rfl rfl rfl ⟨hσ0, hF0, z60, rfl, ⟨by omega, by omega, (by have e := exR_y (w := wf σ0) (d := a.toInt) (q := b.toInt) (by omega) (by omega) w63; omega)⟩⟩
      · refine En_iald (l := 0) (u := 1) rfl h38 (by decide +kernel : TG 160 = 36) (by decide +kernel) hσ0 (by omega) (lnI (by decide +kernel : LN _ = 226) (by omega)) (by decide +kernel) (fun z65 h64 h66 h67 => ?_)
        refine En_Ps 1 (pc' := 36) (lv' := [(0, .ref 159), (1, .int a), (2, .int b)]) (st' := [.int z65]) rfl ?_
        have w68 : wf σ0 (127) = z65.toInt := ci_at h64 (by omega)
        exact En_ret (v := some (.int z65)) rfl rfl rfl ⟨hσ0, hF0, z65, rfl, ⟨by omega, by omega, (by have e := exR_y (w := wf σ0) (d := a.toInt) (q := b.toInt) (by omega) (by omega) w68; omega)⟩⟩
      · refine En_iald (l := 0) (u := 15) rfl h38 (by decide +kernel : TG 160 = 36) (by decide +kernel) hσ0 (by omega) (lnI (by decide +kernel : LN _ = 226) (by omega)) (by decide +kernel) (fun z70 h69 h71 h72 => ?_)
        refine En_Ps 1 (pc' := 36) (lv' := [(0, .ref 159), (1, .int a), (2, .int b)]) (st' := [.int z70]) rfl ?_
        have w73 : wf σ0 (128) = z70.toInt := ci_at h69 (by omega)
        exact En_ret (v := some (.int z70)) rfl rfl rfl ⟨hσ0, hF0, z70, rfl, ⟨by omega, by omega, (by have e := exR_y (w := wf σ0) (d := a.toInt) (q := b.toInt) (by omega) (by omega) w73; omega)⟩⟩
      · refine En_iald (l := 0) (u := 1) rfl h38 (by decide +kernel : TG 160 = 36) (by decide +kernel) hσ0 (by omega) (lnI (by decide +kernel : LN _ = 226) (by omega)) (by decide +kernel) (fun z75 h74 h76 h77 => ?_)
        refine En_Ps 1 (pc' := 36) (lv' := [(0, .ref 159), (1, .int a), (2, .int b)]) (st' := [.int z75]) rfl ?_
        have w78 : wf σ0 (129) = z75.toInt := ci_at h74 (by omega)
        exact En_ret (v := some (.int z75)) rfl rfl rfl ⟨hσ0, hF0, z75, rfl, ⟨by omega, by omega, (by have e := exR_y (w := wf σ0) (d := a.toInt) (q := b.toInt) (by omega) (by omega) w78; omega)⟩⟩
      · refine En_iald (l := 0) (u := 15) rfl h38 (by decide +kernel : TG 160 = 36) (by decide +kernel) hσ0 (by omega) (lnI (by decide +kernel : LN _ = 226) (by omega)) (by decide +kernel) (fun z80 h79 h81 h82 => ?_)
        refine En_Ps 1 (pc' := 36) (lv' := [(0, .ref 159), (1, .int a), (2, .int b)]) (st' := [.int z80]) rfl ?_
        have w83 : wf σ0 (130) = z80.toInt := ci_at h79 (by omega)
        exact En_ret (v := some (.int z80)) rfl rfl rfl ⟨hσ0, hF0, z80, rfl, ⟨by omega, by omega, (by have e := exR_y (w := wf σ0) (d := a.toInt) (q := b.toInt) (by omega) (by omega) w83; omega)⟩⟩
      · refine En_iald (l := 0) (u := 1) rfl h38 (by decide +kernel : TG 160 = 36) (by decide +kernel) hσ0 (by omega) (lnI (by decide +kernel : LN _ = 226) (by omega)) (by decide +kernel) (fun z85 h84 h86 h87 => ?_)
        refine En_Ps 1 (pc' := 36) (lv' := [(0, .ref 159), (1, .int a), (2, .int b)]) (st' := [.int z85]) rfl ?_
        have w88 : wf σ0 (131) = z85.toInt := ci_at h84 (by omega)
        exact En_ret (v := some (.int z85)) rfl rfl rfl ⟨hσ0, hF0, z85, rfl, ⟨by omega, by omega, (by have e := exR_y (w := wf σ0) (d := a.toInt) (q := b.toInt) (by omega) (by omega) w88; omega)⟩⟩
      · refine En_iald (l := 0) (u := 15) rfl h38 (by decide +kernel : TG 160 = 36) (by decide +kernel) hσ0 (by omega) (lnI (by decide +kernel : LN _ = 226) (by omega)) (by decide +kernel) (fun z90 h89 h91 h92 => ?_)
        refine En_Ps 1 (pc' := 36) (lv' := [(0, .ref 159), (1, .int a), (2, .int b)]) (st' := [.int z90]) rfl ?_
        have w93 : wf σ0 (132) = z90.toInt := ci_at h89 (by omega)
        exact En_ret (v := some (.int z90)) rfl rfl rfl ⟨hσ0, hF0, z90, rfl, ⟨by omega, by omega, (by have e := exR_y (w := wf σ0) (d := a.toInt) (q := b.toInt) (by omega) (by omega) w93; omega)⟩⟩
      · refine En_iald (l := 0) (u := 1) rfl h38 (by decide +kernel : TG 160 = 36) (by decide +kernel) hσ0 (by omega) (lnI (by decide +kernel : LN _ = 226) (by omega)) (by decide +kernel) (fun z95 h94 h96 h97 => ?_)
        refine En_Ps 1 (pc' := 36) (lv' := [(0, .ref 159), (1, .int a), (2, .int b)]) (st' := [.int z95]) rfl ?_
        have w98 : wf σ0 (133) = z95.toInt := ci_at h94 (by omega)
        exact En_ret (v := some (.int z95)) rfl rfl rfl ⟨hσ0, hF0, z95, rfl, ⟨by omega, by omega, (by have e := exR_y (w := wf σ0) (d := a.toInt) (q := b.toInt) (by omega) (by omega) w98; omega)⟩⟩
      · refine En_iald (l := 0) (u := 15) rfl h38 (by decide +kernel : TG 160 = 36) (by decide +kernel) hσ0 (by omega) (lnI (by decide +kernel : LN _ = 226) (by omega)) (by decide +kernel) (fun z100 h99 h101 h102 => ?_)
        refine En_Ps 1 (pc' := 36) (lv' := [(0, .ref 159), (1, .int a), (2, .int b)]) (st' := [.int z100]) rfl ?_
        have w103 : wf σ0 (134) = z100.toInt := ci_at h99 (by omega)
        exact En_ret (v := some (.int z100)) rfl rfl rfl ⟨hσ0, hF0, z100, rfl, ⟨by omega, by omega, (by have e := exR_y (w := wf σ0) (d := a.toInt) (q := b.toInt) (by omega) (by omega) w103; omega)⟩⟩
      · refine En_iald (l := 0) (u := 1) rfl h38 (by decide +kernel : TG 160 = 36) (by decide +kernel) hσ0 (by omega) (lnI (by decide +kernel : LN _ = 226) (by omega)) (by decide +kernel) (fun z105 h104 h106 h107 => ?_)
        refine En_Ps 1 (pc' := 36) (lv' := [(0, .ref 159), (1, .int a), (2, .int b)]) (st' := [.int z105]) rfl ?_
        have w108 : wf σ0 (135) = z105.toInt := ci_at h104 (by omega)
        exact En_ret (v := some (.int z105)) rfl rfl rfl ⟨hσ0, hF0, z105, rfl, ⟨by omega, by omega, (by have e := exR_y (w := wf σ0) (d := a.toInt) (q := b.toInt) (by omega) (by omega) w108; omega)⟩⟩
      · refine En_iald (l := 0) (u := 15) rfl h38 (by decide +kernel : TG 160 = 36) (by decide +kernel) hσ0 (by omega) (lnI (by decide +kernel : LN _ = 226) (by omega)) (by decide +kernel) (fun z110 h109 h111 h112 => ?_)
        refine En_Ps 1 (pc' := 36) (lv' := [(0, .ref 159), (1, .int a), (2, .int b)]) (st' := [.int z110]) rfl ?_
        have w113 : wf σ0 (136) = z110.toInt := ci_at h109 (by omega)
        exact En_ret (v := some (.int z110)) rfl rfl rfl ⟨hσ0, hF0, z110, rfl, ⟨by omega, by omega, (by have e := exR_y (w := wf σ0) (d := a.toInt) (q := b.toInt) (by omega) (by omega) w113; omega)⟩⟩
      · refine En_iald (l := 0) (u := 1) rfl h38 (by decide +kernel : TG 160 = 36) (by decide +kernel) hσ0 (by omega) (lnI (by decide +kernel : LN _ = 226) (by omega)) (by decide +kernel) (fun z115 h114 h116 h117 => ?_)
        refine En_Ps 1 (pc' := 36) (lv' := [(0, .ref 159), (1, .int a), (2, .int b)]) (st' := [.int z115]) rfl ?_
        have w118 : wf σ0 (137) = z115.toInt := ci_at h114 (by omega)
        exact En_ret (v := some (.int z115)) rfl rfl rfl ⟨hσ0, hF0, z115, rfl, ⟨by omega, by omega, (by have e := exR_y (w := wf σ0) (d := a.toInt) (q := b.toInt) (by omega) (by omega) w118; omega)⟩⟩
      · refine En_iald (l := 0) (u := 15) rfl h38 (by decide +kernel : TG 160 = 36) (by decide +kernel) hσ0 (by omega) (lnI (by decide +kernel : LN _ = 226) (by omega)) (by decide +kernel) (fun z120 h119 h121 h122 => ?_)
        refine En_Ps 1 (pc' := 36) (lv' := [(0, .ref 159), (1, .int a), (2, .int b)]) (st' := [.int z120]) rfl ?_
        have w123 : wf σ0 (138) = z120.toInt := ci_at h119 (by omega)
        exact En_ret (v := some (.int z120)) rfl rfl rfl ⟨hσ0, hF0, z120, rfl, ⟨by omega, by omega, (by have e := exR_y (w := wf σ0) (d := a.toInt) (q := b.toInt) (by omega) (by omega) w123; omega)⟩⟩
      · refine En_iald (l := 0) (u := 1) rfl h38 (by decide +kernel : TG 160 = 36) (by decide +kernel) hσ0 (by omega) (lnI (by decide +kernel : LN _ = 226) (by omega)) (by decide +kernel) (fun z125 h124 h126 h127 => ?_)
        refine En_Ps 1 (pc' := 36) (lv' := [(0, .ref 159), (1, .int a), (2, .int b)]) (st' := [.int z125]) rfl ?_
        have w128 : wf σ0 (139) = z125.toInt := ci_at h124 (by omega)
        exact En_ret (v := some (.int z125)) rfl rfl rfl ⟨hσ0, hF0, z125, rfl, ⟨by omega, by omega, (by have e := exR_y (w := wf σ0) (d := a.toInt) (q := b.toInt) (by omega) (by omega) w128; omega)⟩⟩
      · refine En_iald (l := 0) (u := 15) rfl h38 (by decide +kernel : TG 160 = 36) (by decide +kernel) hσ0 (by omega) (lnI (by decide +kernel : LN _ = 226) (by omega)) (by decide +kernel) (fun z130 h129 h131 h132 => ?_)
        refine En_Ps 1 (pc' := 36) (lv' := [(0, .ref 159), (1, .int a), (2, .int b)]) (st' := [.int z130]) rfl ?_
        have w133 : wf σ0 (140) = z130.toInt := ci_at h129 (by omega)
        exact En_ret (v := some (.int z130)) rfl rfl rfl ⟨hσ0, hF0, z130, rfl, ⟨by omega, by omega, (by have e := exR_y (w := wf σ0) (d := a.toInt) (q := b.toInt) (by omega) (by omega) w133; omega)⟩⟩
      · refine En_iald (l := 0) (u := 1) rfl h38 (by decide +kernel : TG 160 = 36) (by decide +kernel) hσ0 (by omega) (lnI (by decide +kernel : LN _ = 226) (by omega)) (by decide +kernel) (fun z135 h134 h136 h137 => ?_)
        refine En_Ps 1 (pc' := 36) (lv' := [(0, .ref 159), (1, .int a), (2, .int b)]) (st' := [.int z135]) rfl ?_
        have w138 : wf σ0 (141) = z135.toInt := ci_at h134 (by omega)
        exact En_ret (v := some (.int z135)) rfl rfl rfl ⟨hσ0, hF0, z135, rfl, ⟨by omega, by omega, (by have e := exR_y (w := wf σ0) (d := a.toInt) (q := b.toInt) (by omega) (by omega) w138; omega)⟩⟩
      · refine En_iald (l := 0) (u := 15) rfl h38 (by decide +kernel : TG 160 = 36) (by decide +kernel) hσ0 (by omega) (lnI (by decide +kernel : LN _ = 226) (by omega)) (by decide +kernel) (fun z140 h139 h141 h142 => ?_)
        refine En_Ps 1 (pc' := 36) (lv' := [(0, .ref 159), (1, .int a), (2, .int b)]) (st' := [.int z140]) rfl ?_
        have w143 : wf σ0 (142) = z140.toInt := ci_at h139 (by omega)
        exact En_ret (v := some (.int z140)) rfl rfl rfl ⟨hσ0, hF0, z140, rfl, ⟨by omega, by omega, (by have e := exR_y (w := wf σ0) (d := a.toInt) (q := b.toInt) (by omega) (by omega) w143; omega)⟩⟩
      · refine En_iald (l := 0) (u := 1) rfl h38 (by decide +kernel : TG 160 = 36) (by decide +kernel) hσ0 (by omega) (lnI (by decide +kernel : LN _ = 226) (by omega)) (by decide +kernel) (fun z145 h144 h146 h147 => ?_)
        refine En_Ps 1 (pc' := 36) (lv' := [(0, .ref 159), (1, .int a), (2, .int b)]) (st' := [.int z145]) rfl ?_
        have w148 : wf σ0 (143) = z145.toInt := ci_at h144 (by omega)
        exact En_ret (v := some (.int z145)) rfl rfl rfl ⟨hσ0, hF0, z145, rfl, ⟨by omega, by omega, (by have e := exR_y (w := wf σ0) (d := a.toInt) (q := b.toInt) (by omega) (by omega) w148; omega)⟩⟩
      · refine En_iald (l := 0) (u := 15) rfl h38 (by decide +kernel : TG 160 = 36) (by decide +kernel) hσ0 (by omega) (lnI (by decide +kernel : LN _ = 226) (by omega)) (by decide +kernel) (fun z150 h149 h151 h152 => ?_)
        refine En_Ps 1 (pc' := 36) (lv' := [(0, .ref 159), (1, .int a), (2, .int b)]) (st' := [.int z150]) rfl ?_
        have w153 : wf σ0 (144) = z150.toInt := ci_at h149 (by omega)
        exact En_ret (v := some (.int z150)) rfl rfl rfl ⟨hσ0, hF0, z150, rfl, ⟨by omega, by omega, (by have e := exR_y (w := wf σ0) (d := a.toInt) (q := b.toInt) (by omega) (by omega) w153; omega)⟩⟩
      · refine En_iald (l := 0) (u := 1) rfl h38 (by decide +kernel : TG 160 = 36) (by decide +kernel) hσ0 (by omega) (lnI (by decide +kernel : LN _ = 226) (by omega)) (by decide +kernel) (fun z155 h154 h156 h157 => ?_)
        refine En_Ps 1 (pc' := 36) (lv' := [(0, .ref 159), (1, .int a), (2, .int b)]) (st' := [.int z155]) rfl ?_
        have w158 : wf σ0 (145) = z155.toInt := ci_at h154 (by omega)
        exact En_ret (v := some (.int z155)) rfl rfl rfl ⟨hσ0, hF0, z155, rfl, ⟨by omega, by omega, (by have e := exR_y (w := wf σ0) (d := a.toInt) (q := b.toInt) (by omega) (by omega) w158; omega)⟩⟩
/-- DoorSchoolModel.fault(I)I -/
abbrev P_225x (σ0 : SG) (a : Int32) (fk : Int32) (fp : Int32) : PO := fun v σ => WT σ ∧ Fr [] σ0 σ ∧ ∃ ret : Int32, v = some (.int ret) ∧ -ret.toInt - 1 ≤ 0 ∧ ret.toInt - 1600 ≤ 0 ∧ Imp (a.toInt ≤ 0 ∧ -a.toInt ≤ 0) (ret.toInt - fk.toInt ≤ 0 ∧ -ret.toInt + fk.toInt ≤ 0) ∧ Imp (a.toInt - 1 ≤ 0 ∧ -a.toInt + 1 ≤ 0) (ret.toInt - fp.toInt ≤ 0 ∧ -ret.toInt + fp.toInt ≤ 0) ∧ Imp (a.toInt + 1 ≤ 0) (ret.toInt + 1 ≤ 0 ∧ -ret.toInt - 1 ≤ 0) ∧ Imp (-a.toInt + 2 ≤ 0) (ret.toInt + 1 ≤ 0 ∧ -ret.toInt - 1 ≤ 0)
set_option maxRecDepth 10000 in
set_option maxHeartbeats 4000000 in
theorem c_225x (σ0 : SG) (hσ0 : WT σ0) (a : Int32) (fk : Int32) (h_fk : (σ0 159)[12]? = some (.int fk)) (fp : Int32) (h_fp : (σ0 159)[13]? = some (.int fp)) : En 0 0 none mr_225 (P_225x σ0 a fk fp) 0 [(0, .ref 159), (1, .int a)] [] σ0 := by
  obtain ⟨hl_fk, hu_fk⟩ := WT_int hσ0 (g := 35) (by decide +kernel) (by decide +kernel) (l := 0) (u := 3) (by decide +kernel) h_fk
  obtain ⟨hl_fp, hu_fp⟩ := WT_int hσ0 (g := 35) (by decide +kernel) (by decide +kernel) (l := (-1)) (u := 1600) (by decide +kernel) h_fp
  have hF0 : Fr [] σ0 σ0 := Fr_rfl
  refine En_Ps 1 (pc' := 1) (lv' := [(0, .ref 159), (1, .int a)]) (st' := [.int a]) rfl ?_
  refine En_iNe _ rfl rfl (fun h1 => ?_) (fun h1 => ?_)
  · refine En_Ps 2 (pc' := 13) (lv' := [(0, .ref 159), (1, .int a)]) (st' := [.int ((Int32.ofInt 1)), .int a]) rfl ?_
    refine En_icNe _ rfl (by decide : (Int32.ofInt 1).toInt = 1) rfl (fun h2 => ?_) (fun h2 => ?_)
    · refine En_Ps 1 (pc' := 24) (lv' := [(0, .ref 159), (1, .int a)]) (st' := [.int ((Int32.ofInt (-1)))]) rfl ?_
      refine En_top (by decide : (Int32.ofInt (-1)).toInt = -1) (fun z3 h4 => ?_)
      exact En_ret (v := some (.int z3)) rfl rfl rfl ⟨hσ0, hF0, z3, rfl, ⟨by omega, by omega, fun _ => by omega, fun _ => by omega, fun _ => by omega, fun _ => by omega⟩⟩
    · refine En_Ps 1 (pc' := 17) (lv' := [(0, .ref 159), (1, .int a)]) (st' := [.ref 159]) rfl ?_
      refine En_getK (j := 13) h_fp rfl rfl rfl (by decide +kernel : TG 159 = 35) (by decide +kernel) ?_
      refine En_Ps 1 (pc' := 24) (lv' := [(0, .ref 159), (1, .int a)]) (st' := [.int fp]) rfl ?_
      exact En_ret (v := some (.int fp)) rfl rfl rfl ⟨hσ0, hF0, fp, rfl, ⟨by omega, by omega, fun _ => by omega, fun _ => by omega, fun _ => by omega, fun _ => by omega⟩⟩
  · refine En_Ps 1 (pc' := 5) (lv' := [(0, .ref 159), (1, .int a)]) (st' := [.ref 159]) rfl ?_
    refine En_getK (j := 12) h_fk rfl rfl rfl (by decide +kernel : TG 159 = 35) (by decide +kernel) ?_
    refine En_Ps 1 (pc' := 24) (lv' := [(0, .ref 159), (1, .int a)]) (st' := [.int fk]) rfl ?_
    exact En_ret (v := some (.int fk)) rfl rfl rfl ⟨hσ0, hF0, fk, rfl, ⟨by omega, by omega, fun _ => by omega, fun _ => by omega, fun _ => by omega, fun _ => by omega⟩⟩
/-- DoorSchoolModel.feed(IIIII)I -/
abbrev P_226x (σ0 : SG) (a : Int32) (b : Int32) (c : Int32) (d : Int32) (e : Int32) (m : Int32) : PO := fun v σ => WT σ ∧ Fr [(35, 5), (39, 0), (40, 0)] σ0 σ ∧ ∃ m1 : Int32, (σ 159)[5]? = some (.int m1) ∧ ∃ ret : Int32, v = some (.int ret) ∧ -ret.toInt - 1 ≤ 0 ∧ ret.toInt - 1600 ≤ 0 ∧ -m1.toInt + 20 ≤ 0 ∧ m1.toInt - 1600 ≤ 0 ∧ -m1.toInt + m.toInt ≤ 0 ∧ m1.toInt - m.toInt - 20 ≤ 0 ∧ Imp (m.toInt - 1580 ≤ 0) (m1.toInt - m.toInt - 20 ≤ 0 ∧ -m1.toInt + m.toInt + 20 ≤ 0 ∧ ret.toInt - m1.toInt ≤ 0 ∧ -ret.toInt + m1.toInt ≤ 0) ∧ Imp (-m.toInt + 1581 ≤ 0) (m1.toInt - m.toInt ≤ 0 ∧ -m1.toInt + m.toInt ≤ 0 ∧ ret.toInt + 1 ≤ 0 ∧ -ret.toInt - 1 ≤ 0) ∧ ((m.toInt ≤ 1580 → FDP σ0 σ 163 m.toInt 20 a b c d e) ∧ (1580 < m.toInt → ∀ i : Int, ci σ 163 i = ci σ0 163 i))
set_option maxRecDepth 10000 in
set_option maxHeartbeats 4000000 in
theorem c_226x (σ0 : SG) (hσ0 : WT σ0) (a : Int32) (b : Int32) (c : Int32) (d : Int32) (e : Int32) (m : Int32) (h_m : (σ0 159)[5]? = some (.int m)) : En 0 0 none mr_226 (P_226x σ0 a b c d e m) 0 [(0, .ref 159), (1, .int a), (2, .int b), (3, .int c), (4, .int d), (5, .int e)] [] σ0 := by
  obtain ⟨hl_m, hu_m⟩ := WT_int hσ0 (g := 35) (by decide +kernel) (by decide +kernel) (l := 0) (u := 1600) (by decide +kernel) h_m
  have hF0 : Fr [(35, 5), (39, 0), (40, 0)] σ0 σ0 := Fr_rfl
  refine En_Ps 1 (pc' := 1) (lv' := [(0, .ref 159), (1, .int a), (2, .int b), (3, .int c), (4, .int d), (5, .int e)]) (st' := [.ref 159]) rfl ?_
  refine En_getK (j := 5) h_m rfl rfl rfl (by decide +kernel : TG 159 = 35) (by decide +kernel) ?_
  refine En_Ps 2 (pc' := 7) (lv' := [(0, .ref 159), (1, .int a), (2, .int b), (3, .int c), (4, .int d), (5, .int e)]) (st' := [.int ((m + (((Int8.ofInt 20).toInt32))))]) rfl ?_
  refine En_top (addI rfl (by decide : ((Int8.ofInt 20).toInt32).toInt = 20) (by omega) (by omega)) (fun z1 h2 => ?_)
  refine En_Ps 1 (pc' := 10) (lv' := [(0, .ref 159), (1, .int a), (2, .int b), (3, .int c), (4, .int d), (5, .int e)]) (st' := [.int (((Int16.ofInt 1600).toInt32)), .int z1]) rfl ?_
  refine En_icLe _ rfl (by decide : ((Int16.ofInt 1600).toInt32).toInt = 1600) rfl (fun h3 => ?_) (fun h3 => ?_)
  · refine En_Ps 1 (pc' := 16) (lv' := [(0, .ref 159), (1, .int a), (2, .int b), (3, .int c), (4, .int d), (5, .int e)]) (st' := [.ref 159]) rfl ?_
    refine En_getU (j := 6) (u := 164) (g' := 40) (q := 0) rfl rfl rfl (by decide +kernel : TG 159 = 35) (by decide +kernel) hσ0 (by decide +kernel) (by decide +kernel) (fun h4 => ?_)
    refine En_Ps 2 (pc' := 21) (lv' := [(0, .ref 159), (1, .int a), (2, .int b), (3, .int c), (4, .int d), (5, .int e)]) (st' := [.int a, .int ((Int32.ofInt 0)), .ref 164]) rfl ?_
    refine En_iast (l := (-2147483648)) (u := 2147483647) rfl (by decide : (Int32.ofInt 0).toInt = 0) (by decide +kernel : TG 164 = 40) (by decide +kernel) (by omega) (lnI (by decide +kernel : LN _ = 5) (by omega)) (FTsgl (by decide +kernel)) (fullI _) hσ0 hF0 (by decide +kernel) (fun σ6 h7 h8 h9 h10 => ?_)
    have h11 : ∀ i : Int, ci σ6 163 i = ci σ0 163 i := fun i => (ci_ne h10 (by decide) i)
    refine En_Ps 1 (pc' := 23) (lv' := [(0, .ref 159), (1, .int a), (2, .int b), (3, .int c), (4, .int d), (5, .int e)]) (st' := [.ref 159]) rfl ?_
    refine En_getK (j := 6) ((h10 _ _ (Or.inl (neTG (by decide +kernel : TG 159 = 35) (by decide +kernel : TG 164 = 40) (by decide)))).trans h4) rfl rfl rfl (by decide +kernel : TG 159 = 35) (by decide +kernel) ?_
    refine En_Ps 2 (pc' := 28) (lv' := [(0, .ref 159), (1, .int a), (2, .int b), (3, .int c), (4, .int d), (5, .int e)]) (st' := [.int b, .int ((Int32.ofInt 1)), .ref 164]) rfl ?_
    refine En_iast (l := (-2147483648)) (u := 2147483647) rfl (by decide : (Int32.ofInt 1).toInt = 1) (by decide +kernel : TG 164 = 40) (by decide +kernel) (by omega) (lnI (by decide +kernel : LN _ = 5) (by omega)) (FTsgl (by decide +kernel)) (fullI _) h7 h8 (by decide +kernel) (fun σ12 h13 h14 h15 h16 => ?_)
    have h17 : ∀ i : Int, ci σ12 163 i = ci σ0 163 i := fun i => (ci_ne h16 (by decide) i).trans (h11 i)
    refine En_Ps 1 (pc' := 30) (lv' := [(0, .ref 159), (1, .int a), (2, .int b), (3, .int c), (4, .int d), (5, .int e)]) (st' := [.ref 159]) rfl ?_
    refine En_getK (j := 6) ((h16 _ _ (Or.inl (neTG (by decide +kernel : TG 159 = 35) (by decide +kernel : TG 164 = 40) (by decide)))).trans ((h10 _ _ (Or.inl (neTG (by decide +kernel : TG 159 = 35) (by decide +kernel : TG 164 = 40) (by decide)))).trans h4)) rfl rfl rfl (by decide +kernel : TG 159 = 35) (by decide +kernel) ?_
    refine En_Ps 2 (pc' := 35) (lv' := [(0, .ref 159), (1, .int a), (2, .int b), (3, .int c), (4, .int d), (5, .int e)]) (st' := [.int c, .int ((Int32.ofInt 2)), .ref 164]) rfl ?_
    refine En_iast (l := (-2147483648)) (u := 2147483647) rfl (by decide : (Int32.ofInt 2).toInt = 2) (by decide +kernel : TG 164 = 40) (by decide +kernel) (by omega) (lnI (by decide +kernel : LN _ = 5) (by omega)) (FTsgl (by decide +kernel)) (fullI _) h13 h14 (by decide +kernel) (fun σ18 h19 h20 h21 h22 => ?_)
    have h23 : ∀ i : Int, ci σ18 163 i = ci σ0 163 i := fun i => (ci_ne h22 (by decide) i).trans (h17 i)
    refine En_Ps 1 (pc' := 37) (lv' := [(0, .ref 159), (1, .int a), (2, .int b), (3, .int c), (4, .int d), (5, .int e)]) (st' := [.ref 159]) rfl ?_
    refine En_getK (j := 6) ((h22 _ _ (Or.inl (neTG (by decide +kernel : TG 159 = 35) (by decide +kernel : TG 164 = 40) (by decide)))).trans ((h16 _ _ (Or.inl (neTG (by decide +kernel : TG 159 = 35) (by decide +kernel : TG 164 = 40) (by decide)))).trans ((h10 _ _ (Or.inl (neTG (by decide +kernel : TG 159 = 35) (by decide +kernel : TG 164 = 40) (by decide)))).trans h4))) rfl rfl rfl (by decide +kernel : TG 159 = 35) (by decide +kernel) ?_
    refine En_Ps 2 (pc' := 43) (lv' := [(0, .ref 159), (1, .int a), (2, .int b), (3, .int c), (4, .int d), (5, .int e)]) (st' := [.int d, .int ((Int32.ofInt 3)), .ref 164]) rfl ?_
    refine En_iast (l := (-2147483648)) (u := 2147483647) rfl (by decide : (Int32.ofInt 3).toInt = 3) (by decide +kernel : TG 164 = 40) (by decide +kernel) (by omega) (lnI (by decide +kernel : LN _ = 5) (by omega)) (FTsgl (by decide +kernel)) (fullI _) h19 h20 (by decide +kernel) (fun σ24 h25 h26 h27 h28 => ?_)
    have h29 : ∀ i : Int, ci σ24 163 i = ci σ0 163 i := fun i => (ci_ne h28 (by decide) i).trans (h23 i)
    refine En_Ps 1 (pc' := 45) (lv' := [(0, .ref 159), (1, .int a), (2, .int b), (3, .int c), (4, .int d), (5, .int e)]) (st' := [.ref 159]) rfl ?_
    refine En_getK (j := 6) ((h28 _ _ (Or.inl (neTG (by decide +kernel : TG 159 = 35) (by decide +kernel : TG 164 = 40) (by decide)))).trans ((h22 _ _ (Or.inl (neTG (by decide +kernel : TG 159 = 35) (by decide +kernel : TG 164 = 40) (by decide)))).trans ((h16 _ _ (Or.inl (neTG (by decide +kernel : TG 159 = 35) (by decide +kernel : TG 164 = 40) (by decide)))).trans ((h10 _ _ (Or.inl (neTG (by decide +kernel : TG 159 = 35) (by decide +kernel : TG 164 = 40) (by decide)))).trans h4)))) rfl rfl rfl (by decide +kernel : TG 159 = 35) (by decide +kernel) ?_
    refine En_Ps 2 (pc' := 51) (lv' := [(0, .ref 159), (1, .int a), (2, .int b), (3, .int c), (4, .int d), (5, .int e)]) (st' := [.int e, .int ((Int32.ofInt 4)), .ref 164]) rfl ?_
    refine En_iast (l := (-2147483648)) (u := 2147483647) rfl (by decide : (Int32.ofInt 4).toInt = 4) (by decide +kernel : TG 164 = 40) (by decide +kernel) (by omega) (lnI (by decide +kernel : LN _ = 5) (by omega)) (FTsgl (by decide +kernel)) (fullI _) h25 h26 (by decide +kernel) (fun σ30 h31 h32 h33 h34 => ?_)
    have h35 : ∀ i : Int, ci σ30 163 i = ci σ0 163 i := fun i => (ci_ne h34 (by decide) i).trans (h29 i)
    refine En_Ps 2 (pc' := 55) (lv' := [(6, .int ((Int32.ofInt 0))), (0, .ref 159), (1, .int a), (2, .int b), (3, .int c), (4, .int d), (5, .int e)]) (st' := []) rfl ?_
    have key55 : ∀ (n55 : Nat) (σ37 : SG) (y36 : Int32), WT σ37 → Fr [(35, 5), (39, 0), (40, 0)] σ0 σ37 → (σ37 159)[5]? = some (.int m) → (σ37 159)[6]? = some (.ref 164) → (σ37 164)[(0 : Int).toNat]? = some (.int a) → (σ37 164)[(1 : Int).toNat]? = some (.int b) → (σ37 164)[(2 : Int).toNat]? = some (.int c) → (σ37 164)[(3 : Int).toNat]? = some (.int d) → (σ37 164)[(4 : Int).toNat]? = some (.int e) → 0 ≤ y36.toInt → y36.toInt ≤ 20 → -y36.toInt + 20 < (n55 : Int) → FDP σ0 σ37 163 m.toInt y36.toInt a b c d e → En 0 0 none mr_226 (P_226x σ0 a b c d e m) 55 [(0, .ref 159), (1, .int a), (2, .int b), (3, .int c), (4, .int d), (5, .int e), (6, .int y36)] [] σ37 := by
      intro n55
      induction n55 with
      | zero =>
        intro σ37 y36 h38 h39 h40 h41 h42 h43 h44 h45 h46 h47 h48 h49 h50
        exfalso; omega
      | succ n55 ih55 =>
        intro σ37 y36 h38 h39 h40 h41 h42 h43 h44 h45 h46 h47 h48 h49 h50
        refine En_Ps 2 (pc' := 59) (lv' := [(0, .ref 159), (1, .int a), (2, .int b), (3, .int c), (4, .int d), (5, .int e), (6, .int y36)]) (st' := [.int (((Int8.ofInt 20).toInt32)), .int y36]) rfl ?_
        refine En_icGe _ rfl (by decide : ((Int8.ofInt 20).toInt32).toInt = 20) rfl (fun h51 => ?_) (fun h51 => ?_)
        · refine En_Ps 2 (pc' := 103) (lv' := [(0, .ref 159), (1, .int a), (2, .int b), (3, .int c), (4, .int d), (5, .int e), (6, .int y36)]) (st' := [.ref 159, .ref 159]) rfl ?_
          refine En_getK (j := 5) h40 rfl rfl rfl (by decide +kernel : TG 159 = 35) (by decide +kernel) ?_
          refine En_Ps 2 (pc' := 109) (lv' := [(0, .ref 159), (1, .int a), (2, .int b), (3, .int c), (4, .int d), (5, .int e), (6, .int y36)]) (st' := [.int ((m + (((Int8.ofInt 20).toInt32)))), .ref 159]) rfl ?_
          refine En_top (addI rfl (by decide : ((Int8.ofInt 20).toInt32).toInt = 20) (by omega) (by omega)) (fun z52 h53 => ?_)
          refine En_put (j := 5) rfl rfl rfl (by decide +kernel : TG 159 = 35) (by decide +kernel) rfl (vI (l := 0) (u := 1600) (by decide +kernel) rfl (by omega) (by omega)) h38 h39 (by decide +kernel) (fun σ54 h55 h56 h57 h58 => ?_)
          have h59 := FDP_ne h50 h58 (by decide)
          refine En_Ps 1 (pc' := 113) (lv' := [(0, .ref 159), (1, .int a), (2, .int b), (3, .int c), (4, .int d), (5, .int e), (6, .int y36)]) (st' := [.ref 159]) rfl ?_
          refine En_getK (j := 5) h57 rfl rfl rfl (by decide +kernel : TG 159 = 35) (by decide +kernel) ?_
          exact En_ret (v := some (.int z52)) rfl rfl rfl ⟨h55, h56, z52, h57, z52, rfl, ⟨by omega, by omega, by omega, by omega, by omega, by omega, fun _ => by omega, fun _ => by omega, ⟨fun _ => FDP_c h59 (by omega), fun h => absurd h (by omega)⟩⟩⟩
        · refine En_Ps 1 (pc' := 63) (lv' := [(0, .ref 159), (1, .int a), (2, .int b), (3, .int c), (4, .int d), (5, .int e), (6, .int y36)]) (st' := [.ref 159]) rfl ?_
          refine En_getU (j := 4) (u := 163) (g' := 39) (q := 0) rfl rfl rfl (by decide +kernel : TG 159 = 35) (by decide +kernel) h38 (by decide +kernel) (by decide +kernel) (fun h60 => ?_)
          refine En_Ps 1 (pc' := 67) (lv' := [(0, .ref 159), (1, .int a), (2, .int b), (3, .int c), (4, .int d), (5, .int e), (6, .int y36)]) (st' := [.ref 159, .ref 163]) rfl ?_
          refine En_getK (j := 5) h40 rfl rfl rfl (by decide +kernel : TG 159 = 35) (by decide +kernel) ?_
          refine En_Ps 2 (pc' := 73) (lv' := [(0, .ref 159), (1, .int a), (2, .int b), (3, .int c), (4, .int d), (5, .int e), (6, .int y36)]) (st' := [.int ((m + y36)), .ref 163]) rfl ?_
          refine En_top (addI rfl rfl (by omega) (by omega)) (fun z62 h63 => ?_)
          refine En_Ps 1 (pc' := 74) (lv' := [(0, .ref 159), (1, .int a), (2, .int b), (3, .int c), (4, .int d), (5, .int e), (6, .int y36)]) (st' := [.ref 159, .int z62, .ref 163]) rfl ?_
          refine En_getK (j := 6) h41 rfl rfl rfl (by decide +kernel : TG 159 = 35) (by decide +kernel) ?_
          refine En_Ps 2 (pc' := 80) (lv' := [(0, .ref 159), (1, .int a), (2, .int b), (3, .int c), (4, .int d), (5, .int e), (6, .int y36)]) (st' := [.int ((Int32.ofInt 4)), .int y36, .ref 164, .int z62, .ref 163]) rfl ?_
          refine En_idiv (c := 4) rfl rfl (by decide : (Int32.ofInt 4).toInt = 4) (by omega) (by decide) (fun z64 h65 => ?_)
          refine En_iald (l := (-2147483648)) (u := 2147483647) rfl rfl (by decide +kernel : TG 164 = 40) (by decide +kernel) h38 (by omega) (lnI (by decide +kernel : LN _ = 5) (by omega)) (FTsgl (by decide +kernel)) (fun z67 h66 h68 h69 => ?_)
          have h70 := FV_sel h42 h43 h44 h45 h46 h66 (by omega) (by omega)
          refine En_Ps 4 (pc' := 89) (lv' := [(0, .ref 159), (1, .int a), (2, .int b), (3, .int c), (4, .int d), (5, .int e), (6, .int y36)]) (st' := [.int ((Int32.ofInt 4)), .int y36, .int (((Int8.ofInt 8).toInt32)), .int (((Int8.ofInt 24).toInt32)), .int z67, .int z62, .ref 163]) rfl ?_
          refine En_irem (c := 4) rfl rfl (by decide : (Int32.ofInt 4).toInt = 4) (by omega) (by decide) (fun z71 h72 => ?_)
          refine En_Ps 1 (pc' := 91) (lv' := [(0, .ref 159), (1, .int a), (2, .int b), (3, .int c), (4, .int d), (5, .int e), (6, .int y36)]) (st' := [.int (((((Int8.ofInt 8).toInt32)) * z71)), .int (((Int8.ofInt 24).toInt32)), .int z67, .int z62, .ref 163]) rfl ?_
          refine En_top (mulI (by decide : ((Int8.ofInt 8).toInt32).toInt = 8) rfl (Z := 8 * z71.toInt) (by omega) (by omega) (by omega)) (fun z73 h74 => ?_)
          refine En_Ps 1 (pc' := 92) (lv' := [(0, .ref 159), (1, .int a), (2, .int b), (3, .int c), (4, .int d), (5, .int e), (6, .int y36)]) (st' := [.int (((((Int8.ofInt 24).toInt32)) - z73)), .int z67, .int z62, .ref 163]) rfl ?_
          refine En_top (subI (by decide : ((Int8.ofInt 24).toInt32).toInt = 24) rfl (by omega) (by omega)) (fun z75 h76 => ?_)
          refine En_Ps 2 (pc' := 94) (lv' := [(0, .ref 159), (1, .int a), (2, .int b), (3, .int c), (4, .int d), (5, .int e), (6, .int y36)]) (st' := [.int (((z67 >>> (z75 &&& 31)).toInt8.toInt32)), .int z62, .ref 163]) rfl ?_
          refine En_nam (fun z77 h78 => ?_)
          have h79 := b4_s (j := y36.toInt % 4) h78 (by omega)
          have h80 := b4_rng z67 (y36.toInt % 4)
          refine En_bast (l := (-128)) (u := 127) rfl rfl (by decide +kernel : TG 163 = 39) (by decide +kernel) (narB rfl (by omega) (by omega)) (by omega) (lnI (by decide +kernel : LN _ = 1600) (by omega)) (FTsgl (by decide +kernel)) (rngI rfl (by omega) (by omega)) h38 h39 (by decide +kernel) (fun σ81 h82 h83 h84 h85 => ?_)
          have h86 := FDP_s (J := z62.toInt) (y := y36.toInt) (y' := y36.toInt + 1) h50 h84 h85 (by omega) (by omega) (by omega) h70 h79 (by omega) (by omega) rfl
          refine En_Ps 1 (pc' := 98) (lv' := [(6, .int ((y36 + Int32.ofInt 1))), (0, .ref 159), (1, .int a), (2, .int b), (3, .int c), (4, .int d), (5, .int e)]) (st' := []) rfl ?_
          refine En_lv1 (addI rfl (by decide : (Int32.ofInt 1).toInt = 1) (by omega) (by omega)) (fun z87 h88 => ?_)
          refine En_Ps 1 (pc' := 55) (lv' := [(6, .int z87), (0, .ref 159), (1, .int a), (2, .int b), (3, .int c), (4, .int d), (5, .int e)]) (st' := []) rfl ?_
          refine En_lv (lv := [(0, .ref 159), (1, .int a), (2, .int b), (3, .int c), (4, .int d), (5, .int e), (6, .int z87)]) ⟨rfl, rfl, rfl, rfl, rfl, rfl, rfl, trivial⟩ ?_
          exact ih55 σ81 z87 h82 h83 ((h85 _ _ (Or.inl (neTG (by decide +kernel : TG 159 = 35) (by decide +kernel : TG 163 = 39) (by decide)))).trans h40) ((h85 _ _ (Or.inl (neTG (by decide +kernel : TG 159 = 35) (by decide +kernel : TG 163 = 39) (by decide)))).trans h41) ((h85 _ _ (Or.inl (neTG (by decide +kernel : TG 164 = 40) (by decide +kernel : TG 163 = 39) (by decide)))).trans h42) ((h85 _ _ (Or.inl (neTG (by decide +kernel : TG 164 = 40) (by decide +kernel : TG 163 = 39) (by decide)))).trans h43) ((h85 _ _ (Or.inl (neTG (by decide +kernel : TG 164 = 40) (by decide +kernel : TG 163 = 39) (by decide)))).trans h44) ((h85 _ _ (Or.inl (neTG (by decide +kernel : TG 164 = 40) (by decide +kernel : TG 163 = 39) (by decide)))).trans h45) ((h85 _ _ (Or.inl (neTG (by decide +kernel : TG 164 = 40) (by decide +kernel : TG 163 = 39) (by decide)))).trans h46) (by omega) (by omega) (by omega) (FDP_c h86 (by omega))
    have := (by decide : (Int32.ofInt 0).toInt = 0)
    refine En_lv (lv := [(0, .ref 159), (1, .int a), (2, .int b), (3, .int c), (4, .int d), (5, .int e), (6, .int ((Int32.ofInt 0)))]) ⟨rfl, rfl, rfl, rfl, rfl, rfl, rfl, trivial⟩ ?_
    exact key55 (Int.toNat (20) + 1) σ30 ((Int32.ofInt 0)) h31 h32 ((h34 _ _ (Or.inl (neTG (by decide +kernel : TG 159 = 35) (by decide +kernel : TG 164 = 40) (by decide)))).trans ((h28 _ _ (Or.inl (neTG (by decide +kernel : TG 159 = 35) (by decide +kernel : TG 164 = 40) (by decide)))).trans ((h22 _ _ (Or.inl (neTG (by decide +kernel : TG 159 = 35) (by decide +kernel : TG 164 = 40) (by decide)))).trans ((h16 _ _ (Or.inl (neTG (by decide +kernel : TG 159 = 35) (by decide +kernel : TG 164 = 40) (by decide)))).trans ((h10 _ _ (Or.inl (neTG (by decide +kernel : TG 159 = 35) (by decide +kernel : TG 164 = 40) (by decide)))).trans h_m))))) ((h34 _ _ (Or.inl (neTG (by decide +kernel : TG 159 = 35) (by decide +kernel : TG 164 = 40) (by decide)))).trans ((h28 _ _ (Or.inl (neTG (by decide +kernel : TG 159 = 35) (by decide +kernel : TG 164 = 40) (by decide)))).trans ((h22 _ _ (Or.inl (neTG (by decide +kernel : TG 159 = 35) (by decide +kernel : TG 164 = 40) (by decide)))).trans ((h16 _ _ (Or.inl (neTG (by decide +kernel : TG 159 = 35) (by decide +kernel : TG 164 = 40) (by decide)))).trans ((h10 _ _ (Or.inl (neTG (by decide +kernel : TG 159 = 35) (by decide +kernel : TG 164 = 40) (by decide)))).trans h4))))) ((h34 _ _ (Or.inr (by omega))).trans ((h28 _ _ (Or.inr (by omega))).trans ((h22 _ _ (Or.inr (by omega))).trans ((h16 _ _ (Or.inr (by omega))).trans h9)))) ((h34 _ _ (Or.inr (by omega))).trans ((h28 _ _ (Or.inr (by omega))).trans ((h22 _ _ (Or.inr (by omega))).trans h15))) ((h34 _ _ (Or.inr (by omega))).trans ((h28 _ _ (Or.inr (by omega))).trans h21)) ((h34 _ _ (Or.inr (by omega))).trans h27) h33 (by omega) (by omega) (by omega) (FDP_0 (by decide) h35)
  · refine En_Ps 1 (pc' := 14) (lv' := [(0, .ref 159), (1, .int a), (2, .int b), (3, .int c), (4, .int d), (5, .int e)]) (st' := [.int ((Int32.ofInt (-1)))]) rfl ?_
    refine En_top (by decide : (Int32.ofInt (-1)).toInt = -1) (fun z89 h90 => ?_)
    exact En_ret (v := some (.int z89)) rfl rfl rfl ⟨hσ0, hF0, m, h_m, z89, rfl, ⟨by omega, by omega, by omega, by omega, by omega, by omega, fun _ => by omega, fun _ => by omega, ⟨fun h => absurd h (by omega), fun _ _ => rfl⟩⟩⟩
/-- DoorSchoolModel.number(II)I -/
abbrev P_288x (σ0 : SG) (By : Int → Int) (Nb : Int) (Sp : PS) (a : Int32) (b : Int32) (f : Int32) (k : Int32) (t : Int32) (u : Int32) : PO := fun v σ => WT σ ∧ Fr [(35, 8), (35, 9), (35, 10), (35, 11), (35, 12), (35, 13)] σ0 σ ∧ ∃ f1 : Int32, (σ 159)[8]? = some (.int f1) ∧ ∃ k1 : Int32, (σ 159)[12]? = some (.int k1) ∧ ∃ ret : Int32, v = some (.int ret) ∧ -ret.toInt ≤ 0 ∧ ret.toInt - 50 ≤ 0 ∧ -f1.toInt ≤ 0 ∧ f1.toInt - 1600 ≤ 0 ∧ -f1.toInt + f.toInt ≤ 0 ∧ f1.toInt - f.toInt - 1600 ≤ 0 ∧ -f1.toInt + k.toInt - 3 ≤ 0 ∧ f1.toInt - k.toInt - 1600 ≤ 0 ∧ -f1.toInt + t.toInt - 4 ≤ 0 ∧ f1.toInt - t.toInt - 1600 ≤ 0 ∧ -f1.toInt + u.toInt - 99999 ≤ 0 ∧ f1.toInt - u.toInt - 1600 ≤ 0 ∧ -k1.toInt ≤ 0 ∧ k1.toInt - 3 ≤ 0 ∧ -k1.toInt + f.toInt - 1600 ≤ 0 ∧ k1.toInt - f.toInt - 3 ≤ 0 ∧ -k1.toInt + k.toInt ≤ 0 ∧ k1.toInt - k.toInt - 3 ≤ 0 ∧ -k1.toInt + t.toInt - 3 ≤ 0 ∧ k1.toInt - t.toInt - 3 ≤ 0 ∧ -k1.toInt + u.toInt - 99998 ≤ 0 ∧ k1.toInt - u.toInt - 3 ≤ 0 ∧ f.toInt - f1.toInt ≤ 0 ∧ Imp (a.toInt ≤ 0) (a.toInt - ret.toInt ≤ 0) ∧ Imp (-a.toInt ≤ 0) (-ret.toInt ≤ 0) ∧ Imp (-b.toInt ≤ 0) (ret.toInt - b.toInt ≤ 0) ∧ Imp (b.toInt ≤ 0) (ret.toInt ≤ 0) ∧ Imp (k1.toInt ≤ 0) (k.toInt ≤ 0 ∧ t.toInt - 2 ≤ 0 ∧ -t.toInt + 2 ≤ 0 ∧ ret.toInt - u.toInt ≤ 0 ∧ -ret.toInt + u.toInt ≤ 0 ∧ a.toInt - u.toInt ≤ 0 ∧ u.toInt - b.toInt ≤ 0) ∧ (ML By Nb σ (tN By Nb a.toInt b.toInt Sp) ∧ ((tN By Nb a.toInt b.toInt Sp).1 = 0 → ret.toInt = tV By Nb Sp.2.2.1))
set_option maxRecDepth 10000 in
set_option maxHeartbeats 4000000 in
theorem c_288x {By : Int → Int} {Nb : Int} {Sp : PS} (σ0 : SG) (hσ0 : WT σ0) (a : Int32) (b : Int32) (hl_a : 0 ≤ a.toInt) (hu_a : a.toInt ≤ 100000) (hl_b : (-1) ≤ b.toInt) (hu_b : b.toInt ≤ 50) (f : Int32) (h_f : (σ0 159)[8]? = some (.int f)) (k : Int32) (h_k : (σ0 159)[12]? = some (.int k)) (t : Int32) (h_t : (σ0 159)[10]? = some (.int t)) (u : Int32) (h_u : (σ0 159)[11]? = some (.int u)) (hM : ML By Nb σ0 Sp) : En 2 46 none mr_288 (P_288x σ0 By Nb Sp a b f k t u) 0 [(0, .ref 159), (1, .int a), (2, .int b)] [] σ0 := by
  obtain ⟨hl_f, hu_f⟩ := WT_int hσ0 (g := 35) (by decide +kernel) (by decide +kernel) (l := 0) (u := 1600) (by decide +kernel) h_f
  obtain ⟨hl_k, hu_k⟩ := WT_int hσ0 (g := 35) (by decide +kernel) (by decide +kernel) (l := 0) (u := 3) (by decide +kernel) h_k
  obtain ⟨hl_t, hu_t⟩ := WT_int hσ0 (g := 35) (by decide +kernel) (by decide +kernel) (l := 0) (u := 4) (by decide +kernel) h_t
  obtain ⟨hl_u, hu_u⟩ := WT_int hσ0 (g := 35) (by decide +kernel) (by decide +kernel) (l := 0) (u := 99999) (by decide +kernel) h_u
  have hF0 : Fr [(35, 8), (35, 9), (35, 10), (35, 11), (35, 12), (35, 13)] σ0 σ0 := Fr_rfl
  have h1 := ML_k hM h_k
  have h2 : Imp (Sp.1 = 0) (tK By Nb Sp.2.2.1 = t.toInt) := ML_t hM h_t
  have h3 : Imp (Sp.1 = 0 ∧ tK By Nb Sp.2.2.1 = 2) (u.toInt = min 99999 (tV By Nb Sp.2.2.1) ∧ 0 ≤ tV By Nb Sp.2.2.1) := fun q => ML_u hM h_u q.1 q.2
  refine En_Ps 1 (pc' := 1) (lv' := [(0, .ref 159), (1, .int a), (2, .int b)]) (st' := [.ref 159]) rfl ?_
  refine En_callV rfl rfl rfl rfl rfl rfl rfl rfl (by decide +kernel : TG 159 = 35) (by decide +kernel) rfl (c_237 σ0 hσ0 k h_k) (by decide) (by decide) (fun v5 σ6 h4 => ?_)
  obtain ⟨h7, h8, z10, rfl, h9⟩ := h4
  obtain rfl : σ0 = σ6 := Fr_nil h8
  refine En_iEq _ rfl rfl (fun h11 => ?_) (fun h11 => ?_)
  · refine En_Ps 1 (pc' := 21) (lv' := [(0, .ref 159), (1, .int a), (2, .int b)]) (st' := [.ref 159]) rfl ?_
    refine En_callV rfl rfl rfl rfl rfl rfl rfl rfl (by decide +kernel : TG 159 = 35) (by decide +kernel) rfl (c_237 σ0 hσ0 k h_k) (by decide) (by decide) (fun v13 σ14 h12 => ?_)
    obtain ⟨h15, h16, z18, rfl, h17⟩ := h12
    obtain rfl : σ0 = σ14 := Fr_nil h16
    refine En_iEq _ rfl rfl (fun h19 => ?_) (fun hx => by exfalso; omega)
    refine En_Ps 1 (pc' := 48) (lv' := [(0, .ref 159), (1, .int a), (2, .int b)]) (st' := [.ref 159]) rfl ?_
    refine En_callV rfl rfl rfl rfl rfl rfl rfl rfl (by decide +kernel : TG 159 = 35) (by decide +kernel) rfl (c_237 σ0 hσ0 k h_k) (by decide) (by decide) (fun v21 σ22 h20 => ?_)
    obtain ⟨h23, h24, z26, rfl, h25⟩ := h20
    obtain rfl : σ0 = σ22 := Fr_nil h24
    refine En_iNe _ rfl rfl (fun hx => by exfalso; omega) (fun h27 => ?_)
    refine En_Ps 1 (pc' := 55) (lv' := [(0, .ref 159), (1, .int a), (2, .int b)]) (st' := [.int ((Int32.ofInt 0))]) rfl ?_
    refine En_top (by decide : (Int32.ofInt 0).toInt = 0) (fun z28 h29 => ?_)
    exact En_ret (v := some (.int z28)) rfl rfl rfl ⟨hσ0, hF0, f, h_f, k, h_k, z28, rfl, ⟨by omega, by omega, by omega, by omega, by omega, by omega, by omega, by omega, by omega, by omega, by omega, by omega, by omega, by omega, by omega, by omega, by omega, by omega, by omega, by omega, by omega, by omega, by omega, fun _ => by omega, fun _ => by omega, fun _ => by omega, fun _ => by omega, fun _ => by omega, (by (try have i0 := Imp_m h2 (by omega)); (try have i1 := Imp_m h3 (by omega)); first | (have q := tN_bad (B := By) (n := Nb) (lo := a.toInt) (hi := b.toInt) (S := Sp) (by omega); rw [q]; exact ⟨ML_eq hM (by rfl), fun zz => by have := err_ne (B := By) (n := Nb) (S := Sp) (k := 1) (by omega); have := err_ne (B := By) (n := Nb) (S := Sp) (k := 2) (by omega); exfalso; omega⟩) | (have q := tN_k (B := By) (n := Nb) (lo := a.toInt) (hi := b.toInt) (S := Sp) (by omega) (by omega); rw [q]; exact ⟨ML_eq hM (by rfl), fun zz => by have := err_ne (B := By) (n := Nb) (S := Sp) (k := 1) (by omega); have := err_ne (B := By) (n := Nb) (S := Sp) (k := 2) (by omega); exfalso; omega⟩) | (have q := tN_v (B := By) (n := Nb) (lo := a.toInt) (hi := b.toInt) (S := Sp) (by omega) (by omega) (by omega); rw [q]; exact ⟨ML_eq hM (by rfl), fun zz => by have := err_ne (B := By) (n := Nb) (S := Sp) (k := 1) (by omega); have := err_ne (B := By) (n := Nb) (S := Sp) (k := 2) (by omega); exfalso; omega⟩) | (have q := tN_ok (B := By) (n := Nb) (lo := a.toInt) (hi := b.toInt) (S := Sp) (by omega) (by omega) (by omega); rw [q]; exact ⟨ML_eq hM (by rfl), fun zz => by have := err_ne (B := By) (n := Nb) (S := Sp) (k := 1) (by omega); have := err_ne (B := By) (n := Nb) (S := Sp) (k := 2) (by omega); exfalso; omega⟩))⟩⟩
  · try have h30 := Imp_m h2 (by omega)
    try have h31 := Imp_m h3 (by omega)
    refine En_Ps 1 (pc' := 8) (lv' := [(0, .ref 159), (1, .int a), (2, .int b)]) (st' := [.ref 159]) rfl ?_
    refine En_getK (j := 10) h_t rfl rfl rfl (by decide +kernel : TG 159 = 35) (by decide +kernel) ?_
    refine En_Ps 1 (pc' := 12) (lv' := [(0, .ref 159), (1, .int a), (2, .int b)]) (st' := [.int ((Int32.ofInt 2)), .int t]) rfl ?_
    refine En_icEq _ rfl (by decide : (Int32.ofInt 2).toInt = 2) rfl (fun h32 => ?_) (fun h32 => ?_)
    · refine En_Ps 1 (pc' := 21) (lv' := [(0, .ref 159), (1, .int a), (2, .int b)]) (st' := [.ref 159]) rfl ?_
      refine En_callV rfl rfl rfl rfl rfl rfl rfl rfl (by decide +kernel : TG 159 = 35) (by decide +kernel) rfl (c_237 σ0 hσ0 k h_k) (by decide) (by decide) (fun v34 σ35 h33 => ?_)
      obtain ⟨h36, h37, z39, rfl, h38⟩ := h33
      obtain rfl : σ0 = σ35 := Fr_nil h37
      refine En_iEq _ rfl rfl (fun hx => by exfalso; omega) (fun h40 => ?_)
      try have h41 := Imp_m h2 (by omega)
      try have h42 := Imp_m h3 (by omega)
      refine En_Ps 1 (pc' := 28) (lv' := [(0, .ref 159), (1, .int a), (2, .int b)]) (st' := [.ref 159]) rfl ?_
      refine En_getK (j := 11) h_u rfl rfl rfl (by decide +kernel : TG 159 = 35) (by decide +kernel) ?_
      refine En_Ps 5 (pc' := 36) (lv' := [(0, .ref 159), (1, .int a), (2, .int b)]) (st' := [.long b.toInt64, .long a.toInt64, .long u.toInt64]) rfl ?_
      have : u.toInt64.toInt = u.toInt := (i2lI rfl)
      have : a.toInt64.toInt = a.toInt := (i2lI rfl)
      have : b.toInt64.toInt = b.toInt := (i2lI rfl)
      refine En_callS rfl rfl rfl rfl rfl rfl rfl rfl rfl (c_249 σ0 hσ0 u.toInt64 a.toInt64 b.toInt64) (by decide) (by decide) (fun v44 σ45 h43 => ?_)
      obtain ⟨h46, h47, z49, rfl, h48⟩ := h43
      obtain rfl : σ0 = σ45 := Fr_nil h47
      refine En_iNe _ rfl rfl (fun h50 => ?_) (fun h50 => ?_)
      · refine En_Ps 1 (pc' := 48) (lv' := [(0, .ref 159), (1, .int a), (2, .int b)]) (st' := [.ref 159]) rfl ?_
        refine En_callV rfl rfl rfl rfl rfl rfl rfl rfl (by decide +kernel : TG 159 = 35) (by decide +kernel) rfl (c_237 σ0 hσ0 k h_k) (by decide) (by decide) (fun v52 σ53 h51 => ?_)
        obtain ⟨h54, h55, z57, rfl, h56⟩ := h51
        obtain rfl : σ0 = σ53 := Fr_nil h55
        refine En_iNe _ rfl rfl (fun h58 => ?_) (fun hx => by exfalso; omega)
        try have h59 := Imp_m h2 (by omega)
        try have h60 := Imp_m h3 (by omega)
        refine En_Ps 1 (pc' := 57) (lv' := [(0, .ref 159), (1, .int a), (2, .int b)]) (st' := [.ref 159]) rfl ?_
        refine En_getK (j := 11) h_u rfl rfl rfl (by decide +kernel : TG 159 = 35) (by decide +kernel) ?_
        refine En_Ps 2 (pc' := 62) (lv' := [(3, .int u), (0, .ref 159), (1, .int a), (2, .int b)]) (st' := [.ref 159]) rfl ?_
        refine En_callV rfl rfl rfl rfl rfl rfl rfl rfl (by decide +kernel : TG 159 = 35) (by decide +kernel) rfl (c_189x σ0 hσ0 f h_f hM.1 (ML_at hM (by omega) h_f)) (by decide) (by decide) (fun v62 σ63 h61 => ?_)
        obtain ⟨h64, h65, z67, h68, z69, h70, rfl, h66⟩ := h61
        have h71 := h66.2.2.2.2.2.2.2.2.2.2
        have h72 := Fr_trans hF0 h65 (by decide +kernel)
        obtain ⟨S73, h74⟩ : ∃ q : PS, q = adv By Nb Sp := ⟨_, rfl⟩
        have h75 : ML By Nb σ63 S73 := by rw [h74]; exact (ML_adv hM (by omega) h_f h65 (by decide +kernel) h71.2)
        have h76 := ML_k h75 ((h65 _ _ (inW (by decide +kernel : TG 159 = 35) (by decide +kernel))).trans h_k)
        have h77 : Imp (S73.1 = 0) (tK By Nb S73.2.2.1 = z69.toInt) := ML_t h75 h70
        have h78 : S73.2.2.2 = Sp.2.2.2 := by rw [h74]; exact adv_w
        refine En_Ps 1 (pc' := 66) (lv' := [(3, .int u), (0, .ref 159), (1, .int a), (2, .int b)]) (st' := [.int u]) rfl ?_
        exact En_ret (v := some (.int u)) rfl rfl rfl ⟨h64, h72, z67, h68, k, ((h65 _ _ (inW (by decide +kernel : TG 159 = 35) (by decide +kernel))).trans h_k), u, rfl, ⟨by omega, by omega, by omega, by omega, by omega, by omega, by omega, by omega, by omega, by omega, by omega, by omega, by omega, by omega, by omega, by omega, by omega, by omega, by omega, by omega, by omega, by omega, by omega, fun _ => by omega, fun _ => by omega, fun _ => by omega, fun _ => by omega, fun _ => by omega, (by (try have i0 := Imp_m h77 (by omega)); (try have i1 := Imp_m h2 (by omega)); (try have i2 := Imp_m h3 (by omega)); (try have i3 := Imp_m h66.2.2.2.2.2.2.2.2.2.1 (by omega)); first | (have q := tN_bad (B := By) (n := Nb) (lo := a.toInt) (hi := b.toInt) (S := Sp) (by omega); rw [q]; exact ⟨ML_eq h75 (by subst h74; rfl), fun zz => by omega⟩) | (have q := tN_k (B := By) (n := Nb) (lo := a.toInt) (hi := b.toInt) (S := Sp) (by omega) (by omega); rw [q]; exact ⟨ML_eq h75 (by subst h74; rfl), fun zz => by omega⟩) | (have q := tN_v (B := By) (n := Nb) (lo := a.toInt) (hi := b.toInt) (S := Sp) (by omega) (by omega) (by omega); rw [q]; exact ⟨ML_eq h75 (by subst h74; rfl), fun zz => by omega⟩) | (have q := tN_ok (B := By) (n := Nb) (lo := a.toInt) (hi := b.toInt) (S := Sp) (by omega) (by omega) (by omega); rw [q]; exact ⟨ML_eq h75 (by subst h74; rfl), fun zz => by omega⟩))⟩⟩
      · refine En_Ps 2 (pc' := 44) (lv' := [(0, .ref 159), (1, .int a), (2, .int b)]) (st' := [.int ((Int32.ofInt 2)), .ref 159]) rfl ?_
        have := (by decide : ((Int32.ofInt 2)).toInt = 2)
        refine En_callV rfl rfl rfl rfl rfl rfl rfl rfl (by decide +kernel : TG 159 = 35) (by decide +kernel) rfl (c_223x σ0 hσ0 ((Int32.ofInt 2)) (geI (by decide : (Int32.ofInt 2).toInt = 2) (by omega)) (leI (by decide : (Int32.ofInt 2).toInt = 2) (by omega)) k h_k hM) (by decide) (by decide) (fun v80 σ81 h79 => ?_)
        obtain ⟨h82, h83, z85, h86, rfl, h84⟩ := h79
        have h87 := h84.2.2.2.2.2
        have h88 := Fr_trans hF0 h83 (by decide +kernel)
        obtain ⟨S89, h90⟩ : ∃ q : PS, q = err By Nb 2 Sp := ⟨_, rfl⟩
        have h91 : ML By Nb σ81 S89 := by rw [h90]; exact (ML_eq h87 (err_cg (by omega)))
        have h92 := ML_k h91 h86
        have h93 : Imp (S89.1 = 0) (tK By Nb S89.2.2.1 = t.toInt) := ML_t h91 ((h83 _ _ (inW (by decide +kernel : TG 159 = 35) (by decide +kernel))).trans h_t)
        have h94 : Imp (S89.1 = 0 ∧ tK By Nb S89.2.2.1 = 2) (u.toInt = min 99999 (tV By Nb S89.2.2.1) ∧ 0 ≤ tV By Nb S89.2.2.1) := fun q => ML_u h91 ((h83 _ _ (inW (by decide +kernel : TG 159 = 35) (by decide +kernel))).trans h_u) q.1 q.2
        have h95 : S89.2.2.2 = Sp.2.2.2 := by rw [h90]; exact err_w
        refine En_Ps 1 (pc' := 48) (lv' := [(0, .ref 159), (1, .int a), (2, .int b)]) (st' := [.ref 159]) rfl ?_
        refine En_callV rfl rfl rfl rfl rfl rfl rfl rfl (by decide +kernel : TG 159 = 35) (by decide +kernel) rfl (c_237 σ81 h82 z85 h86) (by decide) (by decide) (fun v97 σ98 h96 => ?_)
        obtain ⟨h99, h100, z102, rfl, h101⟩ := h96
        obtain rfl : σ81 = σ98 := Fr_nil h100
        refine En_iNe _ rfl rfl (fun hx => by exfalso; omega) (fun h103 => ?_)
        refine En_Ps 1 (pc' := 55) (lv' := [(0, .ref 159), (1, .int a), (2, .int b)]) (st' := [.int ((Int32.ofInt 0))]) rfl ?_
        refine En_top (by decide : (Int32.ofInt 0).toInt = 0) (fun z104 h105 => ?_)
        exact En_ret (v := some (.int z104)) rfl rfl rfl ⟨h82, h88, f, ((h83 _ _ (inW (by decide +kernel : TG 159 = 35) (by decide +kernel))).trans h_f), z85, h86, z104, rfl, ⟨by omega, by omega, by omega, by omega, by omega, by omega, by omega, by omega, by omega, by omega, by omega, by omega, by omega, by omega, by omega, by omega, by omega, by omega, by omega, by omega, by omega, by omega, by omega, fun _ => by omega, fun _ => by omega, fun _ => by omega, fun _ => by omega, fun _ => by omega, (by (try have i0 := Imp_m h93 (by omega)); (try have i1 := Imp_m h2 (by omega)); (try have i2 := Imp_m h3 (by omega)); (try have i3 := Imp_m h94 (by omega)); first | (have q := tN_bad (B := By) (n := Nb) (lo := a.toInt) (hi := b.toInt) (S := Sp) (by omega); rw [q]; exact ⟨ML_eq h91 (by subst h90; rfl), fun zz => by have := err_ne (B := By) (n := Nb) (S := Sp) (k := 1) (by omega); have := err_ne (B := By) (n := Nb) (S := Sp) (k := 2) (by omega); exfalso; omega⟩) | (have q := tN_k (B := By) (n := Nb) (lo := a.toInt) (hi := b.toInt) (S := Sp) (by omega) (by omega); rw [q]; exact ⟨ML_eq h91 (by subst h90; rfl), fun zz => by have := err_ne (B := By) (n := Nb) (S := Sp) (k := 1) (by omega); have := err_ne (B := By) (n := Nb) (S := Sp) (k := 2) (by omega); exfalso; omega⟩) | (have q := tN_v (B := By) (n := Nb) (lo := a.toInt) (hi := b.toInt) (S := Sp) (by omega) (by omega) (by omega); rw [q]; exact ⟨ML_eq h91 (by subst h90; rfl), fun zz => by have := err_ne (B := By) (n := Nb) (S := Sp) (k := 1) (by omega); have := err_ne (B := By) (n := Nb) (S := Sp) (k := 2) (by omega); exfalso; omega⟩) | (have q := tN_ok (B := By) (n := Nb) (lo := a.toInt) (hi := b.toInt) (S := Sp) (by omega) (by omega) (by omega); rw [q]; exact ⟨ML_eq h91 (by subst h90; rfl), fun zz => by have := err_ne (B := By) (n := Nb) (S := Sp) (k := 1) (by omega); have := err_ne (B := By) (n := Nb) (S := Sp) (k := 2) (by omega); exfalso; omega⟩))⟩⟩
    · refine En_Ps 2 (pc' := 17) (lv' := [(0, .ref 159), (1, .int a), (2, .int b)]) (st' := [.int ((Int32.ofInt 1)), .ref 159]) rfl ?_
      have := (by decide : ((Int32.ofInt 1)).toInt = 1)
      refine En_callV rfl rfl rfl rfl rfl rfl rfl rfl (by decide +kernel : TG 159 = 35) (by decide +kernel) rfl (c_223x σ0 hσ0 ((Int32.ofInt 1)) (geI (by decide : (Int32.ofInt 1).toInt = 1) (by omega)) (leI (by decide : (Int32.ofInt 1).toInt = 1) (by omega)) k h_k hM) (by decide) (by decide) (fun v107 σ108 h106 => ?_)
      obtain ⟨h109, h110, z112, h113, rfl, h111⟩ := h106
      have h114 := h111.2.2.2.2.2
      have h115 := Fr_trans hF0 h110 (by decide +kernel)
      obtain ⟨S116, h117⟩ : ∃ q : PS, q = err By Nb 1 Sp := ⟨_, rfl⟩
      have h118 : ML By Nb σ108 S116 := by rw [h117]; exact (ML_eq h114 (err_cg (by omega)))
      have h119 := ML_k h118 h113
      have h120 : Imp (S116.1 = 0) (tK By Nb S116.2.2.1 = t.toInt) := ML_t h118 ((h110 _ _ (inW (by decide +kernel : TG 159 = 35) (by decide +kernel))).trans h_t)
      have h121 : Imp (S116.1 = 0 ∧ tK By Nb S116.2.2.1 = 2) (u.toInt = min 99999 (tV By Nb S116.2.2.1) ∧ 0 ≤ tV By Nb S116.2.2.1) := fun q => ML_u h118 ((h110 _ _ (inW (by decide +kernel : TG 159 = 35) (by decide +kernel))).trans h_u) q.1 q.2
      have h122 : S116.2.2.2 = Sp.2.2.2 := by rw [h117]; exact err_w
      refine En_Ps 1 (pc' := 21) (lv' := [(0, .ref 159), (1, .int a), (2, .int b)]) (st' := [.ref 159]) rfl ?_
      refine En_callV rfl rfl rfl rfl rfl rfl rfl rfl (by decide +kernel : TG 159 = 35) (by decide +kernel) rfl (c_237 σ108 h109 z112 h113) (by decide) (by decide) (fun v124 σ125 h123 => ?_)
      obtain ⟨h126, h127, z129, rfl, h128⟩ := h123
      obtain rfl : σ108 = σ125 := Fr_nil h127
      refine En_iEq _ rfl rfl (fun h130 => ?_) (fun hx => by exfalso; omega)
      refine En_Ps 1 (pc' := 48) (lv' := [(0, .ref 159), (1, .int a), (2, .int b)]) (st' := [.ref 159]) rfl ?_
      refine En_callV rfl rfl rfl rfl rfl rfl rfl rfl (by decide +kernel : TG 159 = 35) (by decide +kernel) rfl (c_237 σ108 h109 z112 h113) (by decide) (by decide) (fun v132 σ133 h131 => ?_)
      obtain ⟨h134, h135, z137, rfl, h136⟩ := h131
      obtain rfl : σ108 = σ133 := Fr_nil h135
      refine En_iNe _ rfl rfl (fun hx => by exfalso; omega) (fun h138 => ?_)
      refine En_Ps 1 (pc' := 55) (lv' := [(0, .ref 159), (1, .int a), (2, .int b)]) (st' := [.int ((Int32.ofInt 0))]) rfl ?_
      refine En_top (by decide : (Int32.ofInt 0).toInt = 0) (fun z139 h140 => ?_)
      exact En_ret (v := some (.int z139)) rfl rfl rfl ⟨h109, h115, f, ((h110 _ _ (inW (by decide +kernel : TG 159 = 35) (by decide +kernel))).trans h_f), z112, h113, z139, rfl, ⟨by omega, by omega, by omega, by omega, by omega, by omega, by omega, by omega, by omega, by omega, by omega, by omega, by omega, by omega, by omega, by omega, by omega, by omega, by omega, by omega, by omega, by omega, by omega, fun _ => by omega, fun _ => by omega, fun _ => by omega, fun _ => by omega, fun _ => by omega, (by (try have i0 := Imp_m h120 (by omega)); (try have i1 := Imp_m h2 (by omega)); (try have i2 := Imp_m h3 (by omega)); (try have i3 := Imp_m h121 (by omega)); first | (have q := tN_bad (B := By) (n := Nb) (lo := a.toInt) (hi := b.toInt) (S := Sp) (by omega); rw [q]; exact ⟨ML_eq h118 (by subst h117; rfl), fun zz => by have := err_ne (B := By) (n := Nb) (S := Sp) (k := 1) (by omega); have := err_ne (B := By) (n := Nb) (S := Sp) (k := 2) (by omega); exfalso; omega⟩) | (have q := tN_k (B := By) (n := Nb) (lo := a.toInt) (hi := b.toInt) (S := Sp) (by omega) (by omega); rw [q]; exact ⟨ML_eq h118 (by subst h117; rfl), fun zz => by have := err_ne (B := By) (n := Nb) (S := Sp) (k := 1) (by omega); have := err_ne (B := By) (n := Nb) (S := Sp) (k := 2) (by omega); exfalso; omega⟩) | (have q := tN_v (B := By) (n := Nb) (lo := a.toInt) (hi := b.toInt) (S := Sp) (by omega) (by omega) (by omega); rw [q]; exact ⟨ML_eq h118 (by subst h117; rfl), fun zz => by have := err_ne (B := By) (n := Nb) (S := Sp) (k := 1) (by omega); have := err_ne (B := By) (n := Nb) (S := Sp) (k := 2) (by omega); exfalso; omega⟩) | (have q := tN_ok (B := By) (n := Nb) (lo := a.toInt) (hi := b.toInt) (S := Sp) (by omega) (by omega) (by omega); rw [q]; exact ⟨ML_eq h118 (by subst h117; rfl), fun zz => by have := err_ne (B := By) (n := Nb) (S := Sp) (k := 1) (by omega); have := err_ne (B := By) (n := Nb) (S := Sp) (k := 2) (by omega); exfalso; omega⟩))⟩⟩
/-- DoorSchoolModel.freshKnock()I -/
abbrev P_234x (σ0 : SG) (By : Int → Int) (Nb : Int) (Sp : PS) (f : Int32) (k : Int32) : PO := fun v σ => WT σ ∧ Fr [(35, 8), (35, 9), (35, 10), (35, 11), (35, 12), (35, 13)] σ0 σ ∧ ∃ f1 : Int32, (σ 159)[8]? = some (.int f1) ∧ ∃ k1 : Int32, (σ 159)[12]? = some (.int k1) ∧ ∃ ret : Int32, v = some (.int ret) ∧ -ret.toInt ≤ 0 ∧ ret.toInt - 15 ≤ 0 ∧ -f1.toInt ≤ 0 ∧ f1.toInt - 1600 ≤ 0 ∧ -f1.toInt + f.toInt ≤ 0 ∧ f1.toInt - f.toInt - 1600 ≤ 0 ∧ -f1.toInt + k.toInt - 3 ≤ 0 ∧ f1.toInt - k.toInt - 1600 ≤ 0 ∧ -k1.toInt ≤ 0 ∧ k1.toInt - 3 ≤ 0 ∧ -k1.toInt + f.toInt - 1600 ≤ 0 ∧ k1.toInt - f.toInt - 3 ≤ 0 ∧ -k1.toInt + k.toInt ≤ 0 ∧ k1.toInt - k.toInt - 3 ≤ 0 ∧ f.toInt - f1.toInt ≤ 0 ∧ -ret.toInt ≤ 0 ∧ ret.toInt - 15 ≤ 0 ∧ Imp (k1.toInt ≤ 0) (k.toInt ≤ 0) ∧ (ML By Nb σ (tN By Nb 0 (pI (Sp.2.2.2 0) - 1) Sp) ∧ ((tN By Nb 0 (pI (Sp.2.2.2 0) - 1) Sp).1 = 0 → ret.toInt = tV By Nb Sp.2.2.1))
set_option maxRecDepth 10000 in
set_option maxHeartbeats 4000000 in
theorem c_234x {By : Int → Int} {Nb : Int} {Sp : PS} (σ0 : SG) (hσ0 : WT σ0) (f : Int32) (h_f : (σ0 159)[8]? = some (.int f)) (k : Int32) (h_k : (σ0 159)[12]? = some (.int k)) (hM : ML By Nb σ0 Sp) : En 3 69 none mr_234 (P_234x σ0 By Nb Sp f k) 0 [(0, .ref 159)] [] σ0 := by
  obtain ⟨hl_f, hu_f⟩ := WT_int hσ0 (g := 35) (by decide +kernel) (by decide +kernel) (l := 0) (u := 1600) (by decide +kernel) h_f
  obtain ⟨hl_k, hu_k⟩ := WT_int hσ0 (g := 35) (by decide +kernel) (by decide +kernel) (l := 0) (u := 3) (by decide +kernel) h_k
  have hF0 : Fr [(35, 8), (35, 9), (35, 10), (35, 11), (35, 12), (35, 13)] σ0 σ0 := Fr_rfl
  have h1 := ML_k hM h_k
  refine En_Ps 4 (pc' := 4) (lv' := [(0, .ref 159)]) (st' := [.ref 159, .int ((Int32.ofInt 1)), .int ((Int32.ofInt 0)), .ref 159]) rfl ?_
  refine En_getU (j := 14) (u := 165) (g' := 41) (q := 0) rfl rfl rfl (by decide +kernel : TG 159 = 35) (by decide +kernel) hσ0 (by decide +kernel) (by decide +kernel) (fun h2 => ?_)
  refine En_Ps 1 (pc' := 8) (lv' := [(0, .ref 159)]) (st' := [.int ((Int32.ofInt 0)), .ref 165, .int ((Int32.ofInt 1)), .int ((Int32.ofInt 0)), .ref 159]) rfl ?_
  refine En_iald (l := 0) (u := 4) rfl (by decide : (Int32.ofInt 0).toInt = 0) (by decide +kernel : TG 165 = 41) (by decide +kernel) hσ0 (by omega) (lnI (by decide +kernel : LN _ = 226) (by omega)) (by decide +kernel) (fun z5 h4 h6 h7 => ?_)
  refine En_Ps 1 (pc' := 10) (lv' := [(0, .ref 159)]) (st' := [.int ((((Int32.ofInt 1)) <<< (z5 &&& 31))), .int ((Int32.ofInt 0)), .ref 159]) rfl ?_
  refine En_nam (fun z8 h9 => ?_)
  have h10 := shl1_v (y := z5) rfl (by omega) (by omega)
  rw [← h9] at h10
  have h11 := shl1_p (y := z5) 4 rfl (by omega) (by omega) (by decide)
  rw [← h9] at h11
  refine En_Ps 2 (pc' := 12) (lv' := [(0, .ref 159)]) (st' := [.int ((z8 - ((Int32.ofInt 1)))), .int ((Int32.ofInt 0)), .ref 159]) rfl ?_
  refine En_top (subI rfl (by decide : (Int32.ofInt 1).toInt = 1) (by omega) (by omega)) (fun z12 h13 => ?_)
  obtain ⟨z15, h14, h16, h17⟩ := WT_peekI hσ0 (by decide +kernel : TG 159 = 35) (by decide +kernel : FT 35 10 = (0, 0, 4)) (by decide +kernel)
  obtain ⟨z19, h18, h20, h21⟩ := WT_peekI hσ0 (by decide +kernel : TG 159 = 35) (by decide +kernel : FT 35 11 = (0, 0, 99999)) (by decide +kernel)
  have := (by decide : ((Int32.ofInt 0)).toInt = 0)
  refine En_callV rfl rfl rfl rfl rfl rfl rfl rfl (by decide +kernel : TG 159 = 35) (by decide +kernel) rfl (c_288x σ0 hσ0 ((Int32.ofInt 0)) z12 (geI (by decide : (Int32.ofInt 0).toInt = 0) (by omega)) (leI (by decide : (Int32.ofInt 0).toInt = 0) (by omega)) (geI rfl (by omega)) (leI rfl (by omega)) f h_f k h_k z15 h14 z19 h18 hM) (by decide) (by decide) (fun v23 σ24 h22 => ?_)
  obtain ⟨h25, h26, z28, h29, z30, h31, z32, rfl, h27⟩ := h22
  have h33 := h27.2.2.2.2.2.2.2.2.2.2.2.2.2.2.2.2.2.2.2.2.2.2.2.2.2.2.2.2
  have h34 := Fr_trans hF0 h26 (by decide +kernel)
  have h35 : tN By Nb ((Int32.ofInt 0)).toInt z12.toInt Sp = tN By Nb (0) (z12.toInt) Sp := tN_cg2 (fun zz => by omega) (fun zz => by omega)
  obtain ⟨S36, h37⟩ : ∃ q : PS, q = tN By Nb (0) (z12.toInt) Sp := ⟨_, rfl⟩
  have h38 : ML By Nb σ24 S36 := by rw [h37]; exact (ML_eq h33.1 h35)
  have h39 := ML_k h38 h31
  have h40 : Imp (S36.1 = 0) (z32.toInt = tV By Nb Sp.2.2.1) := fun z => h33.2 (by rw [h35, ← h37]; exact z)
  have h41 : Imp (S36.1 = 0) (Sp.1 = 0 ∧ tK By Nb Sp.2.2.1 = 2 ∧ 0 ≤ tV By Nb Sp.2.2.1 ∧ tV By Nb Sp.2.2.1 ≤ z12.toInt) := fun z => tN_gg (by rw [← h37]; exact z)
  have h42 : S36.2.2.2 = Sp.2.2.2 := by rw [h37]; exact tN_w
  have h43 := Imp_m h27.2.2.2.2.2.2.2.2.2.2.2.2.2.2.2.2.2.2.2.2.2.2.2.1 (by omega)
  have h44 := Imp_m h27.2.2.2.2.2.2.2.2.2.2.2.2.2.2.2.2.2.2.2.2.2.2.2.2.1 (by omega)
  have h45 := Imp_m h27.2.2.2.2.2.2.2.2.2.2.2.2.2.2.2.2.2.2.2.2.2.2.2.2.2.1 (by omega)
  exact En_ret (v := some (.int z32)) rfl rfl rfl ⟨h25, h34, z28, h29, z30, h31, z32, rfl, ⟨by omega, by omega, by omega, by omega, by omega, by omega, by omega, by omega, by omega, by omega, by omega, by omega, by omega, by omega, by omega, by omega, by omega, fun _ => by omega, (Classical.byCases (fun q : Sp.1 = 0 => by have w := ML_w hM q h4 (by omega) (by omega); have e9 : tN By Nb 0 (z12.toInt) Sp = tN By Nb 0 (pI (Sp.2.2.2 0) - 1) Sp := tN_cg rfl (by rw [w]; omega); rw [← e9, ← h37]; exact ⟨h38, fun zz => by (try have i0 := Imp_m h41 (by omega)); (try have i1 := Imp_m h40 (by omega)); (try have i2 := Imp_m h27.2.2.2.2.2.2.2.2.2.2.2.2.2.2.2.2.2.2.2.2.2.2.2.2.2.2.1 (by omega)); (try have i3 := Imp_m h27.2.2.2.2.2.2.2.2.2.2.2.2.2.2.2.2.2.2.2.2.2.2.2.2.2.2.2.1 (by omega)); omega⟩) (fun q : ¬ Sp.1 = 0 => by rw [tN_bad q]; exact ⟨ML_eq h38 (by subst h37; exact tN_bad q), fun zz => absurd zz q⟩))⟩⟩
/-- DoorSchoolModel.image(I)I -/
abbrev P_248x (σ0 : SG) (a : Int32) : PO := fun v σ => WT σ ∧ Fr [(37, 0), (38, 0)] σ0 σ ∧ ∃ ret : Int32, v = some (.int ret) ∧ -ret.toInt - 2 ≤ 0 ∧ ret.toInt ≤ 0 ∧ Imp (-a.toInt ≤ 0 ∧ a.toInt - 2 ≤ 0) (ret.toInt ≤ 0 ∧ -ret.toInt ≤ 0) ∧ Imp (a.toInt + 1 ≤ 0) (ret.toInt + 2 ≤ 0 ∧ -ret.toInt - 2 ≤ 0) ∧ Imp (-a.toInt + 3 ≤ 0) (ret.toInt + 2 ≤ 0 ∧ -ret.toInt - 2 ≤ 0) ∧ (WI σ ∧ BSET σ0 σ 162 a.toInt ∧ IMW σ0 σ a.toInt)
set_option maxRecDepth 10000 in
set_option maxHeartbeats 4000000 in
theorem c_248x (σ0 : SG) (hσ0 : WT σ0) (a : Int32) (hI : WI σ0) : En 1 25 none mr_248 (P_248x σ0 a) 0 [(0, .ref 159), (1, .int a)] [] σ0 := by
  have hF0 : Fr [(37, 0), (38, 0)] σ0 σ0 := Fr_rfl
  refine En_Ps 4 (pc' := 6) (lv' := [(0, .ref 159), (1, .int a)]) (st' := [.long ((2 : Int64)), .long ((Int64.ofNat 0)), .long a.toInt64]) rfl ?_
  have : a.toInt64.toInt = a.toInt := (i2lI rfl)
  have := (by decide : ((Int64.ofNat 0)).toInt = 0)
  have := (by decide : ((2 : Int64)).toInt = 2)
  refine En_callS rfl rfl rfl rfl rfl rfl rfl rfl rfl (c_249 σ0 hσ0 a.toInt64 ((Int64.ofNat 0)) ((2 : Int64))) (by decide) (by decide) (fun v2 σ3 h1 => ?_)
  obtain ⟨h4, h5, z7, rfl, h6⟩ := h1
  obtain rfl : σ0 = σ3 := Fr_nil h5
  refine En_iNe _ rfl rfl (fun h8 => ?_) (fun h8 => ?_)
  · refine En_Ps 2 (pc' := 17) (lv' := [(2, .int ((Int32.ofInt 0))), (0, .ref 159), (1, .int a)]) (st' := []) rfl ?_
    have key17 : ∀ (n17 : Nat) (σ10 : SG) (y9 : Int32), WT σ10 → Fr [(37, 0), (38, 0)] σ0 σ10 → 0 ≤ y9.toInt → y9.toInt ≤ 226 → -y9.toInt + 226 < (n17 : Int) → CPI σ0 σ10 a.toInt y9.toInt → SAMr σ0 σ10 162 → En 1 25 none mr_248 (P_248x σ0 a) 17 [(0, .ref 159), (1, .int a), (2, .int y9)] [] σ10 := by
      intro n17
      induction n17 with
      | zero =>
        intro σ10 y9 h11 h12 h13 h14 h15 h16 h17
        exfalso; omega
      | succ n17 ih17 =>
        intro σ10 y9 h11 h12 h13 h14 h15 h16 h17
        refine En_Ps 2 (pc' := 21) (lv' := [(0, .ref 159), (1, .int a), (2, .int y9)]) (st' := [.int (((Int16.ofInt 226).toInt32)), .int y9]) rfl ?_
        refine En_icGe _ rfl (by decide : ((Int16.ofInt 226).toInt32).toInt = 226) rfl (fun h18 => ?_) (fun h18 => ?_)
        · refine En_Ps 1 (pc' := 49) (lv' := [(0, .ref 159), (1, .int a), (2, .int y9)]) (st' := [.ref 159]) rfl ?_
          refine En_getU (j := 3) (u := 162) (g' := 38) (q := 0) rfl rfl rfl (by decide +kernel : TG 159 = 35) (by decide +kernel) h11 (by decide +kernel) (by decide +kernel) (fun h19 => ?_)
          refine En_Ps 2 (pc' := 54) (lv' := [(0, .ref 159), (1, .int a), (2, .int y9)]) (st' := [.int ((Int32.ofInt 1)), .int a, .ref 162]) rfl ?_
          refine En_bast (l := 0) (u := 1) rfl rfl (by decide +kernel : TG 162 = 38) (by decide +kernel) (narZ (by decide : (Int32.ofInt 1).toInt = 1) (by omega) (by omega)) (by omega) (lnI (by decide +kernel : LN _ = 3) (by omega)) (FTsgl (by decide +kernel)) (rngI (by decide : (Int32.ofInt 1).toInt = 1) (by omega) (by omega)) h11 h12 (by decide +kernel) (fun σ21 h22 h23 h24 h25 => ?_)
          refine En_Ps 1 (pc' := 56) (lv' := [(0, .ref 159), (1, .int a), (2, .int y9)]) (st' := [.int ((Int32.ofInt 0))]) rfl ?_
          refine En_top (by decide : (Int32.ofInt 0).toInt = 0) (fun z26 h27 => ?_)
          exact En_ret (v := some (.int z26)) rfl rfl rfl ⟨h22, h23, z26, rfl, ⟨by omega, by omega, fun _ => by omega, fun _ => by omega, fun _ => by omega, ⟨WI_nx h25 (by decide) (by decide) (CPI_x (W := []) h16 (by omega) (SWd_fr h12 (by decide +kernel)) (by omega) (by omega) hI), BSET_st h17 h24 h25 (by decide) (by omega), IMW_ok h16 (by omega) (by omega) (by omega) (SWd_fr h12 (by decide +kernel)) h25 (by decide)⟩⟩⟩
        · refine En_Ps 1 (pc' := 25) (lv' := [(0, .ref 159), (1, .int a), (2, .int y9)]) (st' := [.ref 159]) rfl ?_
          refine En_getU (j := 2) (u := 161) (g' := 37) (q := 0) rfl rfl rfl (by decide +kernel : TG 159 = 35) (by decide +kernel) h11 (by decide +kernel) (by decide +kernel) (fun h28 => ?_)
          refine En_Ps 3 (pc' := 33) (lv' := [(0, .ref 159), (1, .int a), (2, .int y9)]) (st' := [.int (((((Int16.ofInt 226).toInt32)) * a)), .ref 161]) rfl ?_
          refine En_top (mulI (by decide : ((Int16.ofInt 226).toInt32).toInt = 226) rfl (Z := 226 * a.toInt) (by omega) (by omega) (by omega)) (fun z30 h31 => ?_)
          refine En_Ps 2 (pc' := 35) (lv' := [(0, .ref 159), (1, .int a), (2, .int y9)]) (st' := [.int ((z30 + y9)), .ref 161]) rfl ?_
          refine En_top (addI rfl rfl (by omega) (by omega)) (fun z32 h33 => ?_)
          refine En_Ps 1 (pc' := 36) (lv' := [(0, .ref 159), (1, .int a), (2, .int y9)]) (st' := [.ref 159, .int z32, .ref 161]) rfl ?_
          refine En_getU (j := 1) (u := 160) (g' := 36) (q := 0) rfl rfl rfl (by decide +kernel : TG 159 = 35) (by decide +kernel) h11 (by decide +kernel) (by decide +kernel) (fun h34 => ?_)
          refine En_Ps 1 (pc' := 40) (lv' := [(0, .ref 159), (1, .int a), (2, .int y9)]) (st' := [.int y9, .ref 160, .int z32, .ref 161]) rfl ?_
          refine En_ialdW (n := 226) rfl rfl (by decide +kernel : TG 160 = 36) (by decide +kernel) h11 (by omega) (by decide +kernel) (by omega) (by decide +kernel) (fun z36 h37 h38 => ?_)
          refine En_iastW (n := 678) rfl rfl (by decide +kernel : TG 161 = 37) (by decide +kernel) (by omega) (by decide +kernel) (by omega) (ft_wi h38 (by omega) (by omega) (k := a.toInt) (by omega) (by omega) (by omega)) h11 h12 (by decide +kernel) (fun σ39 h40 h41 h42 h43 => ?_)
          refine En_Ps 1 (pc' := 45) (lv' := [(2, .int ((y9 + Int32.ofInt 1))), (0, .ref 159), (1, .int a)]) (st' := []) rfl ?_
          refine En_lv1 (addI rfl (by decide : (Int32.ofInt 1).toInt = 1) (by omega) (by omega)) (fun z44 h45 => ?_)
          refine En_Ps 1 (pc' := 17) (lv' := [(2, .int z44), (0, .ref 159), (1, .int a)]) (st' := []) rfl ?_
          refine En_lv (lv := [(0, .ref 159), (1, .int a), (2, .int z44)]) ⟨rfl, rfl, rfl, trivial⟩ ?_
          exact ih17 σ39 z44 h40 h41 (by omega) (by omega) (by omega) (CPI_s h16 (SWd_fr h12 (by decide +kernel)) h37 h42 h43 (by omega) (by omega) (by omega) (by omega) (by omega)) (SAMr_st h17 h43 (by decide))
    have := (by decide : (Int32.ofInt 0).toInt = 0)
    refine En_lv (lv := [(0, .ref 159), (1, .int a), (2, .int ((Int32.ofInt 0)))]) ⟨rfl, rfl, rfl, trivial⟩ ?_
    exact key17 (Int.toNat (226) + 1) σ0 ((Int32.ofInt 0)) hσ0 hF0 (by omega) (by omega) (by omega) (CPI_0 (by decide)) (SAMr_0)
  · refine En_Ps 1 (pc' := 14) (lv' := [(0, .ref 159), (1, .int a)]) (st' := [.int (((Int8.ofInt (-2)).toInt32))]) rfl ?_
    refine En_top (by decide : ((Int8.ofInt (-2)).toInt32).toInt = -2) (fun z46 h47 => ?_)
    exact En_ret (v := some (.int z46)) rfl rfl rfl ⟨hσ0, hF0, z46, rfl, ⟨by omega, by omega, fun _ => by omega, fun _ => by omega, fun _ => by omega, ⟨hI, BSET_no SAMr_0 (by omega), IMW_no (by omega)⟩⟩⟩
/-- DoorSchoolModel.isFreshCopied(I)Z -/
abbrev P_257x (σ0 : SG) (a : Int32) : PO := fun v σ => WT σ ∧ Fr [] σ0 σ ∧ ∃ ret : Int32, v = some (.int ret) ∧ -ret.toInt ≤ 0 ∧ ret.toInt - 1 ≤ 0 ∧ Imp (ret.toInt - 1 ≤ 0 ∧ -ret.toInt + 1 ≤ 0) (-a.toInt - 1 ≤ 0 ∧ a.toInt - 3 ≤ 0) ∧ ret.toInt = cpI (ci σ0 165) a.toInt
set_option maxRecDepth 10000 in
set_option maxHeartbeats 4000000 in
theorem c_257x (σ0 : SG) (hσ0 : WT σ0) (a : Int32) : En 0 0 none mr_257 (P_257x σ0 a) 0 [(0, .ref 159), (1, .int a)] [] σ0 := by
  have hF0 : Fr [] σ0 σ0 := Fr_rfl
  refine En_Ps 2 (pc' := 2) (lv' := [(2, .int ((Int32.ofInt 0))), (0, .ref 159), (1, .int a)]) (st' := []) rfl ?_
  have key2 : ∀ (n2 : Nat) (y1 : Int32), 0 ≤ y1.toInt → y1.toInt ≤ 4 → -y1.toInt + 4 < (n2 : Int) → NCP σ0 a.toInt y1.toInt → En 0 0 none mr_257 (P_257x σ0 a) 2 [(0, .ref 159), (1, .int a), (2, .int y1)] [] σ0 := by
    intro n2
    induction n2 with
    | zero =>
      intro y1 h5 h6 h7 h8
      exfalso; omega
    | succ n2 ih2 =>
      intro y1 h5 h6 h7 h8
      refine En_Ps 2 (pc' := 4) (lv' := [(0, .ref 159), (1, .int a), (2, .int y1)]) (st' := [.ref 159, .int y1]) rfl ?_
      refine En_getU (j := 14) (u := 165) (g' := 41) (q := 0) rfl rfl rfl (by decide +kernel : TG 159 = 35) (by decide +kernel) hσ0 (by decide +kernel) (by decide +kernel) (fun h9 => ?_)
      refine En_Ps 1 (pc' := 8) (lv' := [(0, .ref 159), (1, .int a), (2, .int y1)]) (st' := [.int ((Int32.ofInt 2)), .ref 165, .int y1]) rfl ?_
      refine En_iald (l := 0) (u := 4) rfl (by decide : (Int32.ofInt 2).toInt = 2) (by decide +kernel : TG 165 = 41) (by decide +kernel) hσ0 (by omega) (lnI (by decide +kernel : LN _ = 226) (by omega)) (by decide +kernel) (fun z12 h11 h13 h14 => ?_)
      refine En_icGe _ rfl rfl rfl (fun h15 => ?_) (fun h15 => ?_)
      · refine En_Ps 1 (pc' := 38) (lv' := [(0, .ref 159), (1, .int a), (2, .int y1)]) (st' := [.int ((Int32.ofInt 0))]) rfl ?_
        refine En_top (by decide : (Int32.ofInt 0).toInt = 0) (fun z16 h17 => ?_)
        exact En_ret (v := some (.int z16)) rfl rfl (retZ rfl rfl (by omega) (by omega)) ⟨hσ0, hF0, z16, rfl, ⟨by omega, by omega, fun _ => by omega, CPI_n h11 h8 (by omega) (by omega) (by omega)⟩⟩
      · refine En_Ps 1 (pc' := 13) (lv' := [(0, .ref 159), (1, .int a), (2, .int y1)]) (st' := [.ref 159]) rfl ?_
        refine En_getK (j := 14) h9 rfl rfl rfl (by decide +kernel : TG 159 = 35) (by decide +kernel) ?_
        refine En_Ps 4 (pc' := 21) (lv' := [(0, .ref 159), (1, .int a), (2, .int y1)]) (st' := [.int ((((Int32.ofInt 4)) * y1)), .int (((Int8.ofInt 10).toInt32)), .ref 165]) rfl ?_
        refine En_top (mulI (by decide : (Int32.ofInt 4).toInt = 4) rfl (Z := 4 * y1.toInt) (by omega) (by omega) (by omega)) (fun z18 h19 => ?_)
        refine En_Ps 1 (pc' := 22) (lv' := [(0, .ref 159), (1, .int a), (2, .int y1)]) (st' := [.int (((((Int8.ofInt 10).toInt32)) + z18)), .ref 165]) rfl ?_
        refine En_top (addI (by decide : ((Int8.ofInt 10).toInt32).toInt = 10) rfl (by omega) (by omega)) (fun z20 h21 => ?_)
        refine En_Ps 2 (pc' := 24) (lv' := [(0, .ref 159), (1, .int a), (2, .int y1)]) (st' := [.int ((z20 + ((Int32.ofInt 3)))), .ref 165]) rfl ?_
        refine En_top (addI rfl (by decide : (Int32.ofInt 3).toInt = 3) (by omega) (by omega)) (fun z22 h23 => ?_)
        refine En_iald (l := (-1)) (u := 3) rfl rfl (by decide +kernel : TG 165 = 41) (by decide +kernel) hσ0 (by omega) (lnI (by decide +kernel : LN _ = 226) (by omega)) (FTrow 41 13 4 4 (by decide +kernel) (by omega) (by omega) (by omega)) (fun z25 h24 h26 h27 => ?_)
        refine En_Ps 1 (pc' := 26) (lv' := [(0, .ref 159), (1, .int a), (2, .int y1)]) (st' := [.int a, .int z25]) rfl ?_
        refine En_icNe _ rfl rfl rfl (fun h28 => ?_) (fun h28 => ?_)
        · refine En_Ps 1 (pc' := 34) (lv' := [(2, .int ((y1 + Int32.ofInt 1))), (0, .ref 159), (1, .int a)]) (st' := []) rfl ?_
          refine En_lv1 (addI rfl (by decide : (Int32.ofInt 1).toInt = 1) (by omega) (by omega)) (fun z29 h30 => ?_)
          refine En_Ps 1 (pc' := 2) (lv' := [(2, .int z29), (0, .ref 159), (1, .int a)]) (st' := []) rfl ?_
          refine En_lv (lv := [(0, .ref 159), (1, .int a), (2, .int z29)]) ⟨rfl, rfl, rfl, trivial⟩ ?_
          exact ih2 z29 (by omega) (by omega) (by omega) (NCP_s h8 h24 (by omega) (by omega) (by omega))
        · refine En_Ps 1 (pc' := 30) (lv' := [(0, .ref 159), (1, .int a), (2, .int y1)]) (st' := [.int ((Int32.ofInt 1))]) rfl ?_
          refine En_top (by decide : (Int32.ofInt 1).toInt = 1) (fun z31 h32 => ?_)
          exact En_ret (v := some (.int z31)) rfl rfl (retZ rfl rfl (by omega) (by omega)) ⟨hσ0, hF0, z31, rfl, ⟨by omega, by omega, fun _ => by omega, CPI_1 (y := y1.toInt) h11 h24 (by omega) (by omega) (by omega) (by omega) (by omega) (by omega)⟩⟩
  have := (by decide : (Int32.ofInt 0).toInt = 0)
  refine En_lv (lv := [(0, .ref 159), (1, .int a), (2, .int ((Int32.ofInt 0)))]) ⟨rfl, rfl, rfl, trivial⟩ ?_
  exact key2 (Int.toNat (4) + 1) ((Int32.ofInt 0)) (by omega) (by omega) (by omega) (fun q q0 q1 => by omega)
/-- DoorSchoolModel.isNextIn(I)Z -/
abbrev P_260x (σ0 : SG) (a : Int32) (k : Int32) (t : Int32) (u : Int32) : PO := fun v σ => WT σ ∧ Fr [] σ0 σ ∧ ∃ ret : Int32, v = some (.int ret) ∧ -ret.toInt ≤ 0 ∧ ret.toInt - 1 ≤ 0 ∧ Imp (-ret.toInt + 1 ≤ 0) (k.toInt ≤ 0 ∧ t.toInt - 2 ≤ 0 ∧ -t.toInt + 2 ≤ 0 ∧ u.toInt - a.toInt + 1 ≤ 0) ∧ Imp (ret.toInt ≤ 0 ∧ k.toInt ≤ 0 ∧ t.toInt - 2 ≤ 0 ∧ -t.toInt + 2 ≤ 0) (a.toInt - u.toInt ≤ 0)
set_option maxRecDepth 10000 in
set_option maxHeartbeats 4000000 in
theorem c_260x (σ0 : SG) (hσ0 : WT σ0) (a : Int32) (k : Int32) (h_k : (σ0 159)[12]? = some (.int k)) (t : Int32) (h_t : (σ0 159)[10]? = some (.int t)) (u : Int32) (h_u : (σ0 159)[11]? = some (.int u)) : En 1 20 none mr_260 (P_260x σ0 a k t u) 0 [(0, .ref 159), (1, .int a)] [] σ0 := by
  obtain ⟨hl_k, hu_k⟩ := WT_int hσ0 (g := 35) (by decide +kernel) (by decide +kernel) (l := 0) (u := 3) (by decide +kernel) h_k
  obtain ⟨hl_t, hu_t⟩ := WT_int hσ0 (g := 35) (by decide +kernel) (by decide +kernel) (l := 0) (u := 4) (by decide +kernel) h_t
  obtain ⟨hl_u, hu_u⟩ := WT_int hσ0 (g := 35) (by decide +kernel) (by decide +kernel) (l := 0) (u := 99999) (by decide +kernel) h_u
  have hF0 : Fr [] σ0 σ0 := Fr_rfl
  refine En_Ps 1 (pc' := 1) (lv' := [(0, .ref 159), (1, .int a)]) (st' := [.ref 159]) rfl ?_
  refine En_callV rfl rfl rfl rfl rfl rfl rfl rfl (by decide +kernel : TG 159 = 35) (by decide +kernel) rfl (c_237 σ0 hσ0 k h_k) (by decide) (by decide) (fun v2 σ3 h1 => ?_)
  obtain ⟨h4, h5, z7, rfl, h6⟩ := h1
  obtain rfl : σ0 = σ3 := Fr_nil h5
  refine En_iEq _ rfl rfl (fun h8 => ?_) (fun h8 => ?_)
  · refine En_Ps 1 (pc' := 28) (lv' := [(0, .ref 159), (1, .int a)]) (st' := [.int ((Int32.ofInt 0))]) rfl ?_
    refine En_top (by decide : (Int32.ofInt 0).toInt = 0) (fun z9 h10 => ?_)
    exact En_ret (v := some (.int z9)) rfl rfl (retZ rfl rfl (by omega) (by omega)) ⟨hσ0, hF0, z9, rfl, ⟨by omega, by omega, fun _ => by omega, fun _ => by omega⟩⟩
  · refine En_Ps 1 (pc' := 8) (lv' := [(0, .ref 159), (1, .int a)]) (st' := [.ref 159]) rfl ?_
    refine En_getK (j := 10) h_t rfl rfl rfl (by decide +kernel : TG 159 = 35) (by decide +kernel) ?_
    refine En_Ps 1 (pc' := 12) (lv' := [(0, .ref 159), (1, .int a)]) (st' := [.int ((Int32.ofInt 2)), .int t]) rfl ?_
    refine En_icNe _ rfl (by decide : (Int32.ofInt 2).toInt = 2) rfl (fun h11 => ?_) (fun h11 => ?_)
    · refine En_Ps 1 (pc' := 28) (lv' := [(0, .ref 159), (1, .int a)]) (st' := [.int ((Int32.ofInt 0))]) rfl ?_
      refine En_top (by decide : (Int32.ofInt 0).toInt = 0) (fun z12 h13 => ?_)
      exact En_ret (v := some (.int z12)) rfl rfl (retZ rfl rfl (by omega) (by omega)) ⟨hσ0, hF0, z12, rfl, ⟨by omega, by omega, fun _ => by omega, fun _ => by omega⟩⟩
    · refine En_Ps 1 (pc' := 16) (lv' := [(0, .ref 159), (1, .int a)]) (st' := [.ref 159]) rfl ?_
      refine En_getK (j := 11) h_u rfl rfl rfl (by decide +kernel : TG 159 = 35) (by decide +kernel) ?_
      refine En_Ps 1 (pc' := 20) (lv' := [(0, .ref 159), (1, .int a)]) (st' := [.int a, .int u]) rfl ?_
      refine En_icGe _ rfl rfl rfl (fun h14 => ?_) (fun h14 => ?_)
      · refine En_Ps 1 (pc' := 28) (lv' := [(0, .ref 159), (1, .int a)]) (st' := [.int ((Int32.ofInt 0))]) rfl ?_
        refine En_top (by decide : (Int32.ofInt 0).toInt = 0) (fun z15 h16 => ?_)
        exact En_ret (v := some (.int z15)) rfl rfl (retZ rfl rfl (by omega) (by omega)) ⟨hσ0, hF0, z15, rfl, ⟨by omega, by omega, fun _ => by omega, fun _ => by omega⟩⟩
      · refine En_Ps 2 (pc' := 28) (lv' := [(0, .ref 159), (1, .int a)]) (st' := [.int ((Int32.ofInt 1))]) rfl ?_
        refine En_top (by decide : (Int32.ofInt 1).toInt = 1) (fun z17 h18 => ?_)
        exact En_ret (v := some (.int z17)) rfl rfl (retZ rfl rfl (by omega) (by omega)) ⟨hσ0, hF0, z17, rfl, ⟨by omega, by omega, fun _ => by omega, fun _ => by omega⟩⟩
/-- DoorSchoolModel.lesson(III)I -/
abbrev P_280x (σ0 : SG) (a : Int32) (b : Int32) (c : Int32) : PO := fun v σ => WT σ ∧ Fr [] σ0 σ ∧ ∃ ret : Int32, v = some (.int ret) ∧ -ret.toInt - 2 ≤ 0 ∧ ret.toInt - 15 ≤ 0 ∧ ret.toInt = leR (wf σ0) a.toInt b.toInt c.toInt
set_option maxRecDepth 10000 in
set_option maxHeartbeats 4000000 in
theorem c_280x (σ0 : SG) (hσ0 : WT σ0) (a : Int32) (b : Int32) (c : Int32) : En 2 46 none mr_280 (P_280x σ0 a b c) 0 [(0, .ref 159), (1, .int a), (2, .int b), (3, .int c)] [] σ0 := by
  have hF0 : Fr [] σ0 σ0 := Fr_rfl
  refine En_Ps 2 (pc' := 2) (lv' := [(0, .ref 159), (1, .int a), (2, .int b), (3, .int c)]) (st' := [.int a, .ref 159]) rfl ?_
  obtain ⟨z2, h1, h3, h4⟩ := WT_peekI hσ0 (by decide +kernel : TG 160 = 36) (by decide +kernel : FT 36 (2 : Int).toNat = (0, 0, 4)) (by decide +kernel)
  refine En_callV rfl rfl rfl rfl rfl rfl rfl rfl (by decide +kernel : TG 159 = 35) (by decide +kernel) rfl (c_254 σ0 hσ0 a z2 h1) (by decide) (by decide) (fun v6 σ7 h5 => ?_)
  obtain ⟨h8, h9, z11, rfl, h10⟩ := h5
  obtain rfl : σ0 = σ7 := Fr_nil h9
  have w12 : wf σ0 (2) = z2.toInt := ci_at h1 (by omega)
  refine En_iEq _ rfl rfl (fun h13 => ?_) (fun h13 => ?_)
  · refine En_Ps 1 (pc' := 20) (lv' := [(0, .ref 159), (1, .int a), (2, .int b), (3, .int c)]) (st' := [.int (((Int8.ofInt (-2)).toInt32))]) rfl ?_
    refine En_top (by decide : ((Int8.ofInt (-2)).toInt32).toInt = -2) (fun z14 h15 => ?_)
    exact En_ret (v := some (.int z14)) rfl rfl rfl ⟨hσ0, hF0, z14, rfl, ⟨by omega, by omega, (by have e := leR_2 (w := wf σ0) (d := a.toInt) (i := b.toInt) (q := c.toInt) (by omega); omega)⟩⟩
  · refine En_Ps 4 (pc' := 12) (lv' := [(0, .ref 159), (1, .int a), (2, .int b), (3, .int c)]) (st' := [.long ((Int64.ofNat 1)), .long ((Int64.ofNat 0)), .long c.toInt64]) rfl ?_
    have : c.toInt64.toInt = c.toInt := (i2lI rfl)
    have := (by decide : ((Int64.ofNat 0)).toInt = 0)
    have := (by decide : ((Int64.ofNat 1)).toInt = 1)
    refine En_callS rfl rfl rfl rfl rfl rfl rfl rfl rfl (c_249 σ0 hσ0 c.toInt64 ((Int64.ofNat 0)) ((Int64.ofNat 1))) (by decide) (by decide) (fun v17 σ18 h16 => ?_)
    obtain ⟨h19, h20, z22, rfl, h21⟩ := h16
    obtain rfl : σ0 = σ18 := Fr_nil h20
    refine En_iNe _ rfl rfl (fun h23 => ?_) (fun h23 => ?_)
    · refine En_Ps 6 (pc' := 27) (lv' := [(0, .ref 159), (1, .int a), (2, .int b), (3, .int c)]) (st' := [.int ((Int32.ofInt 2)), .int a, .ref 159, .long ((Int64.ofNat 0)), .long b.toInt64]) rfl ?_
      have := (by decide : ((Int32.ofInt 2)).toInt = 2)
      obtain ⟨z24, h25, h26, h27⟩ := WT_peekJ (J := (4 * a.toInt + ((Int32.ofInt 2)).toInt + 10)) (l := 0) (u := 12) hσ0 (by decide +kernel : TG 160 = 36) (by decide +kernel) (by omega) (lnI (by decide +kernel : LN _ = 226) (by omega)) (FTrow 36 12 4 4 (by decide +kernel) (by omega) (by omega) (by omega))
      have := (by decide : ((Int32.ofInt 2)).toInt = 2)
      refine En_callV rfl rfl rfl rfl rfl rfl rfl rfl (by decide +kernel : TG 159 = 35) (by decide +kernel) rfl (c_290c σ0 hσ0 a ((Int32.ofInt 2)) (geI rfl (by omega)) (leI rfl (by omega)) (geI (by decide : (Int32.ofInt 2).toInt = 2) (by omega)) (leI (by decide : (Int32.ofInt 2).toInt = 2) (by omega)) z24 h25) (by decide) (by decide) (fun v29 σ30 h28 => ?_)
      obtain ⟨h31, h32, z34, rfl, h33⟩ := h28
      obtain rfl : σ0 = σ30 := Fr_nil h32
      refine En_Ps 2 (pc' := 32) (lv' := [(0, .ref 159), (1, .int a), (2, .int b), (3, .int c)]) (st' := [.int ((z34 - ((Int32.ofInt 1)))), .long ((Int64.ofNat 0)), .long b.toInt64]) rfl ?_
      refine En_top (subI rfl (by decide : (Int32.ofInt 1).toInt = 1) (by omega) (by omega)) (fun z35 h36 => ?_)
      refine En_Ps 1 (pc' := 33) (lv' := [(0, .ref 159), (1, .int a), (2, .int b), (3, .int c)]) (st' := [.long z35.toInt64, .long ((Int64.ofNat 0)), .long b.toInt64]) rfl ?_
      have : b.toInt64.toInt = b.toInt := (i2lI rfl)
      have := (by decide : ((Int64.ofNat 0)).toInt = 0)
      have : z35.toInt64.toInt = z35.toInt := (i2lI rfl)
      refine En_callS rfl rfl rfl rfl rfl rfl rfl rfl rfl (c_249 σ0 hσ0 b.toInt64 ((Int64.ofNat 0)) z35.toInt64) (by decide) (by decide) (fun v38 σ39 h37 => ?_)
      obtain ⟨h40, h41, z43, rfl, h42⟩ := h37
      obtain rfl : σ0 = σ39 := Fr_nil h41
      have w44 : wf σ0 (12 + 4 * a.toInt) = z24.toInt := ci_at h25 (by omega)
      refine En_iEq _ rfl rfl (fun h45 => ?_) (fun h45 => ?_)
      · refine En_Ps 1 (pc' := 55) (lv' := [(0, .ref 159), (1, .int a), (2, .int b), (3, .int c)]) (st' := [.int ((Int32.ofInt (-1)))]) rfl ?_
        refine En_top (by decide : (Int32.ofInt (-1)).toInt = -1) (fun z46 h47 => ?_)
        exact En_ret (v := some (.int z46)) rfl rfl rfl ⟨hσ0, hF0, z46, rfl, ⟨by omega, by omega, (by have e := leR_1 (w := wf σ0) (d := a.toInt) (i := b.toInt) (q := c.toInt) (by omega) (by omega); omega)⟩⟩
      · refine En_Ps 1 (pc' := 40) (lv' := [(0, .ref 159), (1, .int a), (2, .int b), (3, .int c)]) (st' := [.ref 159]) rfl ?_
        refine En_getU (j := 1) (u := 160) (g' := 36) (q := 0) rfl rfl rfl (by decide +kernel : TG 159 = 35) (by decide +kernel) hσ0 (by decide +kernel) (by decide +kernel) (fun h48 => ?_)
        refine En_Ps 2 (pc' := 45) (lv' := [(0, .ref 159), (1, .int a), (2, .int b), (3, .int c)]) (st' := [.int b, .int a, .ref 160]) rfl ?_
        refine En_callS rfl rfl rfl rfl rfl rfl rfl rfl rfl (c_281 σ0 hσ0 a b (geI rfl (by omega)) (leI rfl (by omega)) (geI rfl (by omega)) (leI rfl (by omega))) (by decide) (by decide) (fun v51 σ52 h50 => ?_)
        obtain ⟨h53, h54, z56, rfl, h55⟩ := h50
        obtain rfl : σ0 = σ52 := Fr_nil h54
        refine En_Ps 2 (pc' := 50) (lv' := [(0, .ref 159), (1, .int a), (2, .int b), (3, .int c)]) (st' := [.int ((z56 + c)), .ref 160]) rfl ?_
        refine En_top (addI rfl rfl (by omega) (by omega)) (fun z57 h58 => ?_)
        rcases (show z57.toInt = 26 ∨ z57.toInt = 27 ∨ z57.toInt = 28 ∨ z57.toInt = 29 ∨ z57.toInt = 30 ∨ z57.toInt = 31 ∨ z57.toInt = 32 ∨ z57.toInt = 33 ∨ z57.toInt = 34 ∨ z57.toInt = 35 ∨ z57.toInt = 36 ∨ z57.toInt = 37 ∨ z57.toInt = 38 ∨ z57.toInt = 39 ∨ z57.toInt = 40 ∨ z57.toInt = 41 ∨ z57.toInt = 42 ∨ z57.toInt = 43 ∨ z57.toInt = 44 ∨ z57.toInt = 45 ∨ z57.toInt = 46 ∨ z57.toInt = 47 ∨ z57.toInt = 48 ∨ z57.toInt = 49 ∨ z57.toInt = 50 ∨ z57.toInt = 51 ∨ z57.toInt = 52 ∨ z57.toInt = 53 ∨ z57.toInt = 54 ∨ z57.toInt = 55 ∨ z57.toInt = 56 ∨ z57.toInt = 57 ∨ z57.toInt = 58 ∨ z57.toInt = 59 ∨ z57.toInt = 60 ∨ z57.toInt = 61 ∨ z57.toInt = 62 ∨ z57.toInt = 63 ∨ z57.toInt = 64 ∨ z57.toInt = 65 ∨ z57.toInt = 66 ∨ z57.toInt = 67 ∨ z57.toInt = 68 ∨ z57.toInt = 69 ∨ z57.toInt = 70 ∨ z57.toInt = 71 ∨ z57.toInt = 72 ∨ z57.toInt = 73 ∨ z57.toInt = 74 ∨ z57.toInt = 75 ∨ z57.toInt = 76 ∨ z57.toInt = 77 ∨ z57.toInt = 78 ∨ z57.toInt = 79 ∨ z57.toInt = 80 ∨ z57.toInt = 81 ∨ z57.toInt = 82 ∨ z57.toInt = 83 ∨ z57.toInt = 84 ∨ z57.toInt = 85 ∨ z57.toInt = 86 ∨ z57.toInt = 87 ∨ z57.toInt = 88 ∨ z57.toInt = 89 ∨ z57.toInt = 90 ∨ z57.toInt = 91 ∨ z57.toInt = 92 ∨ z57.toInt = 93 ∨ z57.toInt = 94 ∨ z57.toInt = 95 ∨ z57.toInt = 96 ∨ z57.toInt = 97 ∨ z57.toInt = 98 ∨ z57.toInt = 99 ∨ z57.toInt = 100 ∨ z57.toInt = 101 ∨ z57.toInt = 102 ∨ z57.toInt = 103 ∨ z57.toInt = 104 ∨ z57.toInt = 105 ∨ z57.toInt = 106 ∨ z57.toInt = 107 ∨ z57.toInt = 108 ∨ z57.toInt = 109 ∨ z57.toInt = 110 ∨ z57.toInt = 111 ∨ z57.toInt = 112 ∨ z57.toInt = 113 ∨ z57.toInt = 114 ∨ z57.toInt = 115 ∨ z57.toInt = 116 ∨ z57.toInt = 117 ∨ z57.toInt = 118 ∨ z57.toInt = 119 ∨ z57.toInt = 120 ∨ z57.toInt = 121 by omega) with h59 | h59 | h59 | h59 | h59 | h59 | h59 | h59 | h59 | h59 | h59 | h59 | h59 | h59 | h59 | h59 | h59 | h59 | h59 | h59 | h59 | h59 | h59 | h59 | h59 | h59 | h59 | h59 | h59 | h59 | h59 | h59 | h59 | h59 | h59 | h59 | h59 | h59 | h59 | h59 | h59 | h59 | h59 | h59 | h59 | h59 | h59 | h59 | h59 | h59 | h59 | h59 | h59 | h59 | h59 | h59 | h59 | h59 | h59 | h59 | h59 | h59 | h59 | h59 | h59 | h59 | h59 | h59 | h59 | h59 | h59 | h59 | h59 | h59 | h59 | h59 | h59 | h59 | h59 | h59 | h59 | h59 | h59 | h59 | h59 | h59 | h59 | h59 | h59 | h59 | h59 | h59 | h59 | h59 | h59 | h59
        · refine En_iald (l := 0) (u := 15) rfl h59 (by decide +kernel : TG 160 = 36) (by decide +kernel) hσ0 (by omega) (lnI (by decide +kernel : LN _ = 226) (by omega)) (by decide +kernel) (fun z61 h60 h62 h63 => ?_)
          refine En_Ps 1 (pc' := 55) (lv' := [(0, .ref 159), (1, .int a), (2, .int b), (3, .int c)]) (st' := [.int z61]) rfl ?_
          have w64 : wf σ0 (26) = z61.toInt := ci_at h60 (by omega)
          exact En_ret (v := some (.int z61)) rfl rfl rfl ⟨hσ0, hF0, z61, rfl, ⟨by omega, by omega, (by have e := leR_y (w := wf σ0) (d := a.toInt) (i := b.toInt) (q := c.toInt) (by omega) (by omega) w64; omega)⟩⟩
        · refine En_iald (l := 0) (u := 1) rfl h59 (by decide +kernel : TG 160 = 36) (by decide +kernel) hσ0 (by omega) (lnI (by decide +kernel : LN _ = 226) (by omega)) (by decide +kernel) (fun z66 h65 h67 h68 => ?_)
          refine En_Ps 1 (pc' := 55) (lv' := [(0, .ref 159), (1, .int a), (2, .int b), (3, .int c)]) (st' := [.int z66]) rfl ?_
          have w69 : wf σ0 (27) = z66.toInt := ci_at h65 (by omega)
          exact En_ret (v := some (.int z66)) rfl rfl rfl ⟨hσ0, hF0, z66, rfl, ⟨by omega, by omega, (by have e := leR_y (w := wf σ0) (d := a.toInt) (i := b.toInt) (q := c.toInt) (by omega) (by omega) w69; omega)⟩⟩
        · refine En_iald (l := 0) (u := 15) rfl h59 (by decide +kernel : TG 160 = 36) (by decide +kernel) hσ0 (by omega) (lnI (by decide +kernel : LN _ = 226) (by omega)) (by decide +kernel) (fun z71 h70 h72 h73 => ?_)
          refine En_Ps 1 (pc' := 55) (lv' := [(0, .ref 159), (1, .int a), (2, .int b), (3, .int c)]) (st' := [.int z71]) rfl ?_
          have w74 : wf σ0 (28) = z71.toInt := ci_at h70 (by omega)
          exact En_ret (v := some (.int z71)) rfl rfl rfl ⟨hσ0, hF0, z71, rfl, ⟨by omega, by omega, (by have e := leR_y (w := wf σ0) (d := a.toInt) (i := b.toInt) (q := c.toInt) (by omega) (by omega) w74; omega)⟩⟩
        · refine En_iald (l := 0) (u := 1) rfl h59 (by decide +kernel : TG 160 = 36) (by decide +kernel) hσ0 (by omega) (lnI (by decide +kernel : LN _ = 226) (by omega)) (by decide +kernel) (fun z76 h75 h77 h78 => ?_)
          refine En_Ps 1 (pc' := 55) (lv' := [(0, .ref 159), (1, .int a), (2, .int b), (3, .int c)]) (st' := [.int z76]) rfl ?_
          have w79 : wf σ0 (29) = z76.toInt := ci_at h75 (by omega)
          exact En_ret (v := some (.int z76)) rfl rfl rfl ⟨hσ0, hF0, z76, rfl, ⟨by omega, by omega, (by have e := leR_y (w := wf σ0) (d := a.toInt) (i := b.toInt) (q := c.toInt) (by omega) (by omega) w79; omega)⟩⟩
        · refine En_iald (l := 0) (u := 15) rfl h59 (by decide +kernel : TG 160 = 36) (by decide +kernel) hσ0 (by omega) (lnI (by decide +kernel : LN _ = 226) (by omega)) (by decide +kernel) (fun z81 h80 h82 h83 => ?_)
          refine En_Ps 1 (pc' := 55) (lv' := [(0, .ref 159), (1, .int a), (2, .int b), (3, .int c)]) (st' := [.int z81]) rfl ?_
          have w84 : wf σ0 (30) = z81.toInt := ci_at h80 (by omega)
          exact En_ret (v := some (.int z81)) rfl rfl rfl ⟨hσ0, hF0, z81, rfl, ⟨by omega, by omega, (by have e := leR_y (w := wf σ0) (d := a.toInt) (i := b.toInt) (q := c.toInt) (by omega) (by omega) w84; omega)⟩⟩
        · refine En_iald (l := 0) (u := 1) rfl h59 (by decide +kernel : TG 160 = 36) (by decide +kernel) hσ0 (by omega) (lnI (by decide +kernel : LN _ = 226) (by omega)) (by decide +kernel) (fun z86 h85 h87 h88 => ?_)
          refine En_Ps 1 (pc' := 55) (lv' := [(0, .ref 159), (1, .int a), (2, .int b), (3, .int c)]) (st' := [.int z86]) rfl ?_
          have w89 : wf σ0 (31) = z86.toInt := ci_at h85 (by omega)
          exact En_ret (v := some (.int z86)) rfl rfl rfl ⟨hσ0, hF0, z86, rfl, ⟨by omega, by omega, (by have e := leR_y (w := wf σ0) (d := a.toInt) (i := b.toInt) (q := c.toInt) (by omega) (by omega) w89; omega)⟩⟩
        · refine En_iald (l := 0) (u := 15) rfl h59 (by decide +kernel : TG 160 = 36) (by decide +kernel) hσ0 (by omega) (lnI (by decide +kernel : LN _ = 226) (by omega)) (by decide +kernel) (fun z91 h90 h92 h93 => ?_)
          refine En_Ps 1 (pc' := 55) (lv' := [(0, .ref 159), (1, .int a), (2, .int b), (3, .int c)]) (st' := [.int z91]) rfl ?_
          have w94 : wf σ0 (32) = z91.toInt := ci_at h90 (by omega)
          exact En_ret (v := some (.int z91)) rfl rfl rfl ⟨hσ0, hF0, z91, rfl, ⟨by omega, by omega, (by have e := leR_y (w := wf σ0) (d := a.toInt) (i := b.toInt) (q := c.toInt) (by omega) (by omega) w94; omega)⟩⟩
        · refine En_iald (l := 0) (u := 1) rfl h59 (by decide +kernel : TG 160 = 36) (by decide +kernel) hσ0 (by omega) (lnI (by decide +kernel : LN _ = 226) (by omega)) (by decide +kernel) (fun z96 h95 h97 h98 => ?_)
          refine En_Ps 1 (pc' := 55) (lv' := [(0, .ref 159), (1, .int a), (2, .int b), (3, .int c)]) (st' := [.int z96]) rfl ?_
          have w99 : wf σ0 (33) = z96.toInt := ci_at h95 (by omega)
          exact En_ret (v := some (.int z96)) rfl rfl rfl ⟨hσ0, hF0, z96, rfl, ⟨by omega, by omega, (by have e := leR_y (w := wf σ0) (d := a.toInt) (i := b.toInt) (q := c.toInt) (by omega) (by omega) w99; omega)⟩⟩
        · refine En_iald (l := 0) (u := 15) rfl h59 (by decide +kernel : TG 160 = 36) (by decide +kernel) hσ0 (by omega) (lnI (by decide +kernel : LN _ = 226) (by omega)) (by decide +kernel) (fun z101 h100 h102 h103 => ?_)
          refine En_Ps 1 (pc' := 55) (lv' := [(0, .ref 159), (1, .int a), (2, .int b), (3, .int c)]) (st' := [.int z101]) rfl ?_
          have w104 : wf σ0 (34) = z101.toInt := ci_at h100 (by omega)
          exact En_ret (v := some (.int z101)) rfl rfl rfl ⟨hσ0, hF0, z101, rfl, ⟨by omega, by omega, (by have e := leR_y (w := wf σ0) (d := a.toInt) (i := b.toInt) (q := c.toInt) (by omega) (by omega) w104; omega)⟩⟩
        · refine En_iald (l := 0) (u := 1) rfl h59 (by decide +kernel : TG 160 = 36) (by decide +kernel) hσ0 (by omega) (lnI (by decide +kernel : LN _ = 226) (by omega)) (by decide +kernel) (fun z106 h105 h107 h108 => ?_)
          refine En_Ps 1 (pc' := 55) (lv' := [(0, .ref 159), (1, .int a), (2, .int b), (3, .int c)]) (st' := [.int z106]) rfl ?_
          have w109 : wf σ0 (35) = z106.toInt := ci_at h105 (by omega)
          exact En_ret (v := some (.int z106)) rfl rfl rfl ⟨hσ0, hF0, z106, rfl, ⟨by omega, by omega, (by have e := leR_y (w := wf σ0) (d := a.toInt) (i := b.toInt) (q := c.toInt) (by omega) (by omega) w109; omega)⟩⟩
        · refine En_iald (l := 0) (u := 15) rfl h59 (by decide +kernel : TG 160 = 36) (by decide +kernel) hσ0 (by omega) (lnI (by decide +kernel : LN _ = 226) (by omega)) (by decide +kernel) (fun z111 h110 h112 h113 => ?_)
          refine En_Ps 1 (pc' := 55) (lv' := [(0, .ref 159), (1, .int a), (2, .int b), (3, .int c)]) (st' := [.int z111]) rfl ?_
          have w114 : wf σ0 (36) = z111.toInt := ci_at h110 (by omega)
          exact En_ret (v := some (.int z111)) rfl rfl rfl ⟨hσ0, hF0, z111, rfl, ⟨by omega, by omega, (by have e := leR_y (w := wf σ0) (d := a.toInt) (i := b.toInt) (q := c.toInt) (by omega) (by omega) w114; omega)⟩⟩
        · refine En_iald (l := 0) (u := 1) rfl h59 (by decide +kernel : TG 160 = 36) (by decide +kernel) hσ0 (by omega) (lnI (by decide +kernel : LN _ = 226) (by omega)) (by decide +kernel) (fun z116 h115 h117 h118 => ?_)
          refine En_Ps 1 (pc' := 55) (lv' := [(0, .ref 159), (1, .int a), (2, .int b), (3, .int c)]) (st' := [.int z116]) rfl ?_
          have w119 : wf σ0 (37) = z116.toInt := ci_at h115 (by omega)
          exact En_ret (v := some (.int z116)) rfl rfl rfl ⟨hσ0, hF0, z116, rfl, ⟨by omega, by omega, (by have e := leR_y (w := wf σ0) (d := a.toInt) (i := b.toInt) (q := c.toInt) (by omega) (by omega) w119; omega)⟩⟩
        · refine En_iald (l := 0) (u := 15) rfl h59 (by decide +kernel : TG 160 = 36) (by decide +kernel) hσ0 (by omega) (lnI (by decide +kernel : LN _ = 226) (by omega)) (by decide +kernel) (fun z121 h120 h122 h123 => ?_)
          refine En_Ps 1 (pc' := 55) (lv' := [(0, .ref 159), (1, .int a), (2, .int b), (3, .int c)]) (st' := [.int z121]) rfl ?_
          have w124 : wf σ0 (38) = z121.toInt := ci_at h120 (by omega)
          exact En_ret (v := some (.int z121)) rfl rfl rfl ⟨hσ0, hF0, z121, rfl, ⟨by omega, by omega, (by have e := leR_y (w := wf σ0) (d := a.toInt) (i := b.toInt) (q := c.toInt) (by omega) (by omega) w124; omega)⟩⟩
        · refine En_iald (l := 0) (u := 1) rfl h59 (by decide +kernel : TG 160 = 36) (by decide +kernel) hσ0 (by omega) (lnI (by decide +kernel : LN _ = 226) (by omega)) (by decide +kernel) (fun z126 h125 h127 h128 => ?_)
          refine En_Ps 1 (pc' := 55) (lv' := [(0, .ref 159), (1, .int a), (2, .int b), (3, .int c)]) (st' := [.int z126]) rfl ?_
          have w129 : wf σ0 (39) = z126.toInt := ci_at h125 (by omega)
          exact En_ret (v := some (.int z126)) rfl rfl rfl ⟨hσ0, hF0, z126, rfl, ⟨by omega, by omega, (by have e := leR_y (w := wf σ0) (d := a.toInt) (i := b.toInt) (q := c.toInt) (by omega) (by omega) w129; omega)⟩⟩
        · refine En_iald (l := 0) (u := 15) rfl h59 (by decide +kernel : TG 160 = 36) (by decide +kernel) hσ0 (by omega) (lnI (by decide +kernel : LN _ = 226) (by omega)) (by decide +kernel) (fun z131 h130 h132 h133 => ?_)
          refine En_Ps 1 (pc' := 55) (lv' := [(0, .ref 159), (1, .int a), (2, .int b), (3, .int c)]) (st' := [.int z131]) rfl ?_
          have w134 : wf σ0 (40) = z131.toInt := ci_at h130 (by omega)
          exact En_ret (v := some (.int z131)) rfl rfl rfl ⟨hσ0, hF0, z131, rfl, ⟨by omega, by omega, (by have e := leR_y (w := wf σ0) (d := a.toInt) (i := b.toInt) (q := c.toInt) (by omega) (by omega) w134; omega)⟩⟩
        · refine En_iald (l := 0) (u := 1) rfl h59 (by decide +kernel : TG 160 = 36) (by decide +kernel) hσ0 (by omega) (lnI (by decide +kernel : LN _ = 226) (by omega)) (by decide +kernel) (fun z136 h135 h137 h138 => ?_)
          refine En_Ps 1 (pc' := 55) (lv' := [(0, .ref 159), (1, .int a), (2, .int b), (3, .int c)]) (st' := [.int z136]) rfl ?_
          have w139 : wf σ0 (41) = z136.toInt := ci_at h135 (by omega)
          exact En_ret (v := some (.int z136)) rfl rfl rfl ⟨hσ0, hF0, z136, rfl, ⟨by omega, by omega, (by have e := leR_y (w := wf σ0) (d := a.toInt) (i := b.toInt) (q := c.toInt) (by omega) (by omega) w139; omega)⟩⟩
        · refine En_iald (l := 0) (u := 15) rfl h59 (by decide +kernel : TG 160 = 36) (by decide +kernel) hσ0 (by omega) (lnI (by decide +kernel : LN _ = 226) (by omega)) (by decide +kernel) (fun z141 h140 h142 h143 => ?_)
          refine En_Ps 1 (pc' := 55) (lv' := [(0, .ref 159), (1, .int a), (2, .int b), (3, .int c)]) (st' := [.int z141]) rfl ?_
          have w144 : wf σ0 (42) = z141.toInt := ci_at h140 (by omega)
          exact En_ret (v := some (.int z141)) rfl rfl rfl ⟨hσ0, hF0, z141, rfl, ⟨by omega, by omega, (by have e := leR_y (w := wf σ0) (d := a.toInt) (i := b.toInt) (q := c.toInt) (by omega) (by omega) w144; omega)⟩⟩
        · refine En_iald (l := 0) (u := 1) rfl h59 (by decide +kernel : TG 160 = 36) (by decide +kernel) hσ0 (by omega) (lnI (by decide +kernel : LN _ = 226) (by omega)) (by decide +kernel) (fun z146 h145 h147 h148 => ?_)
          refine En_Ps 1 (pc' := 55) (lv' := [(0, .ref 159), (1, .int a), (2, .int b), (3, .int c)]) (st' := [.int z146]) rfl ?_
          have w149 : wf σ0 (43) = z146.toInt := ci_at h145 (by omega)
          exact En_ret (v := some (.int z146)) rfl rfl rfl ⟨hσ0, hF0, z146, rfl, ⟨by omega, by omega, (by have e := leR_y (w := wf σ0) (d := a.toInt) (i := b.toInt) (q := c.toInt) (by omega) (by omega) w149; omega)⟩⟩
        · refine En_iald (l := 0) (u := 15) rfl h59 (by decide +kernel : TG 160 = 36) (by decide +kernel) hσ0 (by omega) (lnI (by decide +kernel : LN _ = 226) (by omega)) (by decide +kernel) (fun z151 h150 h152 h153 => ?_)
          refine En_Ps 1 (pc' := 55) (lv' := [(0, .ref 159), (1, .int a), (2, .int b), (3, .int c)]) (st' := [.int z151]) rfl ?_
          have w154 : wf σ0 (44) = z151.toInt := ci_at h150 (by omega)
          exact En_ret (v := some (.int z151)) rfl rfl rfl ⟨hσ0, hF0, z151, rfl, ⟨by omega, by omega, (by have e := leR_y (w := wf σ0) (d := a.toInt) (i := b.toInt) (q := c.toInt) (by omega) (by omega) w154; omega)⟩⟩
        · refine En_iald (l := 0) (u := 1) rfl h59 (by decide +kernel : TG 160 = 36) (by decide +kernel) hσ0 (by omega) (lnI (by decide +kernel : LN _ = 226) (by omega)) (by decide +kernel) (fun z156 h155 h157 h158 => ?_)
          refine En_Ps 1 (pc' := 55) (lv' := [(0, .ref 159), (1, .int a), (2, .int b), (3, .int c)]) (st' := [.int z156]) rfl ?_
          have w159 : wf σ0 (45) = z156.toInt := ci_at h155 (by omega)
          exact En_ret (v := some (.int z156)) rfl rfl rfl ⟨hσ0, hF0, z156, rfl, ⟨by omega, by omega, (by have e := leR_y (w := wf σ0) (d := a.toInt) (i := b.toInt) (q := c.toInt) (by omega) (by omega) w159; omega)⟩⟩
        · refine En_iald (l := 0) (u := 15) rfl h59 (by decide +kernel : TG 160 = 36) (by decide +kernel) hσ0 (by omega) (lnI (by decide +kernel : LN _ = 226) (by omega)) (by decide +kernel) (fun z161 h160 h162 h163 => ?_)
          refine En_Ps 1 (pc' := 55) (lv' := [(0, .ref 159), (1, .int a), (2, .int b), (3, .int c)]) (st' := [.int z161]) rfl ?_
          have w164 : wf σ0 (46) = z161.toInt := ci_at h160 (by omega)
          exact En_ret (v := some (.int z161)) rfl rfl rfl ⟨hσ0, hF0, z161, rfl, ⟨by omega, by omega, (by have e := leR_y (w := wf σ0) (d := a.toInt) (i := b.toInt) (q := c.toInt) (by omega) (by omega) w164; omega)⟩⟩
        · refine En_iald (l := 0) (u := 1) rfl h59 (by decide +kernel : TG 160 = 36) (by decide +kernel) hσ0 (by omega) (lnI (by decide +kernel : LN _ = 226) (by omega)) (by decide +kernel) (fun z166 h165 h167 h168 => ?_)
          refine En_Ps 1 (pc' := 55) (lv' := [(0, .ref 159), (1, .int a), (2, .int b), (3, .int c)]) (st' := [.int z166]) rfl ?_
          have w169 : wf σ0 (47) = z166.toInt := ci_at h165 (by omega)
          exact En_ret (v := some (.int z166)) rfl rfl rfl ⟨hσ0, hF0, z166, rfl, ⟨by omega, by omega, (by have e := leR_y (w := wf σ0) (d := a.toInt) (i := b.toInt) (q := c.toInt) (by omega) (by omega) w169; omega)⟩⟩
        · refine En_iald (l := 0) (u := 15) rfl h59 (by decide +kernel : TG 160 = 36) (by decide +kernel) hσ0 (by omega) (lnI (by decide +kernel : LN _ = 226) (by omega)) (by decide +kernel) (fun z171 h170 h172 h173 => ?_)
          refine En_Ps 1 (pc' := 55) (lv' := [(0, .ref 159), (1, .int a), (2, .int b), (3, .int c)]) (st' := [.int z171]) rfl ?_
          have w174 : wf σ0 (48) = z171.toInt := ci_at h170 (by omega)
          exact En_ret (v := some (.int z171)) rfl rfl rfl ⟨hσ0, hF0, z171, rfl, ⟨by omega, by omega, (by have e := leR_y (w := wf σ0) (d := a.toInt) (i := b.toInt) (q := c.toInt) (by omega) (by omega) w174; omega)⟩⟩
        · refine En_iald (l := 0) (u := 1) rfl h59 (by decide +kernel : TG 160 = 36) (by decide +kernel) hσ0 (by omega) (lnI (by decide +kernel : LN _ = 226) (by omega)) (by decide +kernel) (fun z176 h175 h177 h178 => ?_)
          refine En_Ps 1 (pc' := 55) (lv' := [(0, .ref 159), (1, .int a), (2, .int b), (3, .int c)]) (st' := [.int z176]) rfl ?_
          have w179 : wf σ0 (49) = z176.toInt := ci_at h175 (by omega)
          exact En_ret (v := some (.int z176)) rfl rfl rfl ⟨hσ0, hF0, z176, rfl, ⟨by omega, by omega, (by have e := leR_y (w := wf σ0) (d := a.toInt) (i := b.toInt) (q := c.toInt) (by omega) (by omega) w179; omega)⟩⟩
        · refine En_iald (l := 0) (u := 15) rfl h59 (by decide +kernel : TG 160 = 36) (by decide +kernel) hσ0 (by omega) (lnI (by decide +kernel : LN _ = 226) (by omega)) (by decide +kernel) (fun z181 h180 h182 h183 => ?_)
          refine En_Ps 1 (pc' := 55) (lv' := [(0, .ref 159), (1, .int a), (2, .int b), (3, .int c)]) (st' := [.int z181]) rfl ?_
          have w184 : wf σ0 (50) = z181.toInt := ci_at h180 (by omega)
          exact En_ret (v := some (.int z181)) rfl rfl rfl ⟨hσ0, hF0, z181, rfl, ⟨by omega, by omega, (by have e := leR_y (w := wf σ0) (d := a.toInt) (i := b.toInt) (q := c.toInt) (by omega) (by omega) w184; omega)⟩⟩
        · refine En_iald (l := 0) (u := 1) rfl h59 (by decide +kernel : TG 160 = 36) (by decide +kernel) hσ0 (by omega) (lnI (by decide +kernel : LN _ = 226) (by omega)) (by decide +kernel) (fun z186 h185 h187 h188 => ?_)
          refine En_Ps 1 (pc' := 55) (lv' := [(0, .ref 159), (1, .int a), (2, .int b), (3, .int c)]) (st' := [.int z186]) rfl ?_
          have w189 : wf σ0 (51) = z186.toInt := ci_at h185 (by omega)
          exact En_ret (v := some (.int z186)) rfl rfl rfl ⟨hσ0, hF0, z186, rfl, ⟨by omega, by omega, (by have e := leR_y (w := wf σ0) (d := a.toInt) (i := b.toInt) (q := c.toInt) (by omega) (by omega) w189; omega)⟩⟩
        · refine En_iald (l := 0) (u := 15) rfl h59 (by decide +kernel : TG 160 = 36) (by decide +kernel) hσ0 (by omega) (lnI (by decide +kernel : LN _ = 226) (by omega)) (by decide +kernel) (fun z191 h190 h192 h193 => ?_)
          refine En_Ps 1 (pc' := 55) (lv' := [(0, .ref 159), (1, .int a), (2, .int b), (3, .int c)]) (st' := [.int z191]) rfl ?_
          have w194 : wf σ0 (52) = z191.toInt := ci_at h190 (by omega)
          exact En_ret (v := some (.int z191)) rfl rfl rfl ⟨hσ0, hF0, z191, rfl, ⟨by omega, by omega, (by have e := leR_y (w := wf σ0) (d := a.toInt) (i := b.toInt) (q := c.toInt) (by omega) (by omega) w194; omega)⟩⟩
        · refine En_iald (l := 0) (u := 1) rfl h59 (by decide +kernel : TG 160 = 36) (by decide +kernel) hσ0 (by omega) (lnI (by decide +kernel : LN _ = 226) (by omega)) (by decide +kernel) (fun z196 h195 h197 h198 => ?_)
          refine En_Ps 1 (pc' := 55) (lv' := [(0, .ref 159), (1, .int a), (2, .int b), (3, .int c)]) (st' := [.int z196]) rfl ?_
          have w199 : wf σ0 (53) = z196.toInt := ci_at h195 (by omega)
          exact En_ret (v := some (.int z196)) rfl rfl rfl ⟨hσ0, hF0, z196, rfl, ⟨by omega, by omega, (by have e := leR_y (w := wf σ0) (d := a.toInt) (i := b.toInt) (q := c.toInt) (by omega) (by omega) w199; omega)⟩⟩
        · refine En_iald (l := 0) (u := 15) rfl h59 (by decide +kernel : TG 160 = 36) (by decide +kernel) hσ0 (by omega) (lnI (by decide +kernel : LN _ = 226) (by omega)) (by decide +kernel) (fun z201 h200 h202 h203 => ?_)
          refine En_Ps 1 (pc' := 55) (lv' := [(0, .ref 159), (1, .int a), (2, .int b), (3, .int c)]) (st' := [.int z201]) rfl ?_
          have w204 : wf σ0 (54) = z201.toInt := ci_at h200 (by omega)
          exact En_ret (v := some (.int z201)) rfl rfl rfl ⟨hσ0, hF0, z201, rfl, ⟨by omega, by omega, (by have e := leR_y (w := wf σ0) (d := a.toInt) (i := b.toInt) (q := c.toInt) (by omega) (by omega) w204; omega)⟩⟩
        · refine En_iald (l := 0) (u := 1) rfl h59 (by decide +kernel : TG 160 = 36) (by decide +kernel) hσ0 (by omega) (lnI (by decide +kernel : LN _ = 226) (by omega)) (by decide +kernel) (fun z206 h205 h207 h208 => ?_)
          refine En_Ps 1 (pc' := 55) (lv' := [(0, .ref 159), (1, .int a), (2, .int b), (3, .int c)]) (st' := [.int z206]) rfl ?_
          have w209 : wf σ0 (55) = z206.toInt := ci_at h205 (by omega)
          exact En_ret (v := some (.int z206)) rfl rfl rfl ⟨hσ0, hF0, z206, rfl, ⟨by omega, by omega, (by have e := leR_y (w := wf σ0) (d := a.toInt) (i := b.toInt) (q := c.toInt) (by omega) (by omega) w209; omega)⟩⟩
        · refine En_iald (l := 0) (u := 15) rfl h59 (by decide +kernel : TG 160 = 36) (by decide +kernel) hσ0 (by omega) (lnI (by decide +kernel : LN _ = 226) (by omega)) (by decide +kernel) (fun z211 h210 h212 h213 => ?_)
          refine En_Ps 1 (pc' := 55) (lv' := [(0, .ref 159), (1, .int a), (2, .int b), (3, .int c)]) (st' := [.int z211]) rfl ?_
          have w214 : wf σ0 (56) = z211.toInt := ci_at h210 (by omega)
          exact En_ret (v := some (.int z211)) rfl rfl rfl ⟨hσ0, hF0, z211, rfl, ⟨by omega, by omega, (by have e := leR_y (w := wf σ0) (d := a.toInt) (i := b.toInt) (q := c.toInt) (by omega) (by omega) w214; omega)⟩⟩
        · refine En_iald (l := 0) (u := 1) rfl h59 (by decide +kernel : TG 160 = 36) (by decide +kernel) hσ0 (by omega) (lnI (by decide +kernel : LN _ = 226) (by omega)) (by decide +kernel) (fun z216 h215 h217 h218 => ?_)
          refine En_Ps 1 (pc' := 55) (lv' := [(0, .ref 159), (1, .int a), (2, .int b), (3, .int c)]) (st' := [.int z216]) rfl ?_
          have w219 : wf σ0 (57) = z216.toInt := ci_at h215 (by omega)
          exact En_ret (v := some (.int z216)) rfl rfl rfl ⟨hσ0, hF0, z216, rfl, ⟨by omega, by omega, (by have e := leR_y (w := wf σ0) (d := a.toInt) (i := b.toInt) (q := c.toInt) (by omega) (by omega) w219; omega)⟩⟩
        · refine En_iald (l := 0) (u := 15) rfl h59 (by decide +kernel : TG 160 = 36) (by decide +kernel) hσ0 (by omega) (lnI (by decide +kernel : LN _ = 226) (by omega)) (by decide +kernel) (fun z221 h220 h222 h223 => ?_)
          refine En_Ps 1 (pc' := 55) (lv' := [(0, .ref 159), (1, .int a), (2, .int b), (3, .int c)]) (st' := [.int z221]) rfl ?_
          have w224 : wf σ0 (58) = z221.toInt := ci_at h220 (by omega)
          exact En_ret (v := some (.int z221)) rfl rfl rfl ⟨hσ0, hF0, z221, rfl, ⟨by omega, by omega, (by have e := leR_y (w := wf σ0) (d := a.toInt) (i := b.toInt) (q := c.toInt) (by omega) (by omega) w224; omega)⟩⟩
        · refine En_iald (l := 0) (u := 1) rfl h59 (by decide +kernel : TG 160 = 36) (by decide +kernel) hσ0 (by omega) (lnI (by decide +kernel : LN _ = 226) (by omega)) (by decide +kernel) (fun z226 h225 h227 h228 => ?_)
          refine En_Ps 1 (pc' := 55) (lv' := [(0, .ref 159), (1, .int a), (2, .int b), (3, .int c)]) (st' := [.int z226]) rfl ?_
          have w229 : wf σ0 (59) = z226.toInt := ci_at h225 (by omega)
          exact En_ret (v := some (.int z226)) rfl rfl rfl ⟨hσ0, hF0, z226, rfl, ⟨by omega, by omega, (by have e := leR_y (w := wf σ0) (d := a.toInt) (i := b.toInt) (q := c.toInt) (by omega) (by omega) w229; omega)⟩⟩
        · refine En_iald (l := 0) (u := 15) rfl h59 (by decide +kernel : TG 160 = 36) (by decide +kernel) hσ0 (by omega) (lnI (by decide +kernel : LN _ = 226) (by omega)) (by decide +kernel) (fun z231 h230 h232 h233 => ?_)
          refine En_Ps 1 (pc' := 55) (lv' := [(0, .ref 159), (1, .int a), (2, .int b), (3, .int c)]) (st' := [.int z231]) rfl ?_
          have w234 : wf σ0 (60) = z231.toInt := ci_at h230 (by omega)
          exact En_ret (v := some (.int z231)) rfl rfl rfl ⟨hσ0, hF0, z231, rfl, ⟨by omega, by omega, (by have e := leR_y (w := wf σ0) (d := a.toInt) (i := b.toInt) (q := c.toInt) (by omega) (by omega) w234; omega)⟩⟩
        · refine En_iald (l := 0) (u := 1) rfl h59 (by decide +kernel : TG 160 = 36) (by decide +kernel) hσ0 (by omega) (lnI (by decide +kernel : LN _ = 226) (by omega)) (by decide +kernel) (fun z236 h235 h237 h238 => ?_)
          refine En_Ps 1 (pc' := 55) (lv' := [(0, .ref 159), (1, .int a), (2, .int b), (3, .int c)]) (st' := [.int z236]) rfl ?_
          have w239 : wf σ0 (61) = z236.toInt := ci_at h235 (by omega)
          exact En_ret (v := some (.int z236)) rfl rfl rfl ⟨hσ0, hF0, z236, rfl, ⟨by omega, by omega, (by have e := leR_y (w := wf σ0) (d := a.toInt) (i := b.toInt) (q := c.toInt) (by omega) (by omega) w239; omega)⟩⟩
        · refine En_iald (l := 0) (u := 15) rfl h59 (by decide +kernel : TG 160 = 36) (by decide +kernel) hσ0 (by omega) (lnI (by decide +kernel : LN _ = 226) (by omega)) (by decide +kernel) (fun z241 h240 h242 h243 => ?_)
          refine En_Ps 1 (pc' := 55) (lv' := [(0, .ref 159), (1, .int a), (2, .int b), (3, .int c)]) (st' := [.int z241]) rfl ?_
          have w244 : wf σ0 (62) = z241.toInt := ci_at h240 (by omega)
          exact En_ret (v := some (.int z241)) rfl rfl rfl ⟨hσ0, hF0, z241, rfl, ⟨by omega, by omega, (by have e := leR_y (w := wf σ0) (d := a.toInt) (i := b.toInt) (q := c.toInt) (by omega) (by omega) w244; omega)⟩⟩
        · refine En_iald (l := 0) (u := 1) rfl h59 (by decide +kernel : TG 160 = 36) (by decide +kernel) hσ0 (by omega) (lnI (by decide +kernel : LN _ = 226) (by omega)) (by decide +kernel) (fun z246 h245 h247 h248 => ?_)
          refine En_Ps 1 (pc' := 55) (lv' := [(0, .ref 159), (1, .int a), (2, .int b), (3, .int c)]) (st' := [.int z246]) rfl ?_
          have w249 : wf σ0 (63) = z246.toInt := ci_at h245 (by omega)
          exact En_ret (v := some (.int z246)) rfl rfl rfl ⟨hσ0, hF0, z246, rfl, ⟨by omega, by omega, (by have e := leR_y (w := wf σ0) (d := a.toInt) (i := b.toInt) (q := c.toInt) (by omega) (by omega) w249; omega)⟩⟩
        · refine En_iald (l := 0) (u := 15) rfl h59 (by decide +kernel : TG 160 = 36) (by decide +kernel) hσ0 (by omega) (lnI (by decide +kernel : LN _ = 226) (by omega)) (by decide +kernel) (fun z251 h250 h252 h253 => ?_)
          refine En_Ps 1 (pc' := 55) (lv' := [(0, .ref 159), (1, .int a), (2, .int b), (3, .int c)]) (st' := [.int z251]) rfl ?_
          have w254 : wf σ0 (64) = z251.toInt := ci_at h250 (by omega)
          exact En_ret (v := some (.int z251)) rfl rfl rfl ⟨hσ0, hF0, z251, rfl, ⟨by omega, by omega, (by have e := leR_y (w := wf σ0) (d := a.toInt) (i := b.toInt) (q := c.toInt) (by omega) (by omega) w254; omega)⟩⟩
        · refine En_iald (l := 0) (u := 1) rfl h59 (by decide +kernel : TG 160 = 36) (by decide +kernel) hσ0 (by omega) (lnI (by decide +kernel : LN _ = 226) (by omega)) (by decide +kernel) (fun z256 h255 h257 h258 => ?_)
          refine En_Ps 1 (pc' := 55) (lv' := [(0, .ref 159), (1, .int a), (2, .int b), (3, .int c)]) (st' := [.int z256]) rfl ?_
          have w259 : wf σ0 (65) = z256.toInt := ci_at h255 (by omega)
          exact En_ret (v := some (.int z256)) rfl rfl rfl ⟨hσ0, hF0, z256, rfl, ⟨by omega, by omega, (by have e := leR_y (w := wf σ0) (d := a.toInt) (i := b.toInt) (q := c.toInt) (by omega) (by omega) w259; omega)⟩⟩
        · refine En_iald (l := 0) (u := 15) rfl h59 (by decide +kernel : TG 160 = 36) (by decide +kernel) hσ0 (by omega) (lnI (by decide +kernel : LN _ = 226) (by omega)) (by decide +kernel) (fun z261 h260 h262 h263 => ?_)
          refine En_Ps 1 (pc' := 55) (lv' := [(0, .ref 159), (1, .int a), (2, .int b), (3, .int c)]) (st' := [.int z261]) rfl ?_
          have w264 : wf σ0 (66) = z261.toInt := ci_at h260 (by omega)
          exact En_ret (v := some (.int z261)) rfl rfl rfl ⟨hσ0, hF0, z261, rfl, ⟨by omega, by omega, (by have e := leR_y (w := wf σ0) (d := a.toInt) (i := b.toInt) (q := c.toInt) (by omega) (by omega) w264; omega)⟩⟩
        · refine En_iald (l := 0) (u := 1) rfl h59 (by decide +kernel : TG 160 = 36) (by decide +kernel) hσ0 (by omega) (lnI (by decide +kernel : LN _ = 226) (by omega)) (by decide +kernel) (fun z266 h265 h267 h268 => ?_)
          refine En_Ps 1 (pc' := 55) (lv' := [(0, .ref 159), (1, .int a), (2, .int b), (3, .int c)]) (st' := [.int z266]) rfl ?_
          have w269 : wf σ0 (67) = z266.toInt := ci_at h265 (by omega)
          exact En_ret (v := some (.int z266)) rfl rfl rfl ⟨hσ0, hF0, z266, rfl, ⟨by omega, by omega, (by have e := leR_y (w := wf σ0) (d := a.toInt) (i := b.toInt) (q := c.toInt) (by omega) (by omega) w269; omega)⟩⟩
        · refine En_iald (l := 0) (u := 15) rfl h59 (by decide +kernel : TG 160 = 36) (by decide +kernel) hσ0 (by omega) (lnI (by decide +kernel : LN _ = 226) (by omega)) (by decide +kernel) (fun z271 h270 h272 h273 => ?_)
          refine En_Ps 1 (pc' := 55) (lv' := [(0, .ref 159), (1, .int a), (2, .int b), (3, .int c)]) (st' := [.int z271]) rfl ?_
          have w274 : wf σ0 (68) = z271.toInt := ci_at h270 (by omega)
          exact En_ret (v := some (.int z271)) rfl rfl rfl ⟨hσ0, hF0, z271, rfl, ⟨by omega, by omega, (by have e := leR_y (w := wf σ0) (d := a.toInt) (i := b.toInt) (q := c.toInt) (by omega) (by omega) w274; omega)⟩⟩
        · refine En_iald (l := 0) (u := 1) rfl h59 (by decide +kernel : TG 160 = 36) (by decide +kernel) hσ0 (by omega) (lnI (by decide +kernel : LN _ = 226) (by omega)) (by decide +kernel) (fun z276 h275 h277 h278 => ?_)
          refine En_Ps 1 (pc' := 55) (lv' := [(0, .ref 159), (1, .int a), (2, .int b), (3, .int c)]) (st' := [.int z276]) rfl ?_
          have w279 : wf σ0 (69) = z276.toInt := ci_at h275 (by omega)
          exact En_ret (v := some (.int z276)) rfl rfl rfl ⟨hσ0, hF0, z276, rfl, ⟨by omega, by omega, (by have e := leR_y (w := wf σ0) (d := a.toInt) (i := b.toInt) (q := c.toInt) (by omega) (by omega) w279; omega)⟩⟩
        · refine En_iald (l := 0) (u := 15) rfl h59 (by decide +kernel : TG 160 = 36) (by decide +kernel) hσ0 (by omega) (lnI (by decide +kernel : LN _ = 226) (by omega)) (by decide +kernel) (fun z281 h280 h282 h283 => ?_)
          refine En_Ps 1 (pc' := 55) (lv' := [(0, .ref 159), (1, .int a), (2, .int b), (3, .int c)]) (st' := [.int z281]) rfl ?_
          have w284 : wf σ0 (70) = z281.toInt := ci_at h280 (by omega)
          exact En_ret (v := some (.int z281)) rfl rfl rfl ⟨hσ0, hF0, z281, rfl, ⟨by omega, by omega, (by have e := leR_y (w := wf σ0) (d := a.toInt) (i := b.toInt) (q := c.toInt) (by omega) (by omega) w284; omega)⟩⟩
        · refine En_iald (l := 0) (u := 1) rfl h59 (by decide +kernel : TG 160 = 36) (by decide +kernel) hσ0 (by omega) (lnI (by decide +kernel : LN _ = 226) (by omega)) (by decide +kernel) (fun z286 h285 h287 h288 => ?_)
          refine En_Ps 1 (pc' := 55) (lv' := [(0, .ref 159), (1, .int a), (2, .int b), (3, .int c)]) (st' := [.int z286]) rfl ?_
          have w289 : wf σ0 (71) = z286.toInt := ci_at h285 (by omega)
          exact En_ret (v := some (.int z286)) rfl rfl rfl ⟨hσ0, hF0, z286, rfl, ⟨by omega, by omega, (by have e := leR_y (w := wf σ0) (d := a.toInt) (i := b.toInt) (q := c.toInt) (by omega) (by omega) w289; omega)⟩⟩
        · refine En_iald (l := 0) (u := 15) rfl h59 (by decide +kernel : TG 160 = 36) (by decide +kernel) hσ0 (by omega) (lnI (by decide +kernel : LN _ = 226) (by omega)) (by decide +kernel) (fun z291 h290 h292 h293 => ?_)
          refine En_Ps 1 (pc' := 55) (lv' := [(0, .ref 159), (1, .int a), (2, .int b), (3, .int c)]) (st' := [.int z291]) rfl ?_
          have w294 : wf σ0 (72) = z291.toInt := ci_at h290 (by omega)
          exact En_ret (v := some (.int z291)) rfl rfl rfl ⟨hσ0, hF0, z291, rfl, ⟨by omega, by omega, (by have e := leR_y (w := wf σ0) (d := a.toInt) (i := b.toInt) (q := c.toInt) (by omega) (by omega) w294; omega)⟩⟩
        · refine En_iald (l := 0) (u := 1) rfl h59 (by decide +kernel : TG 160 = 36) (by decide +kernel) hσ0 (by omega) (lnI (by decide +kernel : LN _ = 226) (by omega)) (by decide +kernel) (fun z296 h295 h297 h298 => ?_)
          refine En_Ps 1 (pc' := 55) (lv' := [(0, .ref 159), (1, .int a), (2, .int b), (3, .int c)]) (st' := [.int z296]) rfl ?_
          have w299 : wf σ0 (73) = z296.toInt := ci_at h295 (by omega)
          exact En_ret (v := some (.int z296)) rfl rfl rfl ⟨hσ0, hF0, z296, rfl, ⟨by omega, by omega, (by have e := leR_y (w := wf σ0) (d := a.toInt) (i := b.toInt) (q := c.toInt) (by omega) (by omega) w299; omega)⟩⟩
        · refine En_iald (l := 0) (u := 15) rfl h59 (by decide +kernel : TG 160 = 36) (by decide +kernel) hσ0 (by omega) (lnI (by decide +kernel : LN _ = 226) (by omega)) (by decide +kernel) (fun z301 h300 h302 h303 => ?_)
          refine En_Ps 1 (pc' := 55) (lv' := [(0, .ref 159), (1, .int a), (2, .int b), (3, .int c)]) (st' := [.int z301]) rfl ?_
          have w304 : wf σ0 (74) = z301.toInt := ci_at h300 (by omega)
          exact En_ret (v := some (.int z301)) rfl rfl rfl ⟨hσ0, hF0, z301, rfl, ⟨by omega, by omega, (by have e := leR_y (w := wf σ0) (d := a.toInt) (i := b.toInt) (q := c.toInt) (by omega) (by omega) w304; omega)⟩⟩
        · refine En_iald (l := 0) (u := 1) rfl h59 (by decide +kernel : TG 160 = 36) (by decide +kernel) hσ0 (by omega) (lnI (by decide +kernel : LN _ = 226) (by omega)) (by decide +kernel) (fun z306 h305 h307 h308 => ?_)
          refine En_Ps 1 (pc' := 55) (lv' := [(0, .ref 159), (1, .int a), (2, .int b), (3, .int c)]) (st' := [.int z306]) rfl ?_
          have w309 : wf σ0 (75) = z306.toInt := ci_at h305 (by omega)
          exact En_ret (v := some (.int z306)) rfl rfl rfl ⟨hσ0, hF0, z306, rfl, ⟨by omega, by omega, (by have e := leR_y (w := wf σ0) (d := a.toInt) (i := b.toInt) (q := c.toInt) (by omega) (by omega) w309; omega)⟩⟩
        · refine En_iald (l := 0) (u := 15) rfl h59 (by decide +kernel : TG 160 = 36) (by decide +kernel) hσ0 (by omega) (lnI (by decide +kernel : LN _ = 226) (by omega)) (by decide +kernel) (fun z311 h310 h312 h313 => ?_)
          refine En_Ps 1 (pc' := 55) (lv' := [(0, .ref 159), (1, .int a), (2, .int b), (3, .int c)]) (st' := [.int z311]) rfl ?_
          have w314 : wf σ0 (76) = z311.toInt := ci_at h310 (by omega)
          exact En_ret (v := some (.int z311)) rfl rfl rfl ⟨hσ0, hF0, z311, rfl, ⟨by omega, by omega, (by have e := leR_y (w := wf σ0) (d := a.toInt) (i := b.toInt) (q := c.toInt) (by omega) (by omega) w314; omega)⟩⟩
        · refine En_iald (l := 0) (u := 1) rfl h59 (by decide +kernel : TG 160 = 36) (by decide +kernel) hσ0 (by omega) (lnI (by decide +kernel : LN _ = 226) (by omega)) (by decide +kernel) (fun z316 h315 h317 h318 => ?_)
          refine En_Ps 1 (pc' := 55) (lv' := [(0, .ref 159), (1, .int a), (2, .int b), (3, .int c)]) (st' := [.int z316]) rfl ?_
          have w319 : wf σ0 (77) = z316.toInt := ci_at h315 (by omega)
          exact En_ret (v := some (.int z316)) rfl rfl rfl ⟨hσ0, hF0, z316, rfl, ⟨by omega, by omega, (by have e := leR_y (w := wf σ0) (d := a.toInt) (i := b.toInt) (q := c.toInt) (by omega) (by omega) w319; omega)⟩⟩
        · refine En_iald (l := 0) (u := 15) rfl h59 (by decide +kernel : TG 160 = 36) (by decide +kernel) hσ0 (by omega) (lnI (by decide +kernel : LN _ = 226) (by omega)) (by decide +kernel) (fun z321 h320 h322 h323 => ?_)
          refine En_Ps 1 (pc' := 55) (lv' := [(0, .ref 159), (1, .int a), (2, .int b), (3, .int c)]) (st' := [.int z321]) rfl ?_
          have w324 : wf σ0 (78) = z321.toInt := ci_at h320 (by omega)
          exact En_ret (v := some (.int z321)) rfl rfl rfl ⟨hσ0, hF0, z321, rfl, ⟨by omega, by omega, (by have e := leR_y (w := wf σ0) (d := a.toInt) (i := b.toInt) (q := c.toInt) (by omega) (by omega) w324; omega)⟩⟩
        · refine En_iald (l := 0) (u := 1) rfl h59 (by decide +kernel : TG 160 = 36) (by decide +kernel) hσ0 (by omega) (lnI (by decide +kernel : LN _ = 226) (by omega)) (by decide +kernel) (fun z326 h325 h327 h328 => ?_)
          refine En_Ps 1 (pc' := 55) (lv' := [(0, .ref 159), (1, .int a), (2, .int b), (3, .int c)]) (st' := [.int z326]) rfl ?_
          have w329 : wf σ0 (79) = z326.toInt := ci_at h325 (by omega)
          exact En_ret (v := some (.int z326)) rfl rfl rfl ⟨hσ0, hF0, z326, rfl, ⟨by omega, by omega, (by have e := leR_y (w := wf σ0) (d := a.toInt) (i := b.toInt) (q := c.toInt) (by omega) (by omega) w329; omega)⟩⟩
        · refine En_iald (l := 0) (u := 15) rfl h59 (by decide +kernel : TG 160 = 36) (by decide +kernel) hσ0 (by omega) (lnI (by decide +kernel : LN _ = 226) (by omega)) (by decide +kernel) (fun z331 h330 h332 h333 => ?_)
          refine En_Ps 1 (pc' := 55) (lv' := [(0, .ref 159), (1, .int a), (2, .int b), (3, .int c)]) (st' := [.int z331]) rfl ?_
          have w334 : wf σ0 (80) = z331.toInt := ci_at h330 (by omega)
          exact En_ret (v := some (.int z331)) rfl rfl rfl ⟨hσ0, hF0, z331, rfl, ⟨by omega, by omega, (by have e := leR_y (w := wf σ0) (d := a.toInt) (i := b.toInt) (q := c.toInt) (by omega) (by omega) w334; omega)⟩⟩
        · refine En_iald (l := 0) (u := 1) rfl h59 (by decide +kernel : TG 160 = 36) (by decide +kernel) hσ0 (by omega) (lnI (by decide +kernel : LN _ = 226) (by omega)) (by decide +kernel) (fun z336 h335 h337 h338 => ?_)
          refine En_Ps 1 (pc' := 55) (lv' := [(0, .ref 159), (1, .int a), (2, .int b), (3, .int c)]) (st' := [.int z336]) rfl ?_
          have w339 : wf σ0 (81) = z336.toInt := ci_at h335 (by omega)
          exact En_ret (v := some (.int z336)) rfl rfl rfl ⟨hσ0, hF0, z336, rfl, ⟨by omega, by omega, (by have e := leR_y (w := wf σ0) (d := a.toInt) (i := b.toInt) (q := c.toInt) (by omega) (by omega) w339; omega)⟩⟩
        · refine En_iald (l := 0) (u := 15) rfl h59 (by decide +kernel : TG 160 = 36) (by decide +kernel) hσ0 (by omega) (lnI (by decide +kernel : LN _ = 226) (by omega)) (by decide +kernel) (fun z341 h340 h342 h343 => ?_)
          refine En_Ps 1 (pc' := 55) (lv' := [(0, .ref 159), (1, .int a), (2, .int b), (3, .int c)]) (st' := [.int z341]) rfl ?_
          have w344 : wf σ0 (82) = z341.toInt := ci_at h340 (by omega)
          exact En_ret (v := some (.int z341)) rfl rfl rfl ⟨hσ0, hF0, z341, rfl, ⟨by omega, by omega, (by have e := leR_y (w := wf σ0) (d := a.toInt) (i := b.toInt) (q := c.toInt) (by omega) (by omega) w344; omega)⟩⟩
        · refine En_iald (l := 0) (u := 1) rfl h59 (by decide +kernel : TG 160 = 36) (by decide +kernel) hσ0 (by omega) (lnI (by decide +kernel : LN _ = 226) (by omega)) (by decide +kernel) (fun z346 h345 h347 h348 => ?_)
          refine En_Ps 1 (pc' := 55) (lv' := [(0, .ref 159), (1, .int a), (2, .int b), (3, .int c)]) (st' := [.int z346]) rfl ?_
          have w349 : wf σ0 (83) = z346.toInt := ci_at h345 (by omega)
          exact En_ret (v := some (.int z346)) rfl rfl rfl ⟨hσ0, hF0, z346, rfl, ⟨by omega, by omega, (by have e := leR_y (w := wf σ0) (d := a.toInt) (i := b.toInt) (q := c.toInt) (by omega) (by omega) w349; omega)⟩⟩
        · refine En_iald (l := 0) (u := 15) rfl h59 (by decide +kernel : TG 160 = 36) (by decide +kernel) hσ0 (by omega) (lnI (by decide +kernel : LN _ = 226) (by omega)) (by decide +kernel) (fun z351 h350 h352 h353 => ?_)
          refine En_Ps 1 (pc' := 55) (lv' := [(0, .ref 159), (1, .int a), (2, .int b), (3, .int c)]) (st' := [.int z351]) rfl ?_
          have w354 : wf σ0 (84) = z351.toInt := ci_at h350 (by omega)
          exact En_ret (v := some (.int z351)) rfl rfl rfl ⟨hσ0, hF0, z351, rfl, ⟨by omega, by omega, (by have e := leR_y (w := wf σ0) (d := a.toInt) (i := b.toInt) (q := c.toInt) (by omega) (by omega) w354; omega)⟩⟩
        · refine En_iald (l := 0) (u := 1) rfl h59 (by decide +kernel : TG 160 = 36) (by decide +kernel) hσ0 (by omega) (lnI (by decide +kernel : LN _ = 226) (by omega)) (by decide +kernel) (fun z356 h355 h357 h358 => ?_)
          refine En_Ps 1 (pc' := 55) (lv' := [(0, .ref 159), (1, .int a), (2, .int b), (3, .int c)]) (st' := [.int z356]) rfl ?_
          have w359 : wf σ0 (85) = z356.toInt := ci_at h355 (by omega)
          exact En_ret (v := some (.int z356)) rfl rfl rfl ⟨hσ0, hF0, z356, rfl, ⟨by omega, by omega, (by have e := leR_y (w := wf σ0) (d := a.toInt) (i := b.toInt) (q := c.toInt) (by omega) (by omega) w359; omega)⟩⟩
        · refine En_iald (l := 0) (u := 15) rfl h59 (by decide +kernel : TG 160 = 36) (by decide +kernel) hσ0 (by omega) (lnI (by decide +kernel : LN _ = 226) (by omega)) (by decide +kernel) (fun z361 h360 h362 h363 => ?_)
          refine En_Ps 1 (pc' := 55) (lv' := [(0, .ref 159), (1, .int a), (2, .int b), (3, .int c)]) (st' := [.int z361]) rfl ?_
          have w364 : wf σ0 (86) = z361.toInt := ci_at h360 (by omega)
          exact En_ret (v := some (.int z361)) rfl rfl rfl ⟨hσ0, hF0, z361, rfl, ⟨by omega, by omega, (by have e := leR_y (w := wf σ0) (d := a.toInt) (i := b.toInt) (q := c.toInt) (by omega) (by omega) w364; omega)⟩⟩
        · refine En_iald (l := 0) (u := 1) rfl h59 (by decide +kernel : TG 160 = 36) (by decide +kernel) hσ0 (by omega) (lnI (by decide +kernel : LN _ = 226) (by omega)) (by decide +kernel) (fun z366 h365 h367 h368 => ?_)
          refine En_Ps 1 (pc' := 55) (lv' := [(0, .ref 159), (1, .int a), (2, .int b), (3, .int c)]) (st' := [.int z366]) rfl ?_
          have w369 : wf σ0 (87) = z366.toInt := ci_at h365 (by omega)
          exact En_ret (v := some (.int z366)) rfl rfl rfl ⟨hσ0, hF0, z366, rfl, ⟨by omega, by omega, (by have e := leR_y (w := wf σ0) (d := a.toInt) (i := b.toInt) (q := c.toInt) (by omega) (by omega) w369; omega)⟩⟩
        · refine En_iald (l := 0) (u := 15) rfl h59 (by decide +kernel : TG 160 = 36) (by decide +kernel) hσ0 (by omega) (lnI (by decide +kernel : LN _ = 226) (by omega)) (by decide +kernel) (fun z371 h370 h372 h373 => ?_)
          refine En_Ps 1 (pc' := 55) (lv' := [(0, .ref 159), (1, .int a), (2, .int b), (3, .int c)]) (st' := [.int z371]) rfl ?_
          have w374 : wf σ0 (88) = z371.toInt := ci_at h370 (by omega)
          exact En_ret (v := some (.int z371)) rfl rfl rfl ⟨hσ0, hF0, z371, rfl, ⟨by omega, by omega, (by have e := leR_y (w := wf σ0) (d := a.toInt) (i := b.toInt) (q := c.toInt) (by omega) (by omega) w374; omega)⟩⟩
        · refine En_iald (l := 0) (u := 1) rfl h59 (by decide +kernel : TG 160 = 36) (by decide +kernel) hσ0 (by omega) (lnI (by decide +kernel : LN _ = 226) (by omega)) (by decide +kernel) (fun z376 h375 h377 h378 => ?_)
          refine En_Ps 1 (pc' := 55) (lv' := [(0, .ref 159), (1, .int a), (2, .int b), (3, .int c)]) (st' := [.int z376]) rfl ?_
          have w379 : wf σ0 (89) = z376.toInt := ci_at h375 (by omega)
          exact En_ret (v := some (.int z376)) rfl rfl rfl ⟨hσ0, hF0, z376, rfl, ⟨by omega, by omega, (by have e := leR_y (w := wf σ0) (d := a.toInt) (i := b.toInt) (q := c.toInt) (by omega) (by omega) w379; omega)⟩⟩
        · refine En_iald (l := 0) (u := 15) rfl h59 (by decide +kernel : TG 160 = 36) (by decide +kernel) hσ0 (by omega) (lnI (by decide +kernel : LN _ = 226) (by omega)) (by decide +kernel) (fun z381 h380 h382 h383 => ?_)
          refine En_Ps 1 (pc' := 55) (lv' := [(0, .ref 159), (1, .int a), (2, .int b), (3, .int c)]) (st' := [.int z381]) rfl ?_
          have w384 : wf σ0 (90) = z381.toInt := ci_at h380 (by omega)
          exact En_ret (v := some (.int z381)) rfl rfl rfl ⟨hσ0, hF0, z381, rfl, ⟨by omega, by omega, (by have e := leR_y (w := wf σ0) (d := a.toInt) (i := b.toInt) (q := c.toInt) (by omega) (by omega) w384; omega)⟩⟩
        · refine En_iald (l := 0) (u := 1) rfl h59 (by decide +kernel : TG 160 = 36) (by decide +kernel) hσ0 (by omega) (lnI (by decide +kernel : LN _ = 226) (by omega)) (by decide +kernel) (fun z386 h385 h387 h388 => ?_)
          refine En_Ps 1 (pc' := 55) (lv' := [(0, .ref 159), (1, .int a), (2, .int b), (3, .int c)]) (st' := [.int z386]) rfl ?_
          have w389 : wf σ0 (91) = z386.toInt := ci_at h385 (by omega)
          exact En_ret (v := some (.int z386)) rfl rfl rfl ⟨hσ0, hF0, z386, rfl, ⟨by omega, by omega, (by have e := leR_y (w := wf σ0) (d := a.toInt) (i := b.toInt) (q := c.toInt) (by omega) (by omega) w389; omega)⟩⟩
        · refine En_iald (l := 0) (u := 15) rfl h59 (by decide +kernel : TG 160 = 36) (by decide +kernel) hσ0 (by omega) (lnI (by decide +kernel : LN _ = 226) (by omega)) (by decide +kernel) (fun z391 h390 h392 h393 => ?_)
          refine En_Ps 1 (pc' := 55) (lv' := [(0, .ref 159), (1, .int a), (2, .int b), (3, .int c)]) (st' := [.int z391]) rfl ?_
          have w394 : wf σ0 (92) = z391.toInt := ci_at h390 (by omega)
          exact En_ret (v := some (.int z391)) rfl rfl rfl ⟨hσ0, hF0, z391, rfl, ⟨by omega, by omega, (by have e := leR_y (w := wf σ0) (d := a.toInt) (i := b.toInt) (q := c.toInt) (by omega) (by omega) w394; omega)⟩⟩
        · refine En_iald (l := 0) (u := 1) rfl h59 (by decide +kernel : TG 160 = 36) (by decide +kernel) hσ0 (by omega) (lnI (by decide +kernel : LN _ = 226) (by omega)) (by decide +kernel) (fun z396 h395 h397 h398 => ?_)
          refine En_Ps 1 (pc' := 55) (lv' := [(0, .ref 159), (1, .int a), (2, .int b), (3, .int c)]) (st' := [.int z396]) rfl ?_
          have w399 : wf σ0 (93) = z396.toInt := ci_at h395 (by omega)
          exact En_ret (v := some (.int z396)) rfl rfl rfl ⟨hσ0, hF0, z396, rfl, ⟨by omega, by omega, (by have e := leR_y (w := wf σ0) (d := a.toInt) (i := b.toInt) (q := c.toInt) (by omega) (by omega) w399; omega)⟩⟩
        · refine En_iald (l := 0) (u := 15) rfl h59 (by decide +kernel : TG 160 = 36) (by decide +kernel) hσ0 (by omega) (lnI (by decide +kernel : LN _ = 226) (by omega)) (by decide +kernel) (fun z401 h400 h402 h403 => ?_)
          refine En_Ps 1 (pc' := 55) (lv' := [(0, .ref 159), (1, .int a), (2, .int b), (3, .int c)]) (st' := [.int z401]) rfl ?_
          have w404 : wf σ0 (94) = z401.toInt := ci_at h400 (by omega)
          exact En_ret (v := some (.int z401)) rfl rfl rfl ⟨hσ0, hF0, z401, rfl, ⟨by omega, by omega, (by have e := leR_y (w := wf σ0) (d := a.toInt) (i := b.toInt) (q := c.toInt) (by omega) (by omega) w404; omega)⟩⟩
        · refine En_iald (l := 0) (u := 1) rfl h59 (by decide +kernel : TG 160 = 36) (by decide +kernel) hσ0 (by omega) (lnI (by decide +kernel : LN _ = 226) (by omega)) (by decide +kernel) (fun z406 h405 h407 h408 => ?_)
          refine En_Ps 1 (pc' := 55) (lv' := [(0, .ref 159), (1, .int a), (2, .int b), (3, .int c)]) (st' := [.int z406]) rfl ?_
          have w409 : wf σ0 (95) = z406.toInt := ci_at h405 (by omega)
          exact En_ret (v := some (.int z406)) rfl rfl rfl ⟨hσ0, hF0, z406, rfl, ⟨by omega, by omega, (by have e := leR_y (w := wf σ0) (d := a.toInt) (i := b.toInt) (q := c.toInt) (by omega) (by omega) w409; omega)⟩⟩
        · refine En_iald (l := 0) (u := 15) rfl h59 (by decide +kernel : TG 160 = 36) (by decide +kernel) hσ0 (by omega) (lnI (by decide +kernel : LN _ = 226) (by omega)) (by decide +kernel) (fun z411 h410 h412 h413 => ?_)
          refine En_Ps 1 (pc' := 55) (lv' := [(0, .ref 159), (1, .int a), (2, .int b), (3, .int c)]) (st' := [.int z411]) rfl ?_
          have w414 : wf σ0 (96) = z411.toInt := ci_at h410 (by omega)
          exact En_ret (v := some (.int z411)) rfl rfl rfl ⟨hσ0, hF0, z411, rfl, ⟨by omega, by omega, (by have e := leR_y (w := wf σ0) (d := a.toInt) (i := b.toInt) (q := c.toInt) (by omega) (by omega) w414; omega)⟩⟩
        · refine En_iald (l := 0) (u := 1) rfl h59 (by decide +kernel : TG 160 = 36) (by decide +kernel) hσ0 (by omega) (lnI (by decide +kernel : LN _ = 226) (by omega)) (by decide +kernel) (fun z416 h415 h417 h418 => ?_)
          refine En_Ps 1 (pc' := 55) (lv' := [(0, .ref 159), (1, .int a), (2, .int b), (3, .int c)]) (st' := [.int z416]) rfl ?_
          have w419 : wf σ0 (97) = z416.toInt := ci_at h415 (by omega)
          exact En_ret (v := some (.int z416)) rfl rfl rfl ⟨hσ0, hF0, z416, rfl, ⟨by omega, by omega, (by have e := leR_y (w := wf σ0) (d := a.toInt) (i := b.toInt) (q := c.toInt) (by omega) (by omega) w419; omega)⟩⟩
        · refine En_iald (l := 0) (u := 15) rfl h59 (by decide +kernel : TG 160 = 36) (by decide +kernel) hσ0 (by omega) (lnI (by decide +kernel : LN _ = 226) (by omega)) (by decide +kernel) (fun z421 h420 h422 h423 => ?_)
          refine En_Ps 1 (pc' := 55) (lv' := [(0, .ref 159), (1, .int a), (2, .int b), (3, .int c)]) (st' := [.int z421]) rfl ?_
          have w424 : wf σ0 (98) = z421.toInt := ci_at h420 (by omega)
          exact En_ret (v := some (.int z421)) rfl rfl rfl ⟨hσ0, hF0, z421, rfl, ⟨by omega, by omega, (by have e := leR_y (w := wf σ0) (d := a.toInt) (i := b.toInt) (q := c.toInt) (by omega) (by omega) w424; omega)⟩⟩
        · refine En_iald (l := 0) (u := 1) rfl h59 (by decide +kernel : TG 160 = 36) (by decide +kernel) hσ0 (by omega) (lnI (by decide +kernel : LN _ = 226) (by omega)) (by decide +kernel) (fun z426 h425 h427 h428 => ?_)
          refine En_Ps 1 (pc' := 55) (lv' := [(0, .ref 159), (1, .int a), (2, .int b), (3, .int c)]) (st' := [.int z426]) rfl ?_
          have w429 : wf σ0 (99) = z426.toInt := ci_at h425 (by omega)
          exact En_ret (v := some (.int z426)) rfl rfl rfl ⟨hσ0, hF0, z426, rfl, ⟨by omega, by omega, (by have e := leR_y (w := wf σ0) (d := a.toInt) (i := b.toInt) (q := c.toInt) (by omega) (by omega) w429; omega)⟩⟩
        · refine En_iald (l := 0) (u := 15) rfl h59 (by decide +kernel : TG 160 = 36) (by decide +kernel) hσ0 (by omega) (lnI (by decide +kernel : LN _ = 226) (by omega)) (by decide +kernel) (fun z431 h430 h432 h433 => ?_)
          refine En_Ps 1 (pc' := 55) (lv' := [(0, .ref 159), (1, .int a), (2, .int b), (3, .int c)]) (st' := [.int z431]) rfl ?_
          have w434 : wf σ0 (100) = z431.toInt := ci_at h430 (by omega)
          exact En_ret (v := some (.int z431)) rfl rfl rfl ⟨hσ0, hF0, z431, rfl, ⟨by omega, by omega, (by have e := leR_y (w := wf σ0) (d := a.toInt) (i := b.toInt) (q := c.toInt) (by omega) (by omega) w434; omega)⟩⟩
        · refine En_iald (l := 0) (u := 1) rfl h59 (by decide +kernel : TG 160 = 36) (by decide +kernel) hσ0 (by omega) (lnI (by decide +kernel : LN _ = 226) (by omega)) (by decide +kernel) (fun z436 h435 h437 h438 => ?_)
          refine En_Ps 1 (pc' := 55) (lv' := [(0, .ref 159), (1, .int a), (2, .int b), (3, .int c)]) (st' := [.int z436]) rfl ?_
          have w439 : wf σ0 (101) = z436.toInt := ci_at h435 (by omega)
          exact En_ret (v := some (.int z436)) rfl rfl rfl ⟨hσ0, hF0, z436, rfl, ⟨by omega, by omega, (by have e := leR_y (w := wf σ0) (d := a.toInt) (i := b.toInt) (q := c.toInt) (by omega) (by omega) w439; omega)⟩⟩
        · refine En_iald (l := 0) (u := 15) rfl h59 (by decide +kernel : TG 160 = 36) (by decide +kernel) hσ0 (by omega) (lnI (by decide +kernel : LN _ = 226) (by omega)) (by decide +kernel) (fun z441 h440 h442 h443 => ?_)
          refine En_Ps 1 (pc' := 55) (lv' := [(0, .ref 159), (1, .int a), (2, .int b), (3, .int c)]) (st' := [.int z441]) rfl ?_
          have w444 : wf σ0 (102) = z441.toInt := ci_at h440 (by omega)
          exact En_ret (v := some (.int z441)) rfl rfl rfl ⟨hσ0, hF0, z441, rfl, ⟨by omega, by omega, (by have e := leR_y (w := wf σ0) (d := a.toInt) (i := b.toInt) (q := c.toInt) (by omega) (by omega) w444; omega)⟩⟩
        · refine En_iald (l := 0) (u := 1) rfl h59 (by decide +kernel : TG 160 = 36) (by decide +kernel) hσ0 (by omega) (lnI (by decide +kernel : LN _ = 226) (by omega)) (by decide +kernel) (fun z446 h445 h447 h448 => ?_)
          refine En_Ps 1 (pc' := 55) (lv' := [(0, .ref 159), (1, .int a), (2, .int b), (3, .int c)]) (st' := [.int z446]) rfl ?_
          have w449 : wf σ0 (103) = z446.toInt := ci_at h445 (by omega)
          exact En_ret (v := some (.int z446)) rfl rfl rfl ⟨hσ0, hF0, z446, rfl, ⟨by omega, by omega, (by have e := leR_y (w := wf σ0) (d := a.toInt) (i := b.toInt) (q := c.toInt) (by omega) (by omega) w449; omega)⟩⟩
        · refine En_iald (l := 0) (u := 15) rfl h59 (by decide +kernel : TG 160 = 36) (by decide +kernel) hσ0 (by omega) (lnI (by decide +kernel : LN _ = 226) (by omega)) (by decide +kernel) (fun z451 h450 h452 h453 => ?_)
          refine En_Ps 1 (pc' := 55) (lv' := [(0, .ref 159), (1, .int a), (2, .int b), (3, .int c)]) (st' := [.int z451]) rfl ?_
          have w454 : wf σ0 (104) = z451.toInt := ci_at h450 (by omega)
          exact En_ret (v := some (.int z451)) rfl rfl rfl ⟨hσ0, hF0, z451, rfl, ⟨by omega, by omega, (by have e := leR_y (w := wf σ0) (d := a.toInt) (i := b.toInt) (q := c.toInt) (by omega) (by omega) w454; omega)⟩⟩
        · refine En_iald (l := 0) (u := 1) rfl h59 (by decide +kernel : TG 160 = 36) (by decide +kernel) hσ0 (by omega) (lnI (by decide +kernel : LN _ = 226) (by omega)) (by decide +kernel) (fun z456 h455 h457 h458 => ?_)
          refine En_Ps 1 (pc' := 55) (lv' := [(0, .ref 159), (1, .int a), (2, .int b), (3, .int c)]) (st' := [.int z456]) rfl ?_
          have w459 : wf σ0 (105) = z456.toInt := ci_at h455 (by omega)
          exact En_ret (v := some (.int z456)) rfl rfl rfl ⟨hσ0, hF0, z456, rfl, ⟨by omega, by omega, (by have e := leR_y (w := wf σ0) (d := a.toInt) (i := b.toInt) (q := c.toInt) (by omega) (by omega) w459; omega)⟩⟩
        · refine En_iald (l := 0) (u := 15) rfl h59 (by decide +kernel : TG 160 = 36) (by decide +kernel) hσ0 (by omega) (lnI (by decide +kernel : LN _ = 226) (by omega)) (by decide +kernel) (fun z461 h460 h462 h463 => ?_)
          refine En_Ps 1 (pc' := 55) (lv' := [(0, .ref 159), (1, .int a), (2, .int b), (3, .int c)]) (st' := [.int z461]) rfl ?_
          have w464 : wf σ0 (106) = z461.toInt := ci_at h460 (by omega)
          exact En_ret (v := some (.int z461)) rfl rfl rfl ⟨hσ0, hF0, z461, rfl, ⟨by omega, by omega, (by have e := leR_y (w := wf σ0) (d := a.toInt) (i := b.toInt) (q := c.toInt) (by omega) (by omega) w464; omega)⟩⟩
        · refine En_iald (l := 0) (u := 1) rfl h59 (by decide +kernel : TG 160 = 36) (by decide +kernel) hσ0 (by omega) (lnI (by decide +kernel : LN _ = 226) (by omega)) (by decide +kernel) (fun z466 h465 h467 h468 => ?_)
          refine En_Ps 1 (pc' := 55) (lv' := [(0, .ref 159), (1, .int a), (2, .int b), (3, .int c)]) (st' := [.int z466]) rfl ?_
          have w469 : wf σ0 (107) = z466.toInt := ci_at h465 (by omega)
          exact En_ret (v := some (.int z466)) rfl rfl rfl ⟨hσ0, hF0, z466, rfl, ⟨by omega, by omega, (by have e := leR_y (w := wf σ0) (d := a.toInt) (i := b.toInt) (q := c.toInt) (by omega) (by omega) w469; omega)⟩⟩
        · refine En_iald (l := 0) (u := 15) rfl h59 (by decide +kernel : TG 160 = 36) (by decide +kernel) hσ0 (by omega) (lnI (by decide +kernel : LN _ = 226) (by omega)) (by decide +kernel) (fun z471 h470 h472 h473 => ?_)
          refine En_Ps 1 (pc' := 55) (lv' := [(0, .ref 159), (1, .int a), (2, .int b), (3, .int c)]) (st' := [.int z471]) rfl ?_
          have w474 : wf σ0 (108) = z471.toInt := ci_at h470 (by omega)
          exact En_ret (v := some (.int z471)) rfl rfl rfl ⟨hσ0, hF0, z471, rfl, ⟨by omega, by omega, (by have e := leR_y (w := wf σ0) (d := a.toInt) (i := b.toInt) (q := c.toInt) (by omega) (by omega) w474; omega)⟩⟩
        · refine En_iald (l := 0) (u := 1) rfl h59 (by decide +kernel : TG 160 = 36) (by decide +kernel) hσ0 (by omega) (lnI (by decide +kernel : LN _ = 226) (by omega)) (by decide +kernel) (fun z476 h475 h477 h478 => ?_)
          refine En_Ps 1 (pc' := 55) (lv' := [(0, .ref 159), (1, .int a), (2, .int b), (3, .int c)]) (st' := [.int z476]) rfl ?_
          have w479 : wf σ0 (109) = z476.toInt := ci_at h475 (by omega)
          exact En_ret (v := some (.int z476)) rfl rfl rfl ⟨hσ0, hF0, z476, rfl, ⟨by omega, by omega, (by have e := leR_y (w := wf σ0) (d := a.toInt) (i := b.toInt) (q := c.toInt) (by omega) (by omega) w479; omega)⟩⟩
        · refine En_iald (l := 0) (u := 15) rfl h59 (by decide +kernel : TG 160 = 36) (by decide +kernel) hσ0 (by omega) (lnI (by decide +kernel : LN _ = 226) (by omega)) (by decide +kernel) (fun z481 h480 h482 h483 => ?_)
          refine En_Ps 1 (pc' := 55) (lv' := [(0, .ref 159), (1, .int a), (2, .int b), (3, .int c)]) (st' := [.int z481]) rfl ?_
          have w484 : wf σ0 (110) = z481.toInt := ci_at h480 (by omega)
          exact En_ret (v := some (.int z481)) rfl rfl rfl ⟨hσ0, hF0, z481, rfl, ⟨by omega, by omega, (by have e := leR_y (w := wf σ0) (d := a.toInt) (i := b.toInt) (q := c.toInt) (by omega) (by omega) w484; omega)⟩⟩
        · refine En_iald (l := 0) (u := 1) rfl h59 (by decide +kernel : TG 160 = 36) (by decide +kernel) hσ0 (by omega) (lnI (by decide +kernel : LN _ = 226) (by omega)) (by decide +kernel) (fun z486 h485 h487 h488 => ?_)
          refine En_Ps 1 (pc' := 55) (lv' := [(0, .ref 159), (1, .int a), (2, .int b), (3, .int c)]) (st' := [.int z486]) rfl ?_
          have w489 : wf σ0 (111) = z486.toInt := ci_at h485 (by omega)
          exact En_ret (v := some (.int z486)) rfl rfl rfl ⟨hσ0, hF0, z486, rfl, ⟨by omega, by omega, (by have e := leR_y (w := wf σ0) (d := a.toInt) (i := b.toInt) (q := c.toInt) (by omega) (by omega) w489; omega)⟩⟩
        · refine En_iald (l := 0) (u := 15) rfl h59 (by decide +kernel : TG 160 = 36) (by decide +kernel) hσ0 (by omega) (lnI (by decide +kernel : LN _ = 226) (by omega)) (by decide +kernel) (fun z491 h490 h492 h493 => ?_)
          refine En_Ps 1 (pc' := 55) (lv' := [(0, .ref 159), (1, .int a), (2, .int b), (3, .int c)]) (st' := [.int z491]) rfl ?_
          have w494 : wf σ0 (112) = z491.toInt := ci_at h490 (by omega)
          exact En_ret (v := some (.int z491)) rfl rfl rfl ⟨hσ0, hF0, z491, rfl, ⟨by omega, by omega, (by have e := leR_y (w := wf σ0) (d := a.toInt) (i := b.toInt) (q := c.toInt) (by omega) (by omega) w494; omega)⟩⟩
        · refine En_iald (l := 0) (u := 1) rfl h59 (by decide +kernel : TG 160 = 36) (by decide +kernel) hσ0 (by omega) (lnI (by decide +kernel : LN _ = 226) (by omega)) (by decide +kernel) (fun z496 h495 h497 h498 => ?_)
          refine En_Ps 1 (pc' := 55) (lv' := [(0, .ref 159), (1, .int a), (2, .int b), (3, .int c)]) (st' := [.int z496]) rfl ?_
          have w499 : wf σ0 (113) = z496.toInt := ci_at h495 (by omega)
          exact En_ret (v := some (.int z496)) rfl rfl rfl ⟨hσ0, hF0, z496, rfl, ⟨by omega, by omega, (by have e := leR_y (w := wf σ0) (d := a.toInt) (i := b.toInt) (q := c.toInt) (by omega) (by omega) w499; omega)⟩⟩
        · refine En_iald (l := 0) (u := 15) rfl h59 (by decide +kernel : TG 160 = 36) (by decide +kernel) hσ0 (by omega) (lnI (by decide +kernel : LN _ = 226) (by omega)) (by decide +kernel) (fun z501 h500 h502 h503 => ?_)
          refine En_Ps 1 (pc' := 55) (lv' := [(0, .ref 159), (1, .int a), (2, .int b), (3, .int c)]) (st' := [.int z501]) rfl ?_
          have w504 : wf σ0 (114) = z501.toInt := ci_at h500 (by omega)
          exact En_ret (v := some (.int z501)) rfl rfl rfl ⟨hσ0, hF0, z501, rfl, ⟨by omega, by omega, (by have e := leR_y (w := wf σ0) (d := a.toInt) (i := b.toInt) (q := c.toInt) (by omega) (by omega) w504; omega)⟩⟩
        · refine En_iald (l := 0) (u := 1) rfl h59 (by decide +kernel : TG 160 = 36) (by decide +kernel) hσ0 (by omega) (lnI (by decide +kernel : LN _ = 226) (by omega)) (by decide +kernel) (fun z506 h505 h507 h508 => ?_)
          refine En_Ps 1 (pc' := 55) (lv' := [(0, .ref 159), (1, .int a), (2, .int b), (3, .int c)]) (st' := [.int z506]) rfl ?_
          have w509 : wf σ0 (115) = z506.toInt := ci_at h505 (by omega)
          exact En_ret (v := some (.int z506)) rfl rfl rfl ⟨hσ0, hF0, z506, rfl, ⟨by omega, by omega, (by have e := leR_y (w := wf σ0) (d := a.toInt) (i := b.toInt) (q := c.toInt) (by omega) (by omega) w509; omega)⟩⟩
        · refine En_iald (l := 0) (u := 15) rfl h59 (by decide +kernel : TG 160 = 36) (by decide +kernel) hσ0 (by omega) (lnI (by decide +kernel : LN _ = 226) (by omega)) (by decide +kernel) (fun z511 h510 h512 h513 => ?_)
          refine En_Ps 1 (pc' := 55) (lv' := [(0, .ref 159), (1, .int a), (2, .int b), (3, .int c)]) (st' := [.int z511]) rfl ?_
          have w514 : wf σ0 (116) = z511.toInt := ci_at h510 (by omega)
          exact En_ret (v := some (.int z511)) rfl rfl rfl ⟨hσ0, hF0, z511, rfl, ⟨by omega, by omega, (by have e := leR_y (w := wf σ0) (d := a.toInt) (i := b.toInt) (q := c.toInt) (by omega) (by omega) w514; omega)⟩⟩
        · refine En_iald (l := 0) (u := 1) rfl h59 (by decide +kernel : TG 160 = 36) (by decide +kernel) hσ0 (by omega) (lnI (by decide +kernel : LN _ = 226) (by omega)) (by decide +kernel) (fun z516 h515 h517 h518 => ?_)
          refine En_Ps 1 (pc' := 55) (lv' := [(0, .ref 159), (1, .int a), (2, .int b), (3, .int c)]) (st' := [.int z516]) rfl ?_
          have w519 : wf σ0 (117) = z516.toInt := ci_at h515 (by omega)
          exact En_ret (v := some (.int z516)) rfl rfl rfl ⟨hσ0, hF0, z516, rfl, ⟨by omega, by omega, (by have e := leR_y (w := wf σ0) (d := a.toInt) (i := b.toInt) (q := c.toInt) (by omega) (by omega) w519; omega)⟩⟩
        · refine En_iald (l := 0) (u := 15) rfl h59 (by decide +kernel : TG 160 = 36) (by decide +kernel) hσ0 (by omega) (lnI (by decide +kernel : LN _ = 226) (by omega)) (by decide +kernel) (fun z521 h520 h522 h523 => ?_)
          refine En_Ps 1 (pc' := 55) (lv' := [(0, .ref 159), (1, .int a), (2, .int b), (3, .int c)]) (st' := [.int z521]) rfl ?_
          have w524 : wf σ0 (118) = z521.toInt := ci_at h520 (by omega)
          exact En_ret (v := some (.int z521)) rfl rfl rfl ⟨hσ0, hF0, z521, rfl, ⟨by omega, by omega, (by have e := leR_y (w := wf σ0) (d := a.toInt) (i := b.toInt) (q := c.toInt) (by omega) (by omega) w524; omega)⟩⟩
        · refine En_iald (l := 0) (u := 1) rfl h59 (by decide +kernel : TG 160 = 36) (by decide +kernel) hσ0 (by omega) (lnI (by decide +kernel : LN _ = 226) (by omega)) (by decide +kernel) (fun z526 h525 h527 h528 => ?_)
          refine En_Ps 1 (pc' := 55) (lv' := [(0, .ref 159), (1, .int a), (2, .int b), (3, .int c)]) (st' := [.int z526]) rfl ?_
          have w529 : wf σ0 (119) = z526.toInt := ci_at h525 (by omega)
          exact En_ret (v := some (.int z526)) rfl rfl rfl ⟨hσ0, hF0, z526, rfl, ⟨by omega, by omega, (by have e := leR_y (w := wf σ0) (d := a.toInt) (i := b.toInt) (q := c.toInt) (by omega) (by omega) w529; omega)⟩⟩
        · refine En_iald (l := 0) (u := 15) rfl h59 (by decide +kernel : TG 160 = 36) (by decide +kernel) hσ0 (by omega) (lnI (by decide +kernel : LN _ = 226) (by omega)) (by decide +kernel) (fun z531 h530 h532 h533 => ?_)
          refine En_Ps 1 (pc' := 55) (lv' := [(0, .ref 159), (1, .int a), (2, .int b), (3, .int c)]) (st' := [.int z531]) rfl ?_
          have w534 : wf σ0 (120) = z531.toInt := ci_at h530 (by omega)
          exact En_ret (v := some (.int z531)) rfl rfl rfl ⟨hσ0, hF0, z531, rfl, ⟨by omega, by omega, (by have e := leR_y (w := wf σ0) (d := a.toInt) (i := b.toInt) (q := c.toInt) (by omega) (by omega) w534; omega)⟩⟩
        · refine En_iald (l := 0) (u := 1) rfl h59 (by decide +kernel : TG 160 = 36) (by decide +kernel) hσ0 (by omega) (lnI (by decide +kernel : LN _ = 226) (by omega)) (by decide +kernel) (fun z536 h535 h537 h538 => ?_)
          refine En_Ps 1 (pc' := 55) (lv' := [(0, .ref 159), (1, .int a), (2, .int b), (3, .int c)]) (st' := [.int z536]) rfl ?_
          have w539 : wf σ0 (121) = z536.toInt := ci_at h535 (by omega)
          exact En_ret (v := some (.int z536)) rfl rfl rfl ⟨hσ0, hF0, z536, rfl, ⟨by omega, by omega, (by have e := leR_y (w := wf σ0) (d := a.toInt) (i := b.toInt) (q := c.toInt) (by omega) (by omega) w539; omega)⟩⟩
    · refine En_Ps 1 (pc' := 20) (lv' := [(0, .ref 159), (1, .int a), (2, .int b), (3, .int c)]) (st' := [.int (((Int8.ofInt (-2)).toInt32))]) rfl ?_
      refine En_top (by decide : ((Int8.ofInt (-2)).toInt32).toInt = -2) (fun z540 h541 => ?_)
      exact En_ret (v := some (.int z540)) rfl rfl rfl ⟨hσ0, hF0, z540, rfl, ⟨by omega, by omega, (by have e := leR_2 (w := wf σ0) (d := a.toInt) (i := b.toInt) (q := c.toInt) (by omega); omega)⟩⟩

