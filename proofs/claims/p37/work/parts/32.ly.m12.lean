/-- DoorSchoolModel.hours()I -/
abbrev P_244 (σ0 : SG) : PO := fun v σ => WT σ ∧ Fr [(49, 0), (50, 0)] σ0 σ ∧ ∃ ret : Int32, v = some (.int ret) ∧ -ret.toInt - 2 ≤ 0 ∧ ret.toInt - 1000000 ≤ 0
set_option maxRecDepth 10000 in
set_option maxHeartbeats 4000000 in
theorem c_244 (σ0 : SG) (hσ0 : WT σ0) (hT : TPOS σ0) : En 5 122 none mr_244 (P_244 σ0) 0 [(0, .ref 159)] [] σ0 := by
  have hF0 : Fr [(49, 0), (50, 0)] σ0 σ0 := Fr_rfl
  refine En_Ps 1 (pc' := 1) (lv' := [(0, .ref 159)]) (st' := [.ref 159]) rfl ?_
  obtain ⟨z2, h1, h3, h4⟩ := WT_peekI hσ0 (by decide +kernel : TG 160 = 36) (by decide +kernel : FT 36 (7 : Int).toNat = (0, 0, 1600)) (by decide +kernel)
  refine En_callV rfl rfl rfl rfl rfl rfl rfl rfl (by decide +kernel : TG 159 = 35) (by decide +kernel) rfl (c_264 σ0 hσ0 z2 h1) (by decide) (by decide) (fun v6 σ7 h5 => ?_)
  obtain ⟨h8, h9, z11, rfl, h10⟩ := h5
  obtain rfl : σ0 = σ7 := Fr_nil h9
  refine En_iEq _ rfl rfl (fun h12 => ?_) (fun h12 => ?_)
  · refine En_Ps 1 (pc' := 23) (lv' := [(0, .ref 159)]) (st' := [.int (((Int8.ofInt (-2)).toInt32))]) rfl ?_
    refine En_top (by decide : ((Int8.ofInt (-2)).toInt32).toInt = -2) (fun z13 h14 => ?_)
    exact En_ret (v := some (.int z13)) rfl rfl rfl ⟨hσ0, hF0, z13, rfl, (by omega)⟩
  · refine En_Ps 3 (pc' := 10) (lv' := [(0, .ref 159)]) (st' := [.ref 159, .int ((Int32.ofInt 0)), .ref 159]) rfl ?_
    refine En_getU (j := 1) (u := 160) (g' := 36) (q := 0) rfl rfl rfl (by decide +kernel : TG 159 = 35) (by decide +kernel) hσ0 (by decide +kernel) (by decide +kernel) (fun h15 => ?_)
    refine En_Ps 1 (pc' := 14) (lv' := [(0, .ref 159)]) (st' := [.int ((Int32.ofInt 1)), .ref 160, .int ((Int32.ofInt 0)), .ref 159]) rfl ?_
    refine En_iald (l := 0) (u := 3) rfl (by decide : (Int32.ofInt 1).toInt = 1) (by decide +kernel : TG 160 = 36) (by decide +kernel) hσ0 (by omega) (lnI (by decide +kernel : LN _ = 226) (by omega)) (by decide +kernel) (fun z18 h17 h19 h20 => ?_)
    have h21 : 1 ≤ z18.toInt := by have e1 := ci_at h17 (rfl : (1 : Int) = 1); have e7 := ci_at h1 (rfl : (7 : Int) = 7); have e := hT (Or.inr (by omega)); omega
    have := (by decide : ((Int32.ofInt 0)).toInt = 0)
    refine En_callV rfl rfl rfl rfl rfl rfl rfl rfl (by decide +kernel : TG 159 = 35) (by decide +kernel) rfl (c_277 σ0 hσ0 ((Int32.ofInt 0)) z18 (geI (by decide : (Int32.ofInt 0).toInt = 0) (by omega)) (leI (by decide : (Int32.ofInt 0).toInt = 0) (by omega)) (geI rfl (by omega)) (leI rfl (by omega)) (by have := n6 hσ0; omega)) (by decide) (by decide) (fun v23 σ24 h22 => ?_)
    obtain ⟨h25, h26, z28, rfl, h27⟩ := h22
    have h29 := h27.2.2
    have h30 := Fr_trans hF0 h26 (by decide +kernel)
    refine En_Ps 1 (pc' := 23) (lv' := [(0, .ref 159)]) (st' := [.int z28]) rfl ?_
    exact En_ret (v := some (.int z28)) rfl rfl rfl ⟨h25, h30, z28, rfl, (by omega)⟩
/-- DoorSchoolModel.isSeed(I)Z -/
abbrev P_265 (σ0 : SG) (a : Int32) : PO := fun v σ => WT σ ∧ Fr [] σ0 σ ∧ ∃ ret : Int32, v = some (.int ret) ∧ -ret.toInt ≤ 0 ∧ ret.toInt - 1 ≤ 0 ∧ (ret.toInt - 1 ≤ 0 ∧ -ret.toInt + 1 ≤ 0 → -a.toInt ≤ 0 ∧ a.toInt - 2000000000 ≤ 0) ∧ (-a.toInt ≤ 0 ∧ a.toInt - 2000000000 ≤ 0 → ret.toInt - 1 ≤ 0 ∧ -ret.toInt + 1 ≤ 0)
set_option maxRecDepth 10000 in
set_option maxHeartbeats 4000000 in
theorem c_265 (σ0 : SG) (hσ0 : WT σ0) (a : Int32) : En 1 25 none mr_265 (P_265 σ0 a) 0 [(0, .int a)] [] σ0 := by
  have hF0 : Fr [] σ0 σ0 := Fr_rfl
  refine En_Ps 4 (pc' := 6) (lv' := [(0, .int a)]) (st' := [.long ((2000000000 : Int64)), .long ((Int64.ofNat 0)), .long a.toInt64]) rfl ?_
  have : a.toInt64.toInt = a.toInt := (i2lI rfl)
  have := (by decide : ((Int64.ofNat 0)).toInt = 0)
  have := (by decide : ((2000000000 : Int64)).toInt = 2000000000)
  refine En_callS rfl rfl rfl rfl rfl rfl rfl rfl rfl (c_249 σ0 hσ0 a.toInt64 ((Int64.ofNat 0)) ((2000000000 : Int64))) (by decide) (by decide) (fun v2 σ3 h1 => ?_)
  obtain ⟨h4, h5, z7, rfl, h6⟩ := h1
  have h8 := Fr_trans hF0 h5 (by decide +kernel)
  exact En_ret (v := some (.int z7)) rfl rfl (retZ rfl rfl (by omega) (by omega)) ⟨h4, h8, z7, rfl, (by omega)⟩
/-- DoorSchoolModel.learnt(II)I -/
abbrev P_276 (σ0 : SG) (a : Int32) (b : Int32) : PO := fun v σ => WT σ ∧ Fr [(35, 18), (35, 21), (35, 22), (35, 23), (42, 0), (43, 0), (44, 0), (45, 0), (46, 0)] σ0 σ ∧ ∃ ret : Int32, v = some (.int ret) ∧ True
set_option maxRecDepth 10000 in
set_option maxHeartbeats 4000000 in
theorem c_276 (σ0 : SG) (hσ0 : WT σ0) (a : Int32) (b : Int32) : En 5 115 none mr_276 (P_276 σ0 a b) 0 [(0, .ref 159), (1, .int a), (2, .int b)] [] σ0 := by
  have hF0 : Fr [(35, 18), (35, 21), (35, 22), (35, 23), (42, 0), (43, 0), (44, 0), (45, 0), (46, 0)] σ0 σ0 := Fr_rfl
  refine En_Ps 1 (pc' := 1) (lv' := [(0, .ref 159), (1, .int a), (2, .int b)]) (st' := [.int a]) rfl ?_
  refine En_callS rfl rfl rfl rfl rfl rfl rfl rfl rfl (c_268 σ0 hσ0 a) (by decide) (by decide) (fun v2 σ3 h1 => ?_)
  obtain ⟨h4, h5, z7, rfl, h6⟩ := h1
  have h8 := Fr_trans hF0 h5 (by decide +kernel)
  refine En_iEq _ rfl rfl (fun h9 => ?_) (fun h9 => ?_)
  · refine En_Ps 1 (pc' := 17) (lv' := [(0, .ref 159), (1, .int a), (2, .int b)]) (st' := [.int (((Int8.ofInt (-2)).toInt32))]) rfl ?_
    refine En_top (by decide : ((Int8.ofInt (-2)).toInt32).toInt = -2) (fun z10 h11 => ?_)
    exact En_ret (v := some (.int z10)) rfl rfl rfl ⟨h4, h8, z10, rfl, trivial⟩
  · refine En_Ps 2 (pc' := 9) (lv' := [(0, .ref 159), (1, .int a), (2, .int b)]) (st' := [.int b, .ref 159]) rfl ?_
    refine En_callV rfl rfl rfl rfl rfl rfl rfl rfl (by decide +kernel : TG 159 = 35) (by decide +kernel) rfl (c_195 σ3 h4 b) (by decide) (by decide) (fun v13 σ14 h12 => ?_)
    obtain ⟨h15, h16, z18, rfl, h17⟩ := h12
    have h19 := Fr_trans h8 h16 (by decide +kernel)
    refine En_iNe _ rfl rfl (fun h20 => ?_) (fun h20 => ?_)
    · refine En_Ps 3 (pc' := 21) (lv' := [(0, .ref 159), (1, .int a), (2, .int b)]) (st' := [.int b, .int a, .ref 159]) rfl ?_
      refine En_callV rfl rfl rfl rfl rfl rfl rfl rfl (by decide +kernel : TG 159 = 35) (by decide +kernel) rfl (c_321 σ14 h15 a b) (by decide) (by decide) (fun v22 σ23 h21 => ?_)
      obtain ⟨h24, h25, rfl, h26⟩ := h21
      have h27 := Fr_trans h19 h25 (by decide +kernel)
      refine En_Ps 1 (pc' := 25) (lv' := [(0, .ref 159), (1, .int a), (2, .int b)]) (st' := [.ref 159]) rfl ?_
      refine En_getI (j := 23) (l := (-2147483648)) (u := 2147483647) rfl rfl rfl (by decide +kernel : TG 159 = 35) (by decide +kernel) h24 (by decide +kernel) (fun z29 h28 h30 h31 => ?_)
      exact En_ret (v := some (.int z29)) rfl rfl rfl ⟨h24, h27, z29, rfl, trivial⟩
    · refine En_Ps 1 (pc' := 17) (lv' := [(0, .ref 159), (1, .int a), (2, .int b)]) (st' := [.int (((Int8.ofInt (-2)).toInt32))]) rfl ?_
      refine En_top (by decide : ((Int8.ofInt (-2)).toInt32).toInt = -2) (fun z32 h33 => ?_)
      exact En_ret (v := some (.int z32)) rfl rfl rfl ⟨h15, h19, z32, rfl, trivial⟩
/-- DoorSchoolModel.leaves(I)I -/
abbrev P_278 (σ0 : SG) (a : Int32) : PO := fun v σ => WT σ ∧ Fr [(35, 18), (42, 0), (43, 0), (44, 0)] σ0 σ ∧ ∃ ret : Int32, v = some (.int ret) ∧ -ret.toInt - 6 ≤ 0 ∧ ret.toInt - 81 ≤ 0
set_option maxRecDepth 10000 in
set_option maxHeartbeats 4000000 in
theorem c_278 (σ0 : SG) (hσ0 : WT σ0) (a : Int32) : En 6 135 none mr_278 (P_278 σ0 a) 0 [(0, .ref 159), (1, .int a)] [] σ0 := by
  have hF0 : Fr [(35, 18), (42, 0), (43, 0), (44, 0)] σ0 σ0 := Fr_rfl
  refine En_Ps 3 (pc' := 3) (lv' := [(0, .ref 159), (1, .int a)]) (st' := [.int ((Int32.ofInt 1)), .int a, .ref 159]) rfl ?_
  have := (by decide : ((Int32.ofInt 1)).toInt = 1)
  refine En_callV rfl rfl rfl rfl rfl rfl rfl rfl (by decide +kernel : TG 159 = 35) (by decide +kernel) rfl (c_198 σ0 hσ0 a ((Int32.ofInt 1)) (geI (by decide : (Int32.ofInt 1).toInt = 1) (by omega)) (leI (by decide : (Int32.ofInt 1).toInt = 1) (by omega))) (by decide) (by decide) (fun v2 σ3 h1 => ?_)
  obtain ⟨h4, h5, z7, rfl, h6⟩ := h1
  have h8 := Fr_trans hF0 h5 (by decide +kernel)
  refine En_Ps 2 (pc' := 8) (lv' := [(2, .int z7), (0, .ref 159), (1, .int a)]) (st' := [.int z7]) rfl ?_
  refine En_iGe _ rfl rfl (fun h9 => ?_) (fun h9 => ?_)
  · refine En_Ps 2 (pc' := 15) (lv' := [(2, .int z7), (0, .ref 159), (1, .int a)]) (st' := [.int a, .ref 159]) rfl ?_
    refine En_callV rfl rfl rfl rfl rfl rfl rfl rfl (by decide +kernel : TG 159 = 35) (by decide +kernel) rfl (c_197 σ3 h4 a (geI rfl (by omega)) (leI rfl (by omega))) (by decide) (by decide) (fun v11 σ12 h10 => ?_)
    obtain ⟨h13, h14, z16, rfl, h15⟩ := h10
    have h17 := Fr_trans h8 h14 (by decide +kernel)
    refine En_Ps 3 (pc' := 21) (lv' := [(3, .int z16), (2, .int z7), (0, .ref 159), (1, .int a)]) (st' := [.int ((Int32.ofInt (-1))), .int z16]) rfl ?_
    refine En_icNe _ rfl (by decide : (Int32.ofInt (-1)).toInt = -1) rfl (fun h18 => ?_) (fun h18 => ?_)
    · refine En_Ps 3 (pc' := 35) (lv' := [(3, .int z16), (2, .int z7), (0, .ref 159), (1, .int a)]) (st' := [.int z16, .int a, .ref 159]) rfl ?_
      refine En_callV rfl rfl rfl rfl rfl rfl rfl rfl (by decide +kernel : TG 159 = 35) (by decide +kernel) rfl (c_332 σ12 h13 a z16 (geI rfl (by omega)) (leI rfl (by omega))) (by decide) (by decide) (fun v20 σ21 h19 => ?_)
      obtain ⟨h22, h23, z25, rfl, h24⟩ := h19
      have h26 := Fr_trans h17 h23 (by decide +kernel)
      exact En_ret (v := some (.int z25)) rfl rfl rfl ⟨h22, h26, z25, rfl, (by omega)⟩
    · refine En_Ps 2 (pc' := 26) (lv' := [(3, .int z16), (2, .int z7), (0, .ref 159), (1, .int a)]) (st' := [.int a, .ref 159]) rfl ?_
      refine En_callV rfl rfl rfl rfl rfl rfl rfl rfl (by decide +kernel : TG 159 = 35) (by decide +kernel) rfl (c_231 σ12 h13 a (geI rfl (by omega)) (leI rfl (by omega))) (by decide) (by decide) (fun v28 σ29 h27 => ?_)
      obtain ⟨h30, h31, z33, rfl, h32⟩ := h27
      have h34 := Fr_trans h17 h31 (by decide +kernel)
      refine En_Ps 1 (pc' := 38) (lv' := [(3, .int z16), (2, .int z7), (0, .ref 159), (1, .int a)]) (st' := [.int z33]) rfl ?_
      exact En_ret (v := some (.int z33)) rfl rfl rfl ⟨h30, h34, z33, rfl, (by omega)⟩
  · refine En_Ps 1 (pc' := 12) (lv' := [(2, .int z7), (0, .ref 159), (1, .int a)]) (st' := [.int z7]) rfl ?_
    exact En_ret (v := some (.int z7)) rfl rfl rfl ⟨h4, h8, z7, rfl, (by omega)⟩
