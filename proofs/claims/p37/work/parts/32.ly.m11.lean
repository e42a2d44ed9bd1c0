/-- DoorSchoolModel.fewest(II)I -/
abbrev P_227 (σ0 : SG) (a : Int32) (b : Int32) : PO := fun v σ => WT σ ∧ Fr [(35, 18), (35, 21), (42, 0), (43, 0), (44, 0), (45, 0), (46, 0)] σ0 σ ∧ ∃ ret : Int32, v = some (.int ret) ∧ True
set_option maxRecDepth 10000 in
set_option maxHeartbeats 4000000 in
theorem c_227 (σ0 : SG) (hσ0 : WT σ0) (a : Int32) (b : Int32) : En 6 139 none mr_227 (P_227 σ0 a b) 0 [(0, .ref 159), (1, .int a), (2, .int b)] [] σ0 := by
  have hF0 : Fr [(35, 18), (35, 21), (42, 0), (43, 0), (44, 0), (45, 0), (46, 0)] σ0 σ0 := Fr_rfl
  refine En_Ps 1 (pc' := 1) (lv' := [(0, .ref 159), (1, .int a), (2, .int b)]) (st' := [.int a]) rfl ?_
  refine En_callS rfl rfl rfl rfl rfl rfl rfl rfl rfl (c_268 σ0 hσ0 a) (by decide) (by decide) (fun v2 σ3 h1 => ?_)
  obtain ⟨h4, h5, z7, rfl, h6⟩ := h1
  have h8 := Fr_trans hF0 h5 (by decide +kernel)
  refine En_iEq _ rfl rfl (fun h9 => ?_) (fun h9 => ?_)
  · refine En_Ps 1 (pc' := 17) (lv' := [(0, .ref 159), (1, .int a), (2, .int b)]) (st' := [.int (((Int8.ofInt (-2)).toInt32))]) rfl ?_
    refine En_top (by decide : ((Int8.ofInt (-2)).toInt32).toInt = -2) (fun z10 h11 => ?_)
    exact En_ret (v := some (.int z10)) rfl rfl rfl ⟨h4, h8, z10, rfl, trivial⟩
  · refine En_Ps 2 (pc' := 9) (lv' := [(0, .ref 159), (1, .int a), (2, .int b)]) (st' := [.int b, .ref 159]) rfl ?_
    refine En_callV rfl rfl rfl rfl rfl rfl rfl rfl (by decide +kernel : TG 159 = 35) (by decide +kernel) rfl (c_195 σ3 h4 b) (by decide) (by decide) (fun v13 σ14 h12 => ?_)
    obtain ⟨h15, h16, z18, rfl, h17⟩ := h12
    have h19 := Fr_trans h8 h16 (by decide +kernel)
    refine En_iNe _ rfl rfl (fun h20 => ?_) (fun h20 => ?_)
    · refine En_Ps 3 (pc' := 21) (lv' := [(0, .ref 159), (1, .int a), (2, .int b)]) (st' := [.int b, .int a, .ref 159]) rfl ?_
      refine En_callV rfl rfl rfl rfl rfl rfl rfl rfl (by decide +kernel : TG 159 = 35) (by decide +kernel) rfl (c_228 σ14 h15 a b) (by decide) (by decide) (fun v22 σ23 h21 => ?_)
      obtain ⟨h24, h25, z27, rfl, h26⟩ := h21
      have h28 := Fr_trans h19 h25 (by decide +kernel)
      refine En_Ps 3 (pc' := 27) (lv' := [(3, .int z27), (0, .ref 159), (1, .int a), (2, .int b)]) (st' := [.int ((Int32.ofInt (-1))), .int z27]) rfl ?_
      refine En_icNe _ rfl (by decide : (Int32.ofInt (-1)).toInt = -1) rfl (fun h29 => ?_) (fun h29 => ?_)
      · refine En_Ps 1 (pc' := 35) (lv' := [(3, .int z27), (0, .ref 159), (1, .int a), (2, .int b)]) (st' := [.int z27]) rfl ?_
        refine En_callS rfl rfl rfl rfl rfl rfl rfl rfl rfl (c_203b σ23 h24 z27) (by decide) (by decide) (fun v31 σ32 h30 => ?_)
        obtain ⟨h33, h34, z36, rfl, h35⟩ := h30
        have h37 := Fr_trans h28 h34 (by decide +kernel)
        exact En_ret (v := some (.int z36)) rfl rfl rfl ⟨h33, h37, z36, rfl, trivial⟩
      · refine En_Ps 2 (pc' := 38) (lv' := [(3, .int z27), (0, .ref 159), (1, .int a), (2, .int b)]) (st' := [.int ((Int32.ofInt (-1)))]) rfl ?_
        refine En_top (by decide : (Int32.ofInt (-1)).toInt = -1) (fun z38 h39 => ?_)
        exact En_ret (v := some (.int z38)) rfl rfl rfl ⟨h24, h28, z38, rfl, trivial⟩
    · refine En_Ps 1 (pc' := 17) (lv' := [(0, .ref 159), (1, .int a), (2, .int b)]) (st' := [.int (((Int8.ofInt (-2)).toInt32))]) rfl ?_
      refine En_top (by decide : ((Int8.ofInt (-2)).toInt32).toInt = -2) (fun z40 h41 => ?_)
      exact En_ret (v := some (.int z40)) rfl rfl rfl ⟨h15, h19, z40, rfl, trivial⟩
/-- DoorSchoolModel.fits(I)I -/
abbrev P_230 (σ0 : SG) (a : Int32) : PO := fun v σ => WT σ ∧ Fr [(35, 18), (42, 0), (43, 0), (44, 0)] σ0 σ ∧ ∃ ret : Int32, v = some (.int ret) ∧ -ret.toInt - 6 ≤ 0 ∧ ret.toInt - 81 ≤ 0
set_option maxRecDepth 10000 in
set_option maxHeartbeats 4000000 in
theorem c_230 (σ0 : SG) (hσ0 : WT σ0) (a : Int32) : En 5 110 none mr_230 (P_230 σ0 a) 0 [(0, .ref 159), (1, .int a)] [] σ0 := by
  have hF0 : Fr [(35, 18), (42, 0), (43, 0), (44, 0)] σ0 σ0 := Fr_rfl
  refine En_Ps 3 (pc' := 3) (lv' := [(0, .ref 159), (1, .int a)]) (st' := [.int ((Int32.ofInt 1)), .int a, .ref 159]) rfl ?_
  have := (by decide : ((Int32.ofInt 1)).toInt = 1)
  refine En_callV rfl rfl rfl rfl rfl rfl rfl rfl (by decide +kernel : TG 159 = 35) (by decide +kernel) rfl (c_198 σ0 hσ0 a ((Int32.ofInt 1)) (geI (by decide : (Int32.ofInt 1).toInt = 1) (by omega)) (leI (by decide : (Int32.ofInt 1).toInt = 1) (by omega))) (by decide) (by decide) (fun v2 σ3 h1 => ?_)
  obtain ⟨h4, h5, z7, rfl, h6⟩ := h1
  have h8 := Fr_trans hF0 h5 (by decide +kernel)
  refine En_Ps 2 (pc' := 8) (lv' := [(2, .int z7), (0, .ref 159), (1, .int a)]) (st' := [.int z7]) rfl ?_
  refine En_iGe _ rfl rfl (fun h9 => ?_) (fun h9 => ?_)
  · refine En_Ps 2 (pc' := 17) (lv' := [(2, .int z7), (0, .ref 159), (1, .int a)]) (st' := [.int a, .ref 159]) rfl ?_
    refine En_callV rfl rfl rfl rfl rfl rfl rfl rfl (by decide +kernel : TG 159 = 35) (by decide +kernel) rfl (c_231 σ3 h4 a (geI rfl (by omega)) (leI rfl (by omega))) (by decide) (by decide) (fun v11 σ12 h10 => ?_)
    obtain ⟨h13, h14, z16, rfl, h15⟩ := h10
    have h17 := Fr_trans h8 h14 (by decide +kernel)
    exact En_ret (v := some (.int z16)) rfl rfl rfl ⟨h13, h17, z16, rfl, (by omega)⟩
  · refine En_Ps 2 (pc' := 20) (lv' := [(2, .int z7), (0, .ref 159), (1, .int a)]) (st' := [.int z7]) rfl ?_
    exact En_ret (v := some (.int z7)) rfl rfl rfl ⟨h4, h8, z7, rfl, (by omega)⟩
