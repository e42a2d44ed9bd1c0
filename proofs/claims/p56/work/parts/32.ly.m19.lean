/-- DoorSchoolModel.hanging()I -/
abbrev P_239 (σ0 : SG) : PO := fun v σ => WT σ ∧ Fr [(35, 18), (35, 21), (35, 26), (42, 0), (43, 0), (44, 0), (45, 0), (46, 0), (47, 0), (48, 0)] σ0 σ ∧ ∃ ret : Int32, v = some (.int ret) ∧ True
set_option maxRecDepth 10000 in
set_option maxHeartbeats 4000000 in
theorem c_239 (σ0 : SG) (hσ0 : WT σ0) : En 7 160 none mr_239 (P_239 σ0) 0 [(0, .ref 159)] [] σ0 := by
  have hF0 : Fr [(35, 18), (35, 21), (35, 26), (42, 0), (43, 0), (44, 0), (45, 0), (46, 0), (47, 0), (48, 0)] σ0 σ0 := Fr_rfl
  refine En_Ps 1 (pc' := 1) (lv' := [(0, .ref 159)]) (st' := [.ref 159]) rfl ?_
  obtain ⟨z2, h1, h3, h4⟩ := WT_peekI hσ0 tgz_160 (by decide +kernel : FT 36 (7 : Int).toNat = (0, 0, 1600)) (by decide +kernel)
  refine En_callV rfl rfl rfl rfl rfl rfl rfl rfl tgz_159 (by decide +kernel) rfl (c_264 σ0 hσ0 z2 h1) (by decide) (by decide) (fun v6 σ7 h5 => ?_)
  obtain ⟨h8, h9, z11, rfl, h10⟩ := h5
  have h12 := Fr_trans hF0 h9 (by decide +kernel)
  refine En_iNe _ rfl rfl (fun h13 => ?_) (fun h13 => ?_)
  · refine En_Ps 1 (pc' := 11) (lv' := [(0, .ref 159)]) (st' := [.ref 159]) rfl ?_
    refine En_callV rfl rfl rfl rfl rfl rfl rfl rfl tgz_159 (by decide +kernel) rfl (c_238 σ7 h8) (by decide) (by decide) (fun v15 σ16 h14 => ?_)
    obtain ⟨h17, h18, rfl, h19⟩ := h14
    have h20 := Fr_trans h12 h18 (by decide +kernel)
    refine En_Ps 1 (pc' := 15) (lv' := [(0, .ref 159)]) (st' := [.ref 159]) rfl ?_
    refine En_getI (j := 26) (l := (-2147483648)) (u := 2147483647) rfl rfl rfl tgz_159 (by decide +kernel) h17 (by decide +kernel) (fun z22 h21 h23 h24 => ?_)
    exact En_ret (v := some (.int z22)) rfl rfl rfl ⟨h17, h20, z22, rfl, trivial⟩
  · refine En_Ps 1 (pc' := 9) (lv' := [(0, .ref 159)]) (st' := [.int (((Int8.ofInt (-2)).toInt32))]) rfl ?_
    refine En_top (by decide : ((Int8.ofInt (-2)).toInt32).toInt = -2) (fun z25 h26 => ?_)
    exact En_ret (v := some (.int z25)) rfl rfl rfl ⟨h8, h12, z25, rfl, trivial⟩
/-- DoorSchoolModel.hung(I)I -/
abbrev P_246 (σ0 : SG) (a : Int32) : PO := fun v σ => WT σ ∧ Fr [(35, 18), (35, 21), (35, 26), (42, 0), (43, 0), (44, 0), (45, 0), (46, 0), (47, 0), (48, 0)] σ0 σ ∧ ∃ ret : Int32, v = some (.int ret) ∧ -ret.toInt - 2 ≤ 0 ∧ ret.toInt - 3 ≤ 0
set_option maxRecDepth 10000 in
set_option maxHeartbeats 4000000 in
theorem c_246 (σ0 : SG) (hσ0 : WT σ0) (a : Int32) : En 7 160 none mr_246 (P_246 σ0 a) 0 [(0, .ref 159), (1, .int a)] [] σ0 := by
  have hF0 : Fr [(35, 18), (35, 21), (35, 26), (42, 0), (43, 0), (44, 0), (45, 0), (46, 0), (47, 0), (48, 0)] σ0 σ0 := Fr_rfl
  refine En_Ps 2 (pc' := 2) (lv' := [(0, .ref 159), (1, .int a)]) (st' := [.int a, .ref 159]) rfl ?_
  refine En_callV rfl rfl rfl rfl rfl rfl rfl rfl tgz_159 (by decide +kernel) rfl (c_258 σ0 hσ0 a) (by decide) (by decide) (fun v2 σ3 h1 => ?_)
  obtain ⟨h4, h5, z7, rfl, h6⟩ := h1
  have h8 := Fr_trans hF0 h5 (by decide +kernel)
  refine En_iNe _ rfl rfl (fun h9 => ?_) (fun h9 => ?_)
  · refine En_Ps 1 (pc' := 12) (lv' := [(0, .ref 159), (1, .int a)]) (st' := [.ref 159]) rfl ?_
    refine En_callV rfl rfl rfl rfl rfl rfl rfl rfl tgz_159 (by decide +kernel) rfl (c_238 σ3 h4) (by decide) (by decide) (fun v11 σ12 h10 => ?_)
    obtain ⟨h13, h14, rfl, h15⟩ := h10
    have h16 := Fr_trans h8 h14 (by decide +kernel)
    refine En_Ps 1 (pc' := 16) (lv' := [(0, .ref 159), (1, .int a)]) (st' := [.ref 159]) rfl ?_
    refine En_getI (j := 26) (l := (-2147483648)) (u := 2147483647) rfl rfl rfl tgz_159 (by decide +kernel) h13 (by decide +kernel) (fun z18 h17 h19 h20 => ?_)
    refine En_Ps 1 (pc' := 20) (lv' := [(0, .ref 159), (1, .int a)]) (st' := [.int ((Int32.ofInt (-1))), .int z18]) rfl ?_
    refine En_icNe _ rfl (by decide : (Int32.ofInt (-1)).toInt = -1) rfl (fun h21 => ?_) (fun h21 => ?_)
    · refine En_Ps 1 (pc' := 28) (lv' := [(0, .ref 159), (1, .int a)]) (st' := [.ref 159]) rfl ?_
      refine En_getU (j := 25) (u := 172) (g' := 48) (q := 0) rfl rfl rfl tgz_159 (by decide +kernel) h13 (by decide +kernel) (by decide +kernel) (fun h22 => ?_)
      refine En_Ps 1 (pc' := 32) (lv' := [(0, .ref 159), (1, .int a)]) (st' := [.int a, .ref 172]) rfl ?_
      refine En_iald (l := 0) (u := 3) rfl rfl tgz_172 (by decide +kernel) h13 (by omega) (lnI (by decide +kernel : LN _ = 4) (by omega)) (FTsgl (by decide +kernel)) (fun z25 h24 h26 h27 => ?_)
      exact En_ret (v := some (.int z25)) rfl rfl rfl ⟨h13, h16, z25, rfl, ⟨by first | exact q_ea7f0ffdb1 h26 | omega, by first | exact q_e9a8eec0c4 h27 | omega⟩⟩
    · refine En_Ps 2 (pc' := 33) (lv' := [(0, .ref 159), (1, .int a)]) (st' := [.int ((Int32.ofInt (-1)))]) rfl ?_
      refine En_top (by decide : (Int32.ofInt (-1)).toInt = -1) (fun z28 h29 => ?_)
      exact En_ret (v := some (.int z28)) rfl rfl rfl ⟨h13, h16, z28, rfl, ⟨by first | exact q_e1de8c7867 h29 | omega, by first | exact q_cca129732b h29 | omega⟩⟩
  · refine En_Ps 1 (pc' := 10) (lv' := [(0, .ref 159), (1, .int a)]) (st' := [.int (((Int8.ofInt (-2)).toInt32))]) rfl ?_
    refine En_top (by decide : ((Int8.ofInt (-2)).toInt32).toInt = -2) (fun z30 h31 => ?_)
    exact En_ret (v := some (.int z30)) rfl rfl rfl ⟨h4, h8, z30, rfl, ⟨by first | exact q_f35c5d346c h31 | omega, by first | exact q_09eb541a79 h31 | omega⟩⟩

