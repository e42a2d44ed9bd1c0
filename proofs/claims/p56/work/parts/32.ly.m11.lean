/-- DoorSchoolModel.fewest(II)I -/
abbrev P_227 (σ0 : SG) (a : Int32) (b : Int32) : PO := fun v σ => WT σ ∧ Fr [(35, 18), (35, 21), (42, 0), (43, 0), (44, 0), (45, 0), (46, 0)] σ0 σ ∧ ∃ ret : Int32, v = some (.int ret) ∧ True
set_option maxRecDepth 10000 in
set_option maxHeartbeats 4000000 in
theorem c_227 (σ0 : SG) (hσ0 : WT σ0) (a : Int32) (b : Int32) : En 6 139 none mr_227 (P_227 σ0 a b) 0 [(0, .ref 159), (1, .int a), (2, .int b)] [] σ0 := by
  have hF0 : Fr [(35, 18), (35, 21), (42, 0), (43, 0), (44, 0), (45, 0), (46, 0)] σ0 σ0 := Fr_rfl
  refine En_Ps 1 (pc' := 1) (lv' := [(0, .ref 159), (1, .int a), (2, .int b)]) (st' := [.int a]) rfl ?_
  refine En_callS rfl rfl rfl rfl rfl rfl rfl rfl rfl (c_268 σ0 hσ0 a) (by decide) (by decide) (fun v2 σ3 h1 => ?_)
  obtain ⟨h4, h5, z7, rfl, h6⟩ := h1
  have h8 := Fr_trans hF0 h5 (by decide +kernel)
  refine En_iEq _ rfl rfl (fun h9 => ?_) (fun h9 => ?_)
  · refine En_Ps 1 (pc' := 17) (lv' := [(0, .ref 159), (1, .int a), (2, .int b)]) (st' := [.int (((Int8.ofInt (-2)).toInt32))]) rfl ?_
    refine En_top (by decide : ((Int8.ofInt (-2)).toInt32).toInt = -2) (fun z10 h11 => ?_)
    exact En_ret (v := some (.int z10)) rfl rfl rfl ⟨h4, h8, z10, rfl, trivial⟩
  · refine En_Ps 2 (pc' := 9) (lv' := [(0, .ref 159), (1, .int a), (2, .int b)]) (st' := [.int b, .ref 159]) rfl ?_
    refine En_callV rfl rfl rfl rfl rfl rfl rfl rfl tgz_159 (by decide +kernel) rfl (c_195 σ3 h4 b) (by decide) (by decide) (fun v13 σ14 h12 => ?_)
    obtain ⟨h15, h16, z18, rfl, h17⟩ := h12
    have h19 := Fr_trans h8 h16 (by decide +kernel)
    refine En_iNe _ rfl rfl (fun h20 => ?_) (fun h20 => ?_)
    · refine En_Ps 3 (pc' := 21) (lv' := [(0, .ref 159), (1, .int a), (2, .int b)]) (st' := [.int b, .int a, .ref 159]) rfl ?_
      refine En_callV rfl rfl rfl rfl rfl rfl rfl rfl tgz_159 (by decide +kernel) rfl (c_228 σ14 h15 a b) (by decide) (by decide) (fun v22 σ23 h21 => ?_)
      obtain ⟨h24, h25, z27, rfl, h26⟩ := h21
      have h28 := Fr_trans h19 h25 (by decide +kernel)
      refine En_Ps 3 (pc' := 27) (lv' := [(3, .int z27), (0, .ref 159), (1, .int a), (2, .int b)]) (st' := [.int ((Int32.ofInt (-1))), .int z27]) rfl ?_
      refine En_icNe _ rfl (by decide : (Int32.ofInt (-1)).toInt = -1) rfl (fun h29 => ?_) (fun h29 => ?_)
      · refine En_Ps 1 (pc' := 35) (lv' := [(3, .int z27), (0, .ref 159), (1, .int a), (2, .int b)]) (st' := [.int z27]) rfl ?_
        refine En_callS rfl rfl rfl rfl rfl rfl rfl rfl rfl (c_203b σ23 h24 z27) (by decide) (by decide) (fun v31 σ32 h30 => ?_)
        obtain ⟨h33, h34, z36, rfl, h35⟩ := h30
        have h37 := Fr_trans h28 h34 (by decide +kernel)
        exact En_ret (v := some (.int z36)) rfl rfl rfl ⟨h33, h37, z36, rfl, trivial⟩
      · refine En_Ps 2 (pc' := 38) (lv' := [(3, .int z27), (0, .ref 159), (1, .int a), (2, .int b)]) (st' := [.int ((Int32.ofInt (-1)))]) rfl ?_
        refine En_top (by decide : (Int32.ofInt (-1)).toInt = -1) (fun z38 h39 => ?_)
        exact En_ret (v := some (.int z38)) rfl rfl rfl ⟨h24, h28, z38, rfl, trivial⟩
    · refine En_Ps 1 (pc' := 17) (lv' := [(0, .ref 159), (1, .int a), (2, .int b)]) (st' := [.int (((Int8.ofInt (-2)).toInt32))]) rfl ?_
      refine En_top (by decide : ((Int8.ofInt (-2)).toInt32).toInt = -2) (fun z40 h41 => ?_)
      exact En_ret (v := some (.int z40)) rfl rfl rfl ⟨h15, h19, z40, rfl, trivial⟩
/-- DoorSchoolModel.fits(I)I -/
abbrev P_230 (σ0 : SG) (a : Int32) : PO := fun v σ => WT σ ∧ Fr [(35, 18), (42, 0), (43, 0), (44, 0)] σ0 σ ∧ ∃ ret : Int32, v = some (.int ret) ∧ -ret.toInt - 6 ≤ 0 ∧ ret.toInt - 81 ≤ 0
set_option maxRecDepth 10000 in
set_option maxHeartbeats 4000000 in
theorem c_230 (σ0 : SG) (hσ0 : WT σ0) (a : Int32) : En 5 110 none mr_230 (P_230 σ0 a) 0 [(0, .ref 159), (1, .int a)] [] σ0 := by
  have hF0 : Fr [(35, 18), (42, 0), (43, 0), (44, 0)] σ0 σ0 := Fr_rfl
  refine En_Ps 3 (pc' := 3) (lv' := [(0, .ref 159), (1, .int a)]) (st' := [.int ((Int32.ofInt 1)), .int a, .ref 159]) rfl ?_
  have := (by decide : ((Int32.ofInt 1)).toInt = 1)
  refine En_callV rfl rfl rfl rfl rfl rfl rfl rfl tgz_159 (by decide +kernel) rfl (c_198 σ0 hσ0 a ((Int32.ofInt 1)) (geI (by decide : (Int32.ofInt 1).toInt = 1) (by decide)) (leI (by decide : (Int32.ofInt 1).toInt = 1) (by decide))) (by decide) (by decide) (fun v2 σ3 h1 => ?_)
  obtain ⟨h4, h5, z7, rfl, h6⟩ := h1
  have h8 := Fr_trans hF0 h5 (by decide +kernel)
  refine En_Ps 2 (pc' := 8) (lv' := [(2, .int z7), (0, .ref 159), (1, .int a)]) (st' := [.int z7]) rfl ?_
  refine En_iGe _ rfl rfl (fun h9 => ?_) (fun h9 => ?_)
  · refine En_Ps 2 (pc' := 17) (lv' := [(2, .int z7), (0, .ref 159), (1, .int a)]) (st' := [.int a, .ref 159]) rfl ?_
    refine En_callV rfl rfl rfl rfl rfl rfl rfl rfl tgz_159 (by decide +kernel) rfl (c_231 σ3 h4 a (geI rfl (by omega)) (leI rfl (by omega))) (by decide) (by decide) (fun v11 σ12 h10 => ?_)
    obtain ⟨h13, h14, z16, rfl, h15⟩ := h10
    have h17 := Fr_trans h8 h14 (by decide +kernel)
    exact En_ret (v := some (.int z16)) rfl rfl rfl ⟨h13, h17, z16, rfl, ⟨by first | exact q_8061444f0d h15.1 | omega, by first | exact q_62172f5eca h15.2 | omega⟩⟩
  · refine En_Ps 2 (pc' := 20) (lv' := [(2, .int z7), (0, .ref 159), (1, .int a)]) (st' := [.int z7]) rfl ?_
    exact En_ret (v := some (.int z7)) rfl rfl rfl ⟨h4, h8, z7, rfl, ⟨by first | exact q_629d629181 h6.1 | omega, by first | exact q_5b73750df0 h9 | omega⟩⟩
/-- DoorSchoolModel.ownDeeds()I -/
abbrev P_295 (σ0 : SG) : PO := fun v σ => WT σ ∧ Fr [] σ0 σ ∧ ∃ ret : Int32, v = some (.int ret) ∧ -ret.toInt ≤ 0 ∧ ret.toInt - 65535 ≤ 0
set_option maxRecDepth 10000 in
set_option maxHeartbeats 4000000 in
theorem c_295 (σ0 : SG) (hσ0 : WT σ0) : En 3 64 none mr_295 (P_295 σ0) 0 [(0, .ref 159)] [] σ0 := by
  have hF0 : Fr [] σ0 σ0 := Fr_rfl
  refine En_Ps 2 (pc' := 2) (lv' := [(0, .ref 159)]) (st' := [.ref 159, .ref 159]) rfl ?_
  refine En_getU (j := 1) (u := 160) (g' := 36) (q := 0) rfl rfl rfl tgz_159 (by decide +kernel) hσ0 (by decide +kernel) (by decide +kernel) (fun h1 => ?_)
  refine En_Ps 1 (pc' := 7) (lv' := [(0, .ref 159)]) (st' := [.int (((Int8.ofInt 8).toInt32)), .ref 160, .ref 159]) rfl ?_
  refine En_iald (l := 0) (u := 15) rfl (by decide : ((Int8.ofInt 8).toInt32).toInt = 8) tgz_160 (by decide +kernel) hσ0 (by decide) (lnI (by decide +kernel : LN _ = 226) (by decide)) (by decide +kernel) (fun z4 h3 h5 h6 => ?_)
  refine En_Ps 1 (pc' := 9) (lv' := [(0, .ref 159)]) (st' := [.ref 159, .int z4, .ref 159]) rfl ?_
  refine En_getK (j := 1) h1 rfl rfl rfl tgz_159 (by decide +kernel) ?_
  refine En_Ps 1 (pc' := 14) (lv' := [(0, .ref 159)]) (st' := [.int (((Int8.ofInt 9).toInt32)), .ref 160, .int z4, .ref 159]) rfl ?_
  refine En_iald (l := 0) (u := 15) rfl (by decide : ((Int8.ofInt 9).toInt32).toInt = 9) tgz_160 (by decide +kernel) hσ0 (by decide) (lnI (by decide +kernel : LN _ = 226) (by decide)) (by decide +kernel) (fun z8 h7 h9 h10 => ?_)
  refine En_callV rfl rfl rfl rfl rfl rfl rfl rfl tgz_159 (by decide +kernel) rfl (c_212 σ0 hσ0 z4 z8) (by decide) (by decide) (fun v12 σ13 h11 => ?_)
  obtain ⟨h14, h15, z17, rfl, h16⟩ := h11
  have h18 := Fr_trans hF0 h15 (by decide +kernel)
  exact En_ret (v := some (.int z17)) rfl rfl rfl ⟨h14, h18, z17, rfl, ⟨by first | exact q_a555021d16 h16.1 | omega, by first | exact q_ef123ba13c h16.2 | omega⟩⟩
/-- DoorSchoolModel.fooled(II)I -/
abbrev P_232 (σ0 : SG) (a : Int32) (b : Int32) : PO := fun v σ => WT σ ∧ Fr [(35, 18), (35, 21), (42, 0), (43, 0), (44, 0), (45, 0), (46, 0)] σ0 σ ∧ ∃ ret : Int32, v = some (.int ret) ∧ True
set_option maxRecDepth 10000 in
set_option maxHeartbeats 4000000 in
theorem c_232 (σ0 : SG) (hσ0 : WT σ0) (a : Int32) (b : Int32) : En 5 112 none mr_232 (P_232 σ0 a b) 0 [(0, .ref 159), (1, .int a), (2, .int b)] [] σ0 := by
  have hF0 : Fr [(35, 18), (35, 21), (42, 0), (43, 0), (44, 0), (45, 0), (46, 0)] σ0 σ0 := Fr_rfl
  refine En_Ps 2 (pc' := 2) (lv' := [(0, .ref 159), (1, .int a), (2, .int b)]) (st' := [.int a, .ref 159]) rfl ?_
  obtain ⟨z2, h1, h3, h4⟩ := WT_peekI hσ0 tgz_160 (by decide +kernel : FT 36 (2 : Int).toNat = (0, 0, 4)) (by decide +kernel)
  refine En_callV rfl rfl rfl rfl rfl rfl rfl rfl tgz_159 (by decide +kernel) rfl (c_254 σ0 hσ0 a z2 h1) (by decide) (by decide) (fun v6 σ7 h5 => ?_)
  obtain ⟨h8, h9, z11, rfl, h10⟩ := h5
  have h12 := Fr_trans hF0 h9 (by decide +kernel)
  refine En_iEq _ rfl rfl (fun h13 => ?_) (fun h13 => ?_)
  · refine En_Ps 1 (pc' := 20) (lv' := [(0, .ref 159), (1, .int a), (2, .int b)]) (st' := [.int (((Int8.ofInt (-2)).toInt32))]) rfl ?_
    refine En_top (by decide : ((Int8.ofInt (-2)).toInt32).toInt = -2) (fun z14 h15 => ?_)
    exact En_ret (v := some (.int z14)) rfl rfl rfl ⟨h8, h12, z14, rfl, trivial⟩
  · refine En_Ps 4 (pc' := 12) (lv' := [(0, .ref 159), (1, .int a), (2, .int b)]) (st' := [.long ((Int64.ofNat 1)), .long ((Int64.ofNat 0)), .long b.toInt64]) rfl ?_
    have : b.toInt64.toInt = b.toInt := (i2lI rfl)
    have := (by decide : ((Int64.ofNat 0)).toInt = 0)
    have := (by decide : ((Int64.ofNat 1)).toInt = 1)
    refine En_callS rfl rfl rfl rfl rfl rfl rfl rfl rfl (c_249 σ7 h8 b.toInt64 ((Int64.ofNat 0)) ((Int64.ofNat 1))) (by decide) (by decide) (fun v17 σ18 h16 => ?_)
    obtain ⟨h19, h20, z22, rfl, h21⟩ := h16
    have h23 := Fr_trans h12 h20 (by decide +kernel)
    refine En_iNe _ rfl rfl (fun h24 => ?_) (fun h24 => ?_)
    · refine En_Ps 2 (pc' := 23) (lv' := [(0, .ref 159), (1, .int a), (2, .int b)]) (st' := [.int a, .ref 159]) rfl ?_
      refine En_callV rfl rfl rfl rfl rfl rfl rfl rfl tgz_159 (by decide +kernel) rfl (c_213 σ18 h19 a (geI rfl (by omega)) (leI rfl (by omega))) (by decide) (by decide) (fun v26 σ27 h25 => ?_)
      obtain ⟨h28, h29, z31, h32, z33, rfl, h30⟩ := h25
      have h34 := Fr_trans h23 h29 (by decide +kernel)
      refine En_Ps 2 (pc' := 28) (lv' := [(3, .int z33), (0, .ref 159), (1, .int a), (2, .int b)]) (st' := [.int b]) rfl ?_
      refine En_iNe _ rfl rfl (fun h35 => ?_) (fun h35 => ?_)
      · refine En_Ps 1 (pc' := 43) (lv' := [(3, .int z33), (0, .ref 159), (1, .int a), (2, .int b)]) (st' := [.ref 159]) rfl ?_
        refine En_callV rfl rfl rfl rfl rfl rfl rfl rfl tgz_159 (by decide +kernel) rfl (c_295 σ27 h28) (by decide) (by decide) (fun v37 σ38 h36 => ?_)
        obtain ⟨h39, h40, z42, rfl, h41⟩ := h36
        have h43 := Fr_trans h34 h40 (by decide +kernel)
        refine En_Ps 3 (pc' := 49) (lv' := [(3, .int z33), (0, .ref 159), (1, .int a), (2, .int b)]) (st' := [.int ((z33 ^^^ ((Int32.ofInt (-1))))), .int z42]) rfl ?_
        refine En_nam (fun z44 h45 => ?_)
        refine En_Ps 1 (pc' := 50) (lv' := [(3, .int z33), (0, .ref 159), (1, .int a), (2, .int b)]) (st' := [.int ((z42 &&& z44))]) rfl ?_
        refine En_nam (fun z46 h47 => ?_)
        obtain ⟨h48, h49⟩ := andn_rng h47 rfl (by omega) (by omega : _ ≤ (65535 : Int))
        exact En_ret (v := some (.int z46)) rfl rfl rfl ⟨h39, h43, z46, rfl, trivial⟩
      · refine En_Ps 2 (pc' := 33) (lv' := [(3, .int z33), (0, .ref 159), (1, .int a), (2, .int b)]) (st' := [.ref 159, .int z33]) rfl ?_
        refine En_callV rfl rfl rfl rfl rfl rfl rfl rfl tgz_159 (by decide +kernel) rfl (c_295 σ27 h28) (by decide) (by decide) (fun v51 σ52 h50 => ?_)
        obtain ⟨h53, h54, z56, rfl, h55⟩ := h50
        have h57 := Fr_trans h34 h54 (by decide +kernel)
        refine En_Ps 2 (pc' := 38) (lv' := [(3, .int z33), (0, .ref 159), (1, .int a), (2, .int b)]) (st' := [.int ((z56 ^^^ ((Int32.ofInt (-1))))), .int z33]) rfl ?_
        refine En_nam (fun z58 h59 => ?_)
        refine En_Ps 1 (pc' := 39) (lv' := [(3, .int z33), (0, .ref 159), (1, .int a), (2, .int b)]) (st' := [.int ((z33 &&& z58))]) rfl ?_
        refine En_nam (fun z60 h61 => ?_)
        refine En_Ps 1 (pc' := 50) (lv' := [(3, .int z33), (0, .ref 159), (1, .int a), (2, .int b)]) (st' := [.int z60]) rfl ?_
        exact En_ret (v := some (.int z60)) rfl rfl rfl ⟨h53, h57, z60, rfl, trivial⟩
    · refine En_Ps 1 (pc' := 20) (lv' := [(0, .ref 159), (1, .int a), (2, .int b)]) (st' := [.int (((Int8.ofInt (-2)).toInt32))]) rfl ?_
      refine En_top (by decide : ((Int8.ofInt (-2)).toInt32).toInt = -2) (fun z62 h63 => ?_)
      exact En_ret (v := some (.int z62)) rfl rfl rfl ⟨h19, h23, z62, rfl, trivial⟩
/-- DoorSchoolModel.fooledBy(I)I -/
abbrev P_233 (σ0 : SG) (a : Int32) : PO := fun v σ => WT σ ∧ Fr [] σ0 σ ∧ ∃ ret : Int32, v = some (.int ret) ∧ True
set_option maxRecDepth 10000 in
set_option maxHeartbeats 4000000 in
theorem c_233 (σ0 : SG) (hσ0 : WT σ0) (a : Int32) : En 4 84 none mr_233 (P_233 σ0 a) 0 [(0, .ref 159), (1, .int a)] [] σ0 := by
  have hF0 : Fr [] σ0 σ0 := Fr_rfl
  refine En_Ps 2 (pc' := 2) (lv' := [(0, .ref 159), (1, .int a)]) (st' := [.ref 159, .int a]) rfl ?_
  refine En_callV rfl rfl rfl rfl rfl rfl rfl rfl tgz_159 (by decide +kernel) rfl (c_295 σ0 hσ0) (by decide) (by decide) (fun v2 σ3 h1 => ?_)
  obtain ⟨h4, h5, z7, rfl, h6⟩ := h1
  have h8 := Fr_trans hF0 h5 (by decide +kernel)
  refine En_Ps 2 (pc' := 7) (lv' := [(0, .ref 159), (1, .int a)]) (st' := [.int ((z7 ^^^ ((Int32.ofInt (-1))))), .int a]) rfl ?_
  refine En_nam (fun z9 h10 => ?_)
  refine En_Ps 1 (pc' := 8) (lv' := [(0, .ref 159), (1, .int a)]) (st' := [.int ((a &&& z9))]) rfl ?_
  refine En_nam (fun z11 h12 => ?_)
  refine En_callS rfl rfl rfl rfl rfl rfl rfl rfl rfl (c_203b σ3 h4 z11) (by decide) (by decide) (fun v14 σ15 h13 => ?_)
  obtain ⟨h16, h17, z19, rfl, h18⟩ := h13
  have h20 := Fr_trans h8 h17 (by decide +kernel)
  exact En_ret (v := some (.int z19)) rfl rfl rfl ⟨h16, h20, z19, rfl, trivial⟩
/-- DoorSchoolModel.gains(III)I -/
abbrev P_235 (σ0 : SG) (a : Int32) (b : Int32) (c : Int32) : PO := fun v σ => WT σ ∧ Fr [(35, 18), (35, 21), (42, 0), (43, 0), (44, 0), (45, 0), (46, 0)] σ0 σ ∧ ∃ ret : Int32, v = some (.int ret) ∧ -ret.toInt - 1000 ≤ 0 ∧ ret.toInt - 13 ≤ 0
set_option maxRecDepth 10000 in
set_option maxHeartbeats 4000000 in
theorem c_235 (σ0 : SG) (hσ0 : WT σ0) (a : Int32) (b : Int32) (c : Int32) : En 6 136 none mr_235 (P_235 σ0 a b c) 0 [(0, .ref 159), (1, .int a), (2, .int b), (3, .int c)] [] σ0 := by
  have hF0 : Fr [(35, 18), (35, 21), (42, 0), (43, 0), (44, 0), (45, 0), (46, 0)] σ0 σ0 := Fr_rfl
  refine En_Ps 2 (pc' := 2) (lv' := [(0, .ref 159), (1, .int a), (2, .int b), (3, .int c)]) (st' := [.int a, .ref 159]) rfl ?_
  obtain ⟨z2, h1, h3, h4⟩ := WT_peekI hσ0 tgz_160 (by decide +kernel : FT 36 (2 : Int).toNat = (0, 0, 4)) (by decide +kernel)
  refine En_callV rfl rfl rfl rfl rfl rfl rfl rfl tgz_159 (by decide +kernel) rfl (c_254 σ0 hσ0 a z2 h1) (by decide) (by decide) (fun v6 σ7 h5 => ?_)
  obtain ⟨h8, h9, z11, rfl, h10⟩ := h5
  have h12 := Fr_trans hF0 h9 (by decide +kernel)
  refine En_iEq _ rfl rfl (fun h13 => ?_) (fun h13 => ?_)
  · refine En_Ps 1 (pc' := 30) (lv' := [(0, .ref 159), (1, .int a), (2, .int b), (3, .int c)]) (st' := [.int (((Int16.ofInt (-1000)).toInt32))]) rfl ?_
    refine En_top (by decide : ((Int16.ofInt (-1000)).toInt32).toInt = -1000) (fun z14 h15 => ?_)
    exact En_ret (v := some (.int z14)) rfl rfl rfl ⟨h8, h12, z14, rfl, ⟨by first | exact q_44e84994b9 h15 | omega, by first | exact q_2026640327 h15 | omega⟩⟩
  · refine En_Ps 3 (pc' := 11) (lv' := [(0, .ref 159), (1, .int a), (2, .int b), (3, .int c)]) (st' := [.long b.toInt64, .ref 159]) rfl ?_
    have : b.toInt64.toInt = b.toInt := (i2lI rfl)
    refine En_callV rfl rfl rfl rfl rfl rfl rfl rfl tgz_159 (by decide +kernel) rfl (c_259 σ7 h8 b.toInt64) (by decide) (by decide) (fun v17 σ18 h16 => ?_)
    obtain ⟨h19, h20, z22, rfl, h21⟩ := h16
    have h23 := Fr_trans h12 h20 (by decide +kernel)
    refine En_iEq _ rfl rfl (fun h24 => ?_) (fun h24 => ?_)
    · refine En_Ps 1 (pc' := 30) (lv' := [(0, .ref 159), (1, .int a), (2, .int b), (3, .int c)]) (st' := [.int (((Int16.ofInt (-1000)).toInt32))]) rfl ?_
      refine En_top (by decide : ((Int16.ofInt (-1000)).toInt32).toInt = -1000) (fun z25 h26 => ?_)
      exact En_ret (v := some (.int z25)) rfl rfl rfl ⟨h19, h23, z25, rfl, ⟨by first | exact q_44e84994b9 h26 | omega, by first | exact q_2026640327 h26 | omega⟩⟩
    · refine En_Ps 4 (pc' := 21) (lv' := [(0, .ref 159), (1, .int a), (2, .int b), (3, .int c)]) (st' := [.long ((Int64.ofNat 1)), .long ((Int64.ofNat 0)), .long c.toInt64]) rfl ?_
      have : c.toInt64.toInt = c.toInt := (i2lI rfl)
      have := (by decide : ((Int64.ofNat 0)).toInt = 0)
      have := (by decide : ((Int64.ofNat 1)).toInt = 1)
      refine En_callS rfl rfl rfl rfl rfl rfl rfl rfl rfl (c_249 σ18 h19 c.toInt64 ((Int64.ofNat 0)) ((Int64.ofNat 1))) (by decide) (by decide) (fun v28 σ29 h27 => ?_)
      obtain ⟨h30, h31, z33, rfl, h32⟩ := h27
      have h34 := Fr_trans h23 h31 (by decide +kernel)
      refine En_iNe _ rfl rfl (fun h35 => ?_) (fun h35 => ?_)
      · refine En_Ps 5 (pc' := 36) (lv' := [(0, .ref 159), (1, .int a), (2, .int b), (3, .int c)]) (st' := [.int c, .int b, .int a, .ref 159, .ref 159]) rfl ?_
        refine En_callV rfl rfl rfl rfl rfl rfl rfl rfl tgz_159 (by decide +kernel) rfl (c_214 σ29 h30 a b c (geI rfl (by omega)) (leI rfl (by omega)) (geI rfl (by omega)) (leI rfl (by omega)) (geI rfl (by omega)) (leI rfl (by omega))) (by decide) (by decide) (fun v37 σ38 h36 => ?_)
        obtain ⟨h39, h40, z42, rfl, h41⟩ := h36
        have h43 := Fr_trans h34 h40 (by decide +kernel)
        refine En_callV rfl rfl rfl rfl rfl rfl rfl rfl tgz_159 (by decide +kernel) rfl (c_283 σ38 h39 z42) (by decide) (by decide) (fun v45 σ46 h44 => ?_)
        obtain ⟨h47, h48, z50, rfl, h49⟩ := h44
        have h51 := Fr_trans h43 h48 (by decide +kernel)
        refine En_Ps 3 (pc' := 45) (lv' := [(0, .ref 159), (1, .int a), (2, .int b), (3, .int c)]) (st' := [.int a, .ref 159, .ref 159, .int z50]) rfl ?_
        refine En_callV rfl rfl rfl rfl rfl rfl rfl rfl tgz_159 (by decide +kernel) rfl (c_213 σ46 h47 a (geI rfl (by omega)) (leI rfl (by omega))) (by decide) (by decide) (fun v53 σ54 h52 => ?_)
        obtain ⟨h55, h56, z58, h59, z60, rfl, h57⟩ := h52
        have h61 := Fr_trans h51 h56 (by decide +kernel)
        refine En_callV rfl rfl rfl rfl rfl rfl rfl rfl tgz_159 (by decide +kernel) rfl (c_283 σ54 h55 z60) (by decide) (by decide) (fun v63 σ64 h62 => ?_)
        obtain ⟨h65, h66, z68, rfl, h67⟩ := h62
        have h69 := Fr_trans h61 h66 (by decide +kernel)
        refine En_Ps 1 (pc' := 52) (lv' := [(0, .ref 159), (1, .int a), (2, .int b), (3, .int c)]) (st' := [.int ((z50 - z68))]) rfl ?_
        refine En_top (subI rfl rfl (by first | exact q_1a616088d0 h49.1 h67.2 | omega) (by first | exact q_177aef1ae6 h49.2 h67.1 | omega)) (fun z70 h71 => ?_)
        exact En_ret (v := some (.int z70)) rfl rfl rfl ⟨h65, h69, z70, rfl, ⟨by first | exact q_bbe8c2391a h71 h49.1 h67.2 | omega, by first | exact q_7ede35fe3b h71 h49.2 h67.1 | omega⟩⟩
      · refine En_Ps 1 (pc' := 30) (lv' := [(0, .ref 159), (1, .int a), (2, .int b), (3, .int c)]) (st' := [.int (((Int16.ofInt (-1000)).toInt32))]) rfl ?_
        refine En_top (by decide : ((Int16.ofInt (-1000)).toInt32).toInt = -1000) (fun z72 h73 => ?_)
        exact En_ret (v := some (.int z72)) rfl rfl rfl ⟨h30, h34, z72, rfl, ⟨by first | exact q_44e84994b9 h73 | omega, by first | exact q_2026640327 h73 | omega⟩⟩
/-- DoorSchoolModel.isStrange(I)Z -/
abbrev P_267 (σ0 : SG) (a : Int32) : PO := fun v σ => WT σ ∧ Fr [] σ0 σ ∧ ∃ ret : Int32, v = some (.int ret) ∧ -ret.toInt ≤ 0 ∧ ret.toInt - 1 ≤ 0 ∧ (ret.toInt - 1 ≤ 0 ∧ -ret.toInt + 1 ≤ 0 → -a.toInt ≤ 0 ∧ a.toInt - 15 ≤ 0)
set_option maxRecDepth 10000 in
set_option maxHeartbeats 4000000 in
theorem c_267 (σ0 : SG) (hσ0 : WT σ0) (a : Int32) : En 4 84 none mr_267 (P_267 σ0 a) 0 [(0, .ref 159), (1, .int a)] [] σ0 := by
  have hF0 : Fr [] σ0 σ0 := Fr_rfl
  refine En_Ps 3 (pc' := 3) (lv' := [(0, .ref 159), (1, .int a)]) (st' := [.long a.toInt64, .ref 159]) rfl ?_
  have : a.toInt64.toInt = a.toInt := (i2lI rfl)
  refine En_callV rfl rfl rfl rfl rfl rfl rfl rfl tgz_159 (by decide +kernel) rfl (c_259 σ0 hσ0 a.toInt64) (by decide) (by decide) (fun v2 σ3 h1 => ?_)
  obtain ⟨h4, h5, z7, rfl, h6⟩ := h1
  have h8 := Fr_trans hF0 h5 (by decide +kernel)
  refine En_iEq _ rfl rfl (fun h9 => ?_) (fun h9 => ?_)
  · refine En_Ps 1 (pc' := 25) (lv' := [(0, .ref 159), (1, .int a)]) (st' := [.int ((Int32.ofInt 0))]) rfl ?_
    refine En_top (by decide : (Int32.ofInt 0).toInt = 0) (fun z10 h11 => ?_)
    exact En_ret (v := some (.int z10)) rfl rfl (retZ rfl rfl (by first | exact q_55451d0a83 h11 | omega) (by first | exact q_87849c3859 h11 | omega)) ⟨h4, h8, z10, rfl, ⟨by first | exact q_097a37c2ae h11 | omega, by first | exact q_e269517bee h11 | omega, fun _ => by omega⟩⟩
  · refine En_Ps 1 (pc' := 10) (lv' := [(0, .ref 159), (1, .int a)]) (st' := [.ref 159]) rfl ?_
    refine En_callV rfl rfl rfl rfl rfl rfl rfl rfl tgz_159 (by decide +kernel) rfl (c_295 σ3 h4) (by decide) (by decide) (fun v13 σ14 h12 => ?_)
    obtain ⟨h15, h16, z18, rfl, h17⟩ := h12
    have h19 := Fr_trans h8 h16 (by decide +kernel)
    refine En_Ps 1 (pc' := 14) (lv' := [(0, .ref 159), (1, .int a)]) (st' := [.int a, .int z18]) rfl ?_
    refine En_callS rfl rfl rfl rfl rfl rfl rfl rfl rfl (c_202b σ14 h15 z18 a) (by decide) (by decide) (fun v21 σ22 h20 => ?_)
    obtain ⟨h23, h24, z26, rfl, h25⟩ := h20
    have h27 := Fr_trans h19 h24 (by decide +kernel)
    refine En_iNe _ rfl rfl (fun h28 => ?_) (fun h28 => ?_)
    · refine En_Ps 1 (pc' := 25) (lv' := [(0, .ref 159), (1, .int a)]) (st' := [.int ((Int32.ofInt 0))]) rfl ?_
      refine En_top (by decide : (Int32.ofInt 0).toInt = 0) (fun z29 h30 => ?_)
      exact En_ret (v := some (.int z29)) rfl rfl (retZ rfl rfl (by first | exact q_55451d0a83 h30 | omega) (by first | exact q_87849c3859 h30 | omega)) ⟨h23, h27, z29, rfl, ⟨by first | exact q_097a37c2ae h30 | omega, by first | exact q_e269517bee h30 | omega, fun _ => by omega⟩⟩
    · refine En_Ps 2 (pc' := 25) (lv' := [(0, .ref 159), (1, .int a)]) (st' := [.int ((Int32.ofInt 1))]) rfl ?_
      refine En_top (by decide : (Int32.ofInt 1).toInt = 1) (fun z31 h32 => ?_)
      exact En_ret (v := some (.int z31)) rfl rfl (retZ rfl rfl (by first | exact q_2b07c97645 h32 | omega) (by first | exact q_d9e7cbb253 h32 | omega)) ⟨h23, h27, z31, rfl, ⟨by first | exact q_ad3eee31ca h32 | omega, by first | exact q_81cf297dc4 h32 | omega, fun _ => by omega⟩⟩
/-- DoorSchoolModel.game(III)I -/
abbrev P_236 (σ0 : SG) (a : Int32) (b : Int32) (c : Int32) : PO := fun v σ => WT σ ∧ Fr [(35, 18), (35, 21), (42, 0), (43, 0), (44, 0), (45, 0), (46, 0)] σ0 σ ∧ ∃ ret : Int32, v = some (.int ret) ∧ -ret.toInt - 2 ≤ 0 ∧ ret.toInt - 1 ≤ 0
set_option maxRecDepth 10000 in
set_option maxHeartbeats 4000000 in
theorem c_236 (σ0 : SG) (hσ0 : WT σ0) (a : Int32) (b : Int32) (c : Int32) : En 5 113 none mr_236 (P_236 σ0 a b c) 0 [(0, .ref 159), (1, .int a), (2, .int b), (3, .int c)] [] σ0 := by
  have hF0 : Fr [(35, 18), (35, 21), (42, 0), (43, 0), (44, 0), (45, 0), (46, 0)] σ0 σ0 := Fr_rfl
  refine En_Ps 2 (pc' := 2) (lv' := [(0, .ref 159), (1, .int a), (2, .int b), (3, .int c)]) (st' := [.int a, .ref 159]) rfl ?_
  obtain ⟨z2, h1, h3, h4⟩ := WT_peekI hσ0 tgz_160 (by decide +kernel : FT 36 (2 : Int).toNat = (0, 0, 4)) (by decide +kernel)
  refine En_callV rfl rfl rfl rfl rfl rfl rfl rfl tgz_159 (by decide +kernel) rfl (c_254 σ0 hσ0 a z2 h1) (by decide) (by decide) (fun v6 σ7 h5 => ?_)
  obtain ⟨h8, h9, z11, rfl, h10⟩ := h5
  have h12 := Fr_trans hF0 h9 (by decide +kernel)
  refine En_iEq _ rfl rfl (fun h13 => ?_) (fun h13 => ?_)
  · refine En_Ps 1 (pc' := 38) (lv' := [(0, .ref 159), (1, .int a), (2, .int b), (3, .int c)]) (st' := [.int (((Int8.ofInt (-2)).toInt32))]) rfl ?_
    refine En_top (by decide : ((Int8.ofInt (-2)).toInt32).toInt = -2) (fun z14 h15 => ?_)
    exact En_ret (v := some (.int z14)) rfl rfl rfl ⟨h8, h12, z14, rfl, ⟨by first | exact q_f35c5d346c h15 | omega, by first | exact q_680688d8e6 h15 | omega⟩⟩
  · refine En_Ps 1 (pc' := 9) (lv' := [(0, .ref 159), (1, .int a), (2, .int b), (3, .int c)]) (st' := [.int b]) rfl ?_
    refine En_callS rfl rfl rfl rfl rfl rfl rfl rfl rfl (c_268 σ7 h8 b) (by decide) (by decide) (fun v17 σ18 h16 => ?_)
    obtain ⟨h19, h20, z22, rfl, h21⟩ := h16
    have h23 := Fr_trans h12 h20 (by decide +kernel)
    refine En_iEq _ rfl rfl (fun h24 => ?_) (fun h24 => ?_)
    · refine En_Ps 1 (pc' := 38) (lv' := [(0, .ref 159), (1, .int a), (2, .int b), (3, .int c)]) (st' := [.int (((Int8.ofInt (-2)).toInt32))]) rfl ?_
      refine En_top (by decide : ((Int8.ofInt (-2)).toInt32).toInt = -2) (fun z25 h26 => ?_)
      exact En_ret (v := some (.int z25)) rfl rfl rfl ⟨h19, h23, z25, rfl, ⟨by first | exact q_f35c5d346c h26 | omega, by first | exact q_680688d8e6 h26 | omega⟩⟩
    · refine En_Ps 2 (pc' := 17) (lv' := [(0, .ref 159), (1, .int a), (2, .int b), (3, .int c)]) (st' := [.int c, .ref 159]) rfl ?_
      refine En_callV rfl rfl rfl rfl rfl rfl rfl rfl tgz_159 (by decide +kernel) rfl (c_267 σ18 h19 c) (by decide) (by decide) (fun v28 σ29 h27 => ?_)
      obtain ⟨h30, h31, z33, rfl, h32⟩ := h27
      have h34 := Fr_trans h23 h31 (by decide +kernel)
      refine En_iEq _ rfl rfl (fun h35 => ?_) (fun h35 => ?_)
      · refine En_Ps 1 (pc' := 38) (lv' := [(0, .ref 159), (1, .int a), (2, .int b), (3, .int c)]) (st' := [.int (((Int8.ofInt (-2)).toInt32))]) rfl ?_
        refine En_top (by decide : ((Int8.ofInt (-2)).toInt32).toInt = -2) (fun z36 h37 => ?_)
        exact En_ret (v := some (.int z36)) rfl rfl rfl ⟨h30, h34, z36, rfl, ⟨by first | exact q_f35c5d346c h37 | omega, by first | exact q_680688d8e6 h37 | omega⟩⟩
      · refine En_Ps 3 (pc' := 26) (lv' := [(0, .ref 159), (1, .int a), (2, .int b), (3, .int c)]) (st' := [.int b, .int a, .ref 159]) rfl ?_
        refine En_callV rfl rfl rfl rfl rfl rfl rfl rfl tgz_159 (by decide +kernel) rfl (c_211 σ29 h30 a b (geI rfl (by omega)) (leI rfl (by omega))) (by decide) (by decide) (fun v39 σ40 h38 => ?_)
        obtain ⟨h41, h42, z44, rfl, h43⟩ := h38
        have h45 := Fr_trans h34 h42 (by decide +kernel)
        refine En_Ps 1 (pc' := 30) (lv' := [(0, .ref 159), (1, .int a), (2, .int b), (3, .int c)]) (st' := [.int c, .int z44]) rfl ?_
        refine En_callS rfl rfl rfl rfl rfl rfl rfl rfl rfl (c_202b σ40 h41 z44 c) (by decide) (by decide) (fun v47 σ48 h46 => ?_)
        obtain ⟨h49, h50, z52, rfl, h51⟩ := h46
        have h53 := Fr_trans h45 h50 (by decide +kernel)
        refine En_Ps 1 (pc' := 38) (lv' := [(0, .ref 159), (1, .int a), (2, .int b), (3, .int c)]) (st' := [.int z52]) rfl ?_
        exact En_ret (v := some (.int z52)) rfl rfl rfl ⟨h49, h53, z52, rfl, ⟨by first | exact q_70a249c7f8 h51.1 | omega, by first | exact q_ad5b726bf8 h51.2 | omega⟩⟩
/-- DoorSchoolModel.hard()I -/
abbrev P_240 (σ0 : SG) : PO := fun v σ => WT σ ∧ Fr [(35, 18), (35, 21), (42, 0), (43, 0), (44, 0), (45, 0), (46, 0)] σ0 σ ∧ ∃ ret : Int32, v = some (.int ret) ∧ -ret.toInt - 2 ≤ 0 ∧ ret.toInt - 4095 ≤ 0
set_option maxRecDepth 10000 in
set_option maxHeartbeats 4000000 in
theorem c_240 (σ0 : SG) (hσ0 : WT σ0) : En 5 112 none mr_240 (P_240 σ0) 0 [(0, .ref 159)] [] σ0 := by
  have hF0 : Fr [(35, 18), (35, 21), (42, 0), (43, 0), (44, 0), (45, 0), (46, 0)] σ0 σ0 := Fr_rfl
  refine En_Ps 1 (pc' := 1) (lv' := [(0, .ref 159)]) (st' := [.ref 159]) rfl ?_
  obtain ⟨z2, h1, h3, h4⟩ := WT_peekI hσ0 tgz_160 (by decide +kernel : FT 36 (7 : Int).toNat = (0, 0, 1600)) (by decide +kernel)
  refine En_callV rfl rfl rfl rfl rfl rfl rfl rfl tgz_159 (by decide +kernel) rfl (c_264 σ0 hσ0 z2 h1) (by decide) (by decide) (fun v6 σ7 h5 => ?_)
  obtain ⟨h8, h9, z11, rfl, h10⟩ := h5
  have h12 := Fr_trans hF0 h9 (by decide +kernel)
  refine En_iNe _ rfl rfl (fun h13 => ?_) (fun h13 => ?_)
  · refine En_Ps 2 (pc' := 12) (lv' := [(0, .ref 159)]) (st' := [.ref 159, .int ((Int32.ofInt 1))]) rfl ?_
    refine En_getU (j := 1) (u := 160) (g' := 36) (q := 0) rfl rfl rfl tgz_159 (by decide +kernel) h8 (by decide +kernel) (by decide +kernel) (fun h14 => ?_)
    refine En_Ps 1 (pc' := 16) (lv' := [(0, .ref 159)]) (st' := [.int ((Int32.ofInt 3)), .ref 160, .int ((Int32.ofInt 1))]) rfl ?_
    refine En_iald (l := 0) (u := 12) rfl (by decide : (Int32.ofInt 3).toInt = 3) tgz_160 (by decide +kernel) h8 (by decide) (lnI (by decide +kernel : LN _ = 226) (by decide)) (by decide +kernel) (fun z17 h16 h18 h19 => ?_)
    refine En_Ps 1 (pc' := 18) (lv' := [(0, .ref 159)]) (st' := [.int ((((Int32.ofInt 1)) <<< (z17 &&& 31)))]) rfl ?_
    refine En_rng (shl1_p 12 rfl (by omega) (by omega) (by decide)) (fun z20 h21 h22 => ?_)
    refine En_Ps 2 (pc' := 20) (lv' := [(0, .ref 159)]) (st' := [.int ((z20 - ((Int32.ofInt 1))))]) rfl ?_
    refine En_top (subI rfl (by decide : (Int32.ofInt 1).toInt = 1) (by first | exact q_96dadfce4b h21 | omega) (by first | exact q_7669048e69 h22 | omega)) (fun z23 h24 => ?_)
    refine En_Ps 3 (pc' := 23) (lv' := [(2, .int ((Int32.ofInt 0))), (1, .int z23), (0, .ref 159)]) (st' := []) rfl ?_
    have key23 : ∀ (n23 : Nat) (σ27 : SG) (y25 : Int32) (y26 : Int32), WT σ27 → Fr [(35, 18), (35, 21), (42, 0), (43, 0), (44, 0), (45, 0), (46, 0)] σ0 σ27 → (σ27 160)[(7 : Int).toNat]? = some (.int z2) → (σ27 159)[1]? = some (.ref 160) → (σ27 160)[(3 : Int).toNat]? = some (.int z17) → 0 ≤ y25.toInt → y25.toInt ≤ 4095 → 0 ≤ y26.toInt → y26.toInt ≤ 4 → -y26.toInt + 4 < (n23 : Int) → En 5 112 none mr_240 (P_240 σ0) 23 [(0, .ref 159), (1, .int y25), (2, .int y26)] [] σ27 := by
      intro n23
      induction n23 with
      | zero =>
        intro σ27 y25 y26 h28 h29 h30 h31 h32 h33 h34 h35 h36 h37
        first | exact (q_20d6385c6f h37 h36).elim | (exfalso; omega)
      | succ n23 ih23 =>
        intro σ27 y25 y26 h28 h29 h30 h31 h32 h33 h34 h35 h36 h37
        refine En_Ps 2 (pc' := 25) (lv' := [(0, .ref 159), (1, .int y25), (2, .int y26)]) (st' := [.ref 159, .int y26]) rfl ?_
        refine En_getK (j := 1) h31 rfl rfl rfl tgz_159 (by decide +kernel) ?_
        refine En_Ps 1 (pc' := 29) (lv' := [(0, .ref 159), (1, .int y25), (2, .int y26)]) (st' := [.int ((Int32.ofInt 2)), .ref 160, .int y26]) rfl ?_
        refine En_iald (l := 0) (u := 4) rfl (by decide : (Int32.ofInt 2).toInt = 2) tgz_160 (by decide +kernel) h28 (by decide) (lnI (by decide +kernel : LN _ = 226) (by decide)) (by decide +kernel) (fun z39 h38 h40 h41 => ?_)
        refine En_icGe _ rfl rfl rfl (fun h42 => ?_) (fun h42 => ?_)
        · refine En_Ps 1 (pc' := 85) (lv' := [(0, .ref 159), (1, .int y25), (2, .int y26)]) (st' := [.int y25]) rfl ?_
          exact En_ret (v := some (.int y25)) rfl rfl rfl ⟨h28, h29, y25, rfl, ⟨by first | exact q_ea7f0ffdb1 h33 | omega, by first | exact q_cc7f194c2c h34 | omega⟩⟩
        · refine En_Ps 2 (pc' := 35) (lv' := [(0, .ref 159), (1, .int y25), (2, .int y26)]) (st' := [.int y26, .ref 159]) rfl ?_
          refine En_callV rfl rfl rfl rfl rfl rfl rfl rfl tgz_159 (by decide +kernel) rfl (c_213 σ27 h28 y26 (geI rfl (by first | exact q_58e6e51dcc h35 | omega)) (leI rfl (by first | exact q_5ab2e90ecc h42 h41 | omega))) (by decide) (by decide) (fun v44 σ45 h43 => ?_)
          obtain ⟨h46, h47, z49, h50, z51, rfl, h48⟩ := h43
          have h52 := Fr_trans h29 h47 (by decide +kernel)
          refine En_Ps 3 (pc' := 42) (lv' := [(4, .int ((Int32.ofInt 0))), (3, .int z51), (0, .ref 159), (1, .int y25), (2, .int y26)]) (st' := []) rfl ?_
          have key42 : ∀ (n42 : Nat) (σ55 : SG) (y53 : Int32) (y54 : Int32), WT σ55 → Fr [(35, 18), (35, 21), (42, 0), (43, 0), (44, 0), (45, 0), (46, 0)] σ0 σ55 → (σ55 160)[(7 : Int).toNat]? = some (.int z2) → (σ55 159)[1]? = some (.ref 160) → (σ55 160)[(3 : Int).toNat]? = some (.int z17) → (σ55 160)[(2 : Int).toNat]? = some (.int z39) → (σ55 159)[21]? = some (.int z49) → 0 ≤ y53.toInt → y53.toInt ≤ 4095 → 0 ≤ y54.toInt → y54.toInt ≤ 12 → y54.toInt - z17.toInt ≤ 0 → z17.toInt - y54.toInt < (n42 : Int) → En 5 112 none mr_240 (P_240 σ0) 42 [(0, .ref 159), (1, .int y53), (2, .int y26), (3, .int z51), (4, .int y54)] [] σ55 := by
            intro n42
            induction n42 with
            | zero =>
              intro σ55 y53 y54 h56 h57 h58 h59 h60 h61 h62 h63 h64 h65 h66 h67 h68
              first | exact (q_14257feae7 h67 h68).elim | (exfalso; omega)
            | succ n42 ih42 =>
              intro σ55 y53 y54 h56 h57 h58 h59 h60 h61 h62 h63 h64 h65 h66 h67 h68
              refine En_Ps 2 (pc' := 45) (lv' := [(0, .ref 159), (1, .int y53), (2, .int y26), (3, .int z51), (4, .int y54)]) (st' := [.ref 159, .int y54]) rfl ?_
              refine En_getK (j := 1) h59 rfl rfl rfl tgz_159 (by decide +kernel) ?_
              refine En_Ps 1 (pc' := 49) (lv' := [(0, .ref 159), (1, .int y53), (2, .int y26), (3, .int z51), (4, .int y54)]) (st' := [.int ((Int32.ofInt 3)), .ref 160, .int y54]) rfl ?_
              refine En_ialdK h60 rfl (by decide : (Int32.ofInt 3).toInt = 3) tgz_160 (by decide +kernel) h56 (by decide) (lnI (by decide +kernel : LN _ = 226) (by decide)) ?_
              refine En_icGe _ rfl rfl rfl (fun h70 => ?_) (fun h70 => ?_)
              · refine En_Ps 1 (pc' := 81) (lv' := [(2, .int ((y26 + Int32.ofInt 1))), (0, .ref 159), (1, .int y53), (3, .int z51), (4, .int y54)]) (st' := []) rfl ?_
                refine En_lv1 (addI rfl (by decide : (Int32.ofInt 1).toInt = 1) (by first | exact q_465ab79ac1 h35 | omega) (by first | exact q_f7282962fd h36 | omega)) (fun z71 h72 => ?_)
                refine En_Ps 1 (pc' := 23) (lv' := [(2, .int z71), (0, .ref 159), (1, .int y53), (3, .int z51), (4, .int y54)]) (st' := []) rfl ?_
                refine En_lv (lv := [(0, .ref 159), (1, .int y53), (2, .int z71)]) ⟨rfl, rfl, rfl, trivial⟩ ?_
                exact ih23 σ55 y53 z71 h56 h57 h58 h59 h60 (by first | exact q_58e6e51dcc h63 | omega) (by first | exact q_1eb66afe45 h64 | omega) (by first | exact q_35104ce9d3 h72 h35 | omega) (by first | exact q_de42116b63 h72 h42 h41 | omega) (by first | exact q_3d8d70ace2 h72 h37 | omega)
              · refine En_Ps 3 (pc' := 57) (lv' := [(0, .ref 159), (1, .int y53), (2, .int y26), (3, .int z51), (4, .int y54)]) (st' := [.int y54, .int z51, .ref 159]) rfl ?_
                refine En_callV rfl rfl rfl rfl rfl rfl rfl rfl tgz_159 (by decide +kernel) rfl (c_262 σ55 h56 z51 y54 (geI rfl (by first | exact q_58e6e51dcc h65 | omega)) (leI rfl (by first | exact q_a30ae353ab h70 h19 | omega))) (by decide) (by decide) (fun v74 σ75 h73 => ?_)
                obtain ⟨h76, h77, z79, rfl, h78⟩ := h73
                have h80 := Fr_trans h57 h77 (by decide +kernel)
                refine En_iEq _ rfl rfl (fun h81 => ?_) (fun h81 => ?_)
                · refine En_Ps 1 (pc' := 75) (lv' := [(4, .int ((y54 + Int32.ofInt 1))), (0, .ref 159), (1, .int y53), (2, .int y26), (3, .int z51)]) (st' := []) rfl ?_
                  refine En_lv1 (addI rfl (by decide : (Int32.ofInt 1).toInt = 1) (by first | exact q_465ab79ac1 h65 | omega) (by first | exact q_1fdc13c345 h66 | omega)) (fun z82 h83 => ?_)
                  refine En_Ps 1 (pc' := 42) (lv' := [(4, .int z82), (0, .ref 159), (1, .int y53), (2, .int y26), (3, .int z51)]) (st' := []) rfl ?_
                  refine En_lv (lv := [(0, .ref 159), (1, .int y53), (2, .int y26), (3, .int z51), (4, .int z82)]) ⟨rfl, rfl, rfl, rfl, rfl, trivial⟩ ?_
                  exact ih42 σ75 y53 z82 h76 h80 ((h77 _ _ (inWa tgz_160 (by decide +kernel))).trans h58) ((h77 _ _ (inW tgz_159 (by decide +kernel))).trans h59) ((h77 _ _ (inWa tgz_160 (by decide +kernel))).trans h60) ((h77 _ _ (inWa tgz_160 (by decide +kernel))).trans h61) ((h77 _ _ (inW tgz_159 (by decide +kernel))).trans h62) (by first | exact q_58e6e51dcc h63 | omega) (by first | exact q_1eb66afe45 h64 | omega) (by first | exact q_35104ce9d3 h83 h65 | omega) (by first | exact q_a2b7b6f4bb h83 h70 h19 | omega) (by first | exact q_ae2dbf4292 h70 h83 | omega) (by first | exact q_8d03a5a7cb h83 h68 | omega)
                · refine En_Ps 4 (pc' := 68) (lv' := [(0, .ref 159), (1, .int y53), (2, .int y26), (3, .int z51), (4, .int y54)]) (st' := [.int ((((Int32.ofInt 1)) <<< (y54 &&& 31))), .int y53]) rfl ?_
                  refine En_rng (shl1_p 11 rfl (by omega) (by omega) (by decide)) (fun z84 h85 h86 => ?_)
                  refine En_Ps 2 (pc' := 70) (lv' := [(0, .ref 159), (1, .int y53), (2, .int y26), (3, .int z51), (4, .int y54)]) (st' := [.int ((z84 ^^^ ((Int32.ofInt (-1))))), .int y53]) rfl ?_
                  refine En_nam (fun z87 h88 => ?_)
                  refine En_Ps 1 (pc' := 71) (lv' := [(0, .ref 159), (1, .int y53), (2, .int y26), (3, .int z51), (4, .int y54)]) (st' := [.int ((y53 &&& z87))]) rfl ?_
                  refine En_nam (fun z89 h90 => ?_)
                  obtain ⟨h91, h92⟩ := andn_rng h90 rfl (by omega) (by omega : _ ≤ (4095 : Int))
                  refine En_Ps 2 (pc' := 75) (lv' := [(4, .int ((y54 + Int32.ofInt 1))), (1, .int z89), (0, .ref 159), (2, .int y26), (3, .int z51)]) (st' := []) rfl ?_
                  refine En_lv1 (addI rfl (by decide : (Int32.ofInt 1).toInt = 1) (by first | exact q_465ab79ac1 h65 | omega) (by first | exact q_1fdc13c345 h66 | omega)) (fun z93 h94 => ?_)
                  refine En_Ps 1 (pc' := 42) (lv' := [(4, .int z93), (1, .int z89), (0, .ref 159), (2, .int y26), (3, .int z51)]) (st' := []) rfl ?_
                  refine En_lv (lv := [(0, .ref 159), (1, .int z89), (2, .int y26), (3, .int z51), (4, .int z93)]) ⟨rfl, rfl, rfl, rfl, rfl, trivial⟩ ?_
                  exact ih42 σ75 z89 z93 h76 h80 ((h77 _ _ (inWa tgz_160 (by decide +kernel))).trans h58) ((h77 _ _ (inW tgz_159 (by decide +kernel))).trans h59) ((h77 _ _ (inWa tgz_160 (by decide +kernel))).trans h60) ((h77 _ _ (inWa tgz_160 (by decide +kernel))).trans h61) ((h77 _ _ (inW tgz_159 (by decide +kernel))).trans h62) (by omega) (by omega) (by first | exact q_35104ce9d3 h94 h65 | omega) (by first | exact q_a2b7b6f4bb h94 h70 h19 | omega) (by first | exact q_ae2dbf4292 h70 h94 | omega) (by first | exact q_8d03a5a7cb h94 h68 | omega)
          have := (by decide : (Int32.ofInt 0).toInt = 0)
          refine En_lv (lv := [(0, .ref 159), (1, .int y25), (2, .int y26), (3, .int z51), (4, .int ((Int32.ofInt 0)))]) ⟨rfl, rfl, rfl, rfl, rfl, trivial⟩ ?_
          exact key42 (Int.toNat (z17.toInt) + 1) σ45 y25 ((Int32.ofInt 0)) h46 h52 ((h47 _ _ (inWa tgz_160 (by decide +kernel))).trans h30) ((h47 _ _ (inW tgz_159 (by decide +kernel))).trans h31) ((h47 _ _ (inWa tgz_160 (by decide +kernel))).trans h32) ((h47 _ _ (inWa tgz_160 (by decide +kernel))).trans h38) h50 (by first | exact q_58e6e51dcc h33 | omega) (by first | exact q_1eb66afe45 h34 | omega) (by decide) (by decide) (by omega) (by first | exact toN_lt _ | omega)
    have := (by decide : (Int32.ofInt 0).toInt = 0)
    refine En_lv (lv := [(0, .ref 159), (1, .int z23), (2, .int ((Int32.ofInt 0)))]) ⟨rfl, rfl, rfl, trivial⟩ ?_
    exact key23 (Int.toNat (4) + 1) σ7 z23 ((Int32.ofInt 0)) h8 h12 ((h9 _ _ (inWa tgz_160 (by decide +kernel))).trans h1) h14 h16 (by first | exact q_00529e3716 h24 h21 | omega) (by first | exact q_9bcae40bf2 h24 h22 | omega) (by decide) (by decide) (by first | exact toN_lt _ | omega)
  · refine En_Ps 1 (pc' := 9) (lv' := [(0, .ref 159)]) (st' := [.int (((Int8.ofInt (-2)).toInt32))]) rfl ?_
    refine En_top (by decide : ((Int8.ofInt (-2)).toInt32).toInt = -2) (fun z95 h96 => ?_)
    exact En_ret (v := some (.int z95)) rfl rfl rfl ⟨h8, h12, z95, rfl, ⟨by first | exact q_f35c5d346c h96 | omega, by first | exact q_6f5286b946 h96 | omega⟩⟩
/-- DoorSchoolModel.hardened(II)I -/
abbrev P_242 (σ0 : SG) (a : Int32) (b : Int32) : PO := fun v σ => WT σ ∧ Fr [(35, 18), (35, 21), (42, 0), (43, 0), (44, 0), (45, 0), (46, 0)] σ0 σ ∧ ∃ ret : Int32, v = some (.int ret) ∧ True
set_option maxRecDepth 10000 in
set_option maxHeartbeats 4000000 in
theorem c_242 (σ0 : SG) (hσ0 : WT σ0) (a : Int32) (b : Int32) (hl_a : 0 ≤ a.toInt) (hu_a : a.toInt ≤ 3) (hl_b : 0 ≤ b.toInt) (hu_b : b.toInt ≤ 15) : En 6 136 none mr_242 (P_242 σ0 a b) 0 [(0, .ref 159), (1, .int a), (2, .int b)] [] σ0 := by
  have hF0 : Fr [(35, 18), (35, 21), (42, 0), (43, 0), (44, 0), (45, 0), (46, 0)] σ0 σ0 := Fr_rfl
  refine En_Ps 5 (pc' := 5) (lv' := [(0, .ref 159), (1, .int a), (2, .int b)]) (st' := [.ref 159, .int b, .int a, .ref 159, .ref 159]) rfl ?_
  refine En_callV rfl rfl rfl rfl rfl rfl rfl rfl tgz_159 (by decide +kernel) rfl (c_295 σ0 hσ0) (by decide) (by decide) (fun v2 σ3 h1 => ?_)
  obtain ⟨h4, h5, z7, rfl, h6⟩ := h1
  have h8 := Fr_trans hF0 h5 (by decide +kernel)
  refine En_Ps 1 (pc' := 9) (lv' := [(0, .ref 159), (1, .int a), (2, .int b)]) (st' := [.int b, .int z7, .int b, .int a, .ref 159, .ref 159]) rfl ?_
  refine En_callS rfl rfl rfl rfl rfl rfl rfl rfl rfl (c_202b σ3 h4 z7 b) (by decide) (by decide) (fun v10 σ11 h9 => ?_)
  obtain ⟨h12, h13, z15, rfl, h14⟩ := h9
  have h16 := Fr_trans h8 h13 (by decide +kernel)
  refine En_callV rfl rfl rfl rfl rfl rfl rfl rfl tgz_159 (by decide +kernel) rfl (c_214 σ11 h12 a b z15 (geI rfl (by first | exact q_58e6e51dcc hl_a | omega)) (leI rfl (by first | exact q_da5e9b976f hu_a | omega)) (geI rfl (by first | exact q_58e6e51dcc hl_b | omega)) (leI rfl (by first | exact q_5a4d8a7e08 hu_b | omega)) (geI rfl (by first | exact q_ef1e8e38bf h14.1 | omega)) (leI rfl (by first | exact q_733c8bfbae h14.2 | omega))) (by decide) (by decide) (fun v18 σ19 h17 => ?_)
  obtain ⟨h20, h21, z23, rfl, h22⟩ := h17
  have h24 := Fr_trans h16 h21 (by decide +kernel)
  refine En_callV rfl rfl rfl rfl rfl rfl rfl rfl tgz_159 (by decide +kernel) rfl (c_233 σ19 h20 z23) (by decide) (by decide) (fun v26 σ27 h25 => ?_)
  obtain ⟨h28, h29, z31, rfl, h30⟩ := h25
  have h32 := Fr_trans h24 h29 (by decide +kernel)
  exact En_ret (v := some (.int z31)) rfl rfl rfl ⟨h28, h32, z31, rfl, trivial⟩
/-- DoorSchoolModel.harden(I)I -/
abbrev P_241 (σ0 : SG) (a : Int32) (nd : Int32) : PO := fun v σ => WT σ ∧ Fr [(35, 18), (35, 21), (42, 0), (43, 0), (44, 0), (45, 0), (46, 0)] σ0 σ ∧ ∃ ret : Int32, v = some (.int ret) ∧ -ret.toInt - 2 ≤ 0 ∧ ret.toInt - 15 ≤ 0 ∧ (-ret.toInt - 1 ≤ 0 → -a.toInt ≤ 0 ∧ a.toInt - 3 ≤ 0) ∧ (-ret.toInt ≤ 0 → ret.toInt - 15 ≤ 0) ∧ (-a.toInt ≤ 0 ∧ a.toInt - nd.toInt + 1 ≤ 0 → -ret.toInt - 1 ≤ 0)
set_option maxRecDepth 10000 in
set_option maxHeartbeats 4000000 in
theorem c_241 (σ0 : SG) (hσ0 : WT σ0) (a : Int32) (nd : Int32) (h_nd : (σ0 160)[(2 : Int).toNat]? = some (.int nd)) : En 7 158 none mr_241 (P_241 σ0 a nd) 0 [(0, .ref 159), (1, .int a)] [] σ0 := by
  obtain ⟨hl_nd, hu_nd⟩ := WT_int hσ0 (g := 36) (by decide +kernel) (by decide +kernel) (l := 0) (u := 4) (by decide +kernel) h_nd
  have hF0 : Fr [(35, 18), (35, 21), (42, 0), (43, 0), (44, 0), (45, 0), (46, 0)] σ0 σ0 := Fr_rfl
  refine En_Ps 2 (pc' := 2) (lv' := [(0, .ref 159), (1, .int a)]) (st' := [.int a, .ref 159]) rfl ?_
  refine En_callV rfl rfl rfl rfl rfl rfl rfl rfl tgz_159 (by decide +kernel) rfl (c_254 σ0 hσ0 a nd h_nd) (by decide) (by decide) (fun v2 σ3 h1 => ?_)
  obtain ⟨h4, h5, z7, rfl, h6⟩ := h1
  have h8 := Fr_trans hF0 h5 (by decide +kernel)
  refine En_iNe _ rfl rfl (fun h9 => ?_) (fun h9 => ?_)
  · refine En_Ps 3 (pc' := 14) (lv' := [(0, .ref 159), (1, .int a)]) (st' := [.int a, .ref 159, .ref 159]) rfl ?_
    refine En_callV rfl rfl rfl rfl rfl rfl rfl rfl tgz_159 (by decide +kernel) rfl (c_213 σ3 h4 a (geI rfl (by omega)) (leI rfl (by omega))) (by decide) (by decide) (fun v11 σ12 h10 => ?_)
    obtain ⟨h13, h14, z16, h17, z18, rfl, h15⟩ := h10
    have h19 := Fr_trans h8 h14 (by decide +kernel)
    refine En_callV rfl rfl rfl rfl rfl rfl rfl rfl tgz_159 (by decide +kernel) rfl (c_233 σ12 h13 z18) (by decide) (by decide) (fun v21 σ22 h20 => ?_)
    obtain ⟨h23, h24, z26, rfl, h25⟩ := h20
    have h27 := Fr_trans h19 h24 (by decide +kernel)
    refine En_Ps 5 (pc' := 26) (lv' := [(4, .int ((Int32.ofInt 0))), (3, .int ((Int32.ofInt (-1)))), (2, .int z26), (0, .ref 159), (1, .int a)]) (st' := []) rfl ?_
    have key26 : ∀ (n26 : Nat) (σ31 : SG) (y28 : Int32) (y29 : Int32) (y30 : Int32), WT σ31 → Fr [(35, 18), (35, 21), (42, 0), (43, 0), (44, 0), (45, 0), (46, 0)] σ0 σ31 → (σ31 160)[(2 : Int).toNat]? = some (.int nd) → (-1) ≤ y29.toInt → y29.toInt ≤ 15 → 0 ≤ y30.toInt → y30.toInt ≤ 16 → y29.toInt - y30.toInt + 1 ≤ 0 → -y30.toInt + 16 < (n26 : Int) → En 7 158 none mr_241 (P_241 σ0 a nd) 26 [(0, .ref 159), (1, .int a), (2, .int y28), (3, .int y29), (4, .int y30)] [] σ31 := by
      intro n26
      induction n26 with
      | zero =>
        intro σ31 y28 y29 y30 h32 h33 h34 h35 h36 h37 h38 h39 h40
        first | exact (q_511f6d33ac h40 h38).elim | (exfalso; omega)
      | succ n26 ih26 =>
        intro σ31 y28 y29 y30 h32 h33 h34 h35 h36 h37 h38 h39 h40
        refine En_Ps 2 (pc' := 29) (lv' := [(0, .ref 159), (1, .int a), (2, .int y28), (3, .int y29), (4, .int y30)]) (st' := [.ref 159, .int y30]) rfl ?_
        obtain ⟨z42, h41, h43, h44⟩ := WT_peekI h32 tgz_160 (by decide +kernel : FT 36 (0 : Int).toNat = (0, 0, 4)) (by decide +kernel)
        obtain ⟨z46, h45, h47, h48⟩ := WT_peekI h32 tgz_160 (by decide +kernel : FT 36 (7 : Int).toNat = (0, 0, 1600)) (by decide +kernel)
        refine En_callV rfl rfl rfl rfl rfl rfl rfl rfl tgz_159 (by decide +kernel) rfl (c_269 σ31 h32 z42 h41 z46 h45) (by decide) (by decide) (fun v50 σ51 h49 => ?_)
        obtain ⟨h52, h53, z55, rfl, h54⟩ := h49
        have h56 := h54.2.2
        have h57 := Fr_trans h33 h53 (by decide +kernel)
        refine En_icGe _ rfl rfl rfl (fun h58 => ?_) (fun h58 => ?_)
        · refine En_Ps 1 (pc' := 66) (lv' := [(0, .ref 159), (1, .int a), (2, .int y28), (3, .int y29), (4, .int y30)]) (st' := [.int y29]) rfl ?_
          exact En_ret (v := some (.int y29)) rfl rfl rfl ⟨h52, h57, y29, rfl, ⟨by first | exact q_fe58cd40d0 h35 | omega, by first | exact q_867a9ac627 h36 | omega, fun _ => by omega, fun _ => by omega, fun _ => by omega⟩⟩
        · refine En_Ps 3 (pc' := 39) (lv' := [(0, .ref 159), (1, .int a), (2, .int y28), (3, .int y29), (4, .int y30)]) (st' := [.int y30, .int a, .ref 159]) rfl ?_
          refine En_callV rfl rfl rfl rfl rfl rfl rfl rfl tgz_159 (by decide +kernel) rfl (c_242 σ51 h52 a y30 (geI rfl (by omega)) (leI rfl (by omega)) (geI rfl (by first | exact q_58e6e51dcc h37 | omega)) (leI rfl (by first | exact q_c15b485600 h58 h54.2.1 | omega))) (by decide) (by decide) (fun v60 σ61 h59 => ?_)
          obtain ⟨h62, h63, z65, rfl, h64⟩ := h59
          have h66 := Fr_trans h57 h63 (by decide +kernel)
          refine En_Ps 3 (pc' := 47) (lv' := [(5, .int z65), (0, .ref 159), (1, .int a), (2, .int y28), (3, .int y29), (4, .int y30)]) (st' := [.int y28, .int z65]) rfl ?_
          refine En_icLt _ rfl rfl rfl (fun h67 => ?_) (fun h67 => ?_)
          · refine En_Ps 5 (pc' := 62) (lv' := [(4, .int ((y30 + Int32.ofInt 1))), (3, .int y30), (2, .int z65), (5, .int z65), (0, .ref 159), (1, .int a)]) (st' := []) rfl ?_
            refine En_lv1 (addI rfl (by decide : (Int32.ofInt 1).toInt = 1) (by first | exact q_465ab79ac1 h37 | omega) (by first | exact q_f3f8e04381 h38 | omega)) (fun z68 h69 => ?_)
            refine En_Ps 1 (pc' := 26) (lv' := [(4, .int z68), (3, .int y30), (2, .int z65), (5, .int z65), (0, .ref 159), (1, .int a)]) (st' := []) rfl ?_
            refine En_lv (lv := [(0, .ref 159), (1, .int a), (2, .int z65), (3, .int y30), (4, .int z68)]) ⟨rfl, rfl, rfl, rfl, rfl, trivial⟩ ?_
            exact ih26 σ61 z65 y30 z68 h62 h66 ((h63 _ _ (inWa tgz_160 (by decide +kernel))).trans ((h53 _ _ (inWa tgz_160 (by decide +kernel))).trans h34)) (by first | exact q_5b439548fc h37 | omega) (by first | exact q_c15b485600 h58 h54.2.1 | omega) (by first | exact q_35104ce9d3 h69 h37 | omega) (by first | exact q_34dc714687 h69 h58 h54.2.1 | omega) (by first | exact q_2fedec469a h69 | omega) (by first | exact q_c5d740bdff h69 h40 | omega)
          · refine En_Ps 2 (pc' := 62) (lv' := [(4, .int ((y30 + Int32.ofInt 1))), (5, .int z65), (0, .ref 159), (1, .int a), (2, .int y28), (3, .int y29)]) (st' := []) rfl ?_
            refine En_lv1 (addI rfl (by decide : (Int32.ofInt 1).toInt = 1) (by first | exact q_465ab79ac1 h37 | omega) (by first | exact q_f3f8e04381 h38 | omega)) (fun z70 h71 => ?_)
            refine En_Ps 1 (pc' := 26) (lv' := [(4, .int z70), (5, .int z65), (0, .ref 159), (1, .int a), (2, .int y28), (3, .int y29)]) (st' := []) rfl ?_
            refine En_lv (lv := [(0, .ref 159), (1, .int a), (2, .int y28), (3, .int y29), (4, .int z70)]) ⟨rfl, rfl, rfl, rfl, rfl, trivial⟩ ?_
            exact ih26 σ61 y28 y29 z70 h62 h66 ((h63 _ _ (inWa tgz_160 (by decide +kernel))).trans ((h53 _ _ (inWa tgz_160 (by decide +kernel))).trans h34)) (by first | exact q_77b189e83d h35 | omega) (by first | exact q_5a4d8a7e08 h36 | omega) (by first | exact q_35104ce9d3 h71 h37 | omega) (by first | exact q_34dc714687 h71 h58 h54.2.1 | omega) (by first | exact q_6591527e3e h39 h71 | omega) (by first | exact q_c5d740bdff h71 h40 | omega)
    have := (by decide : (Int32.ofInt (-1)).toInt = -1)
    have := (by decide : (Int32.ofInt 0).toInt = 0)
    refine En_lv (lv := [(0, .ref 159), (1, .int a), (2, .int z26), (3, .int ((Int32.ofInt (-1)))), (4, .int ((Int32.ofInt 0)))]) ⟨rfl, rfl, rfl, rfl, rfl, trivial⟩ ?_
    exact key26 (Int.toNat (16) + 1) σ22 z26 ((Int32.ofInt (-1))) ((Int32.ofInt 0)) h23 h27 ((h24 _ _ (inWa tgz_160 (by decide +kernel))).trans ((h14 _ _ (inWa tgz_160 (by decide +kernel))).trans ((h5 _ _ (inWa tgz_160 (by decide +kernel))).trans h_nd))) (by decide) (by decide) (by decide) (by decide) (by omega) (by first | exact toN_lt _ | omega)
  · refine En_Ps 1 (pc' := 10) (lv' := [(0, .ref 159), (1, .int a)]) (st' := [.int (((Int8.ofInt (-2)).toInt32))]) rfl ?_
    refine En_top (by decide : ((Int8.ofInt (-2)).toInt32).toInt = -2) (fun z72 h73 => ?_)
    exact En_ret (v := some (.int z72)) rfl rfl rfl ⟨h4, h8, z72, rfl, ⟨by first | exact q_f35c5d346c h73 | omega, by first | exact q_12a74e12a3 h73 | omega, fun _ => by omega, fun _ => by omega, fun _ => by omega⟩⟩

