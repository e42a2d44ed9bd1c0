/-- DoorSchoolModel.isRight(II)Z -/
abbrev P_262 (σ0 : SG) (a : Int32) (b : Int32) : PO := fun v σ => WT σ ∧ Fr [] σ0 σ ∧ ∃ ret : Int32, v = some (.int ret) ∧ -ret.toInt ≤ 0 ∧ ret.toInt - 1 ≤ 0
set_option maxRecDepth 10000 in
set_option maxHeartbeats 4000000 in
theorem c_262 (σ0 : SG) (hσ0 : WT σ0) (a : Int32) (b : Int32) (hl_b : 0 ≤ b.toInt) (hu_b : b.toInt ≤ 11) : En 1 21 none mr_262 (P_262 σ0 a b) 0 [(0, .ref 159), (1, .int a), (2, .int b)] [] σ0 := by
  have hF0 : Fr [] σ0 σ0 := Fr_rfl
  refine En_Ps 2 (pc' := 2) (lv' := [(0, .ref 159), (1, .int a), (2, .int b)]) (st' := [.ref 159, .int a]) rfl ?_
  refine En_getU (j := 1) (u := 160) (g' := 36) (q := 0) rfl rfl rfl tgz_159 (by decide +kernel) hσ0 (by decide +kernel) (by decide +kernel) (fun h1 => ?_)
  refine En_Ps 4 (pc' := 10) (lv' := [(0, .ref 159), (1, .int a), (2, .int b)]) (st' := [.int ((((Int32.ofInt 2)) * b)), .int (((Int8.ofInt 122).toInt32)), .ref 160, .int a]) rfl ?_
  refine En_top (mulI (by decide : (Int32.ofInt 2).toInt = 2) rfl (Z := 2 * b.toInt) (by first | exact q_9c4c04fc55 | omega) (by first | exact q_1f719a6719 hl_b | omega) (by first | exact q_bf58a8e369 hu_b | omega)) (fun z3 h4 => ?_)
  refine En_Ps 1 (pc' := 11) (lv' := [(0, .ref 159), (1, .int a), (2, .int b)]) (st' := [.int (((((Int8.ofInt 122).toInt32)) + z3)), .ref 160, .int a]) rfl ?_
  refine En_top (addI (by decide : ((Int8.ofInt 122).toInt32).toInt = 122) rfl (by first | exact q_db5ae3ba43 h4 hl_b | omega) (by first | exact q_980499a3f7 h4 hu_b | omega)) (fun z5 h6 => ?_)
  refine En_iald (l := 0) (u := 15) rfl rfl tgz_160 (by decide +kernel) hσ0 (by first | exact q_64d61ee948 h6 h4 hl_b | omega) (lnI (by decide +kernel : LN _ = 226) (by first | exact q_9195ce1bbe h6 h4 hu_b | omega)) (FTrow 36 122 2 12 (by decide +kernel) (by first | exact q_0f5bf67c96 h6 h4 hl_b | omega) (by first | exact q_7afdcc2125 h6 h4 hu_b | omega) (by first | exact q_996e6edde7 h4 h6 | omega)) (fun z8 h7 h9 h10 => ?_)
  refine En_callS rfl rfl rfl rfl rfl rfl rfl rfl rfl (c_202b σ0 hσ0 a z8) (by decide) (by decide) (fun v12 σ13 h11 => ?_)
  obtain ⟨h14, h15, z17, rfl, h16⟩ := h11
  have h18 := Fr_trans hF0 h15 (by decide +kernel)
  refine En_Ps 1 (pc' := 16) (lv' := [(0, .ref 159), (1, .int a), (2, .int b)]) (st' := [.ref 159, .int z17]) rfl ?_
  refine En_getK (j := 1) ((h15 _ _ (inW tgz_159 (by decide +kernel))).trans h1) rfl rfl rfl tgz_159 (by decide +kernel) ?_
  refine En_Ps 4 (pc' := 24) (lv' := [(0, .ref 159), (1, .int a), (2, .int b)]) (st' := [.int ((((Int32.ofInt 2)) * b)), .int (((Int8.ofInt 122).toInt32)), .ref 160, .int z17]) rfl ?_
  refine En_top (mulI (by decide : (Int32.ofInt 2).toInt = 2) rfl (Z := 2 * b.toInt) (by first | exact q_9c4c04fc55 | omega) (by first | exact q_1f719a6719 hl_b | omega) (by first | exact q_bf58a8e369 hu_b | omega)) (fun z19 h20 => ?_)
  refine En_Ps 1 (pc' := 25) (lv' := [(0, .ref 159), (1, .int a), (2, .int b)]) (st' := [.int (((((Int8.ofInt 122).toInt32)) + z19)), .ref 160, .int z17]) rfl ?_
  refine En_top (addI (by decide : ((Int8.ofInt 122).toInt32).toInt = 122) rfl (by first | exact q_db5ae3ba43 h20 hl_b | omega) (by first | exact q_980499a3f7 h20 hu_b | omega)) (fun z21 h22 => ?_)
  refine En_Ps 2 (pc' := 27) (lv' := [(0, .ref 159), (1, .int a), (2, .int b)]) (st' := [.int ((z21 + ((Int32.ofInt 1)))), .ref 160, .int z17]) rfl ?_
  refine En_top (addI rfl (by decide : (Int32.ofInt 1).toInt = 1) (by first | exact q_e5430b869d h22 h20 hl_b | omega) (by first | exact q_15a2e70db3 h22 h20 hu_b | omega)) (fun z23 h24 => ?_)
  refine En_iald (l := 0) (u := 1) rfl rfl tgz_160 (by decide +kernel) h14 (by first | exact q_a542ff144c h24 h22 h20 hl_b | omega) (lnI (by decide +kernel : LN _ = 226) (by first | exact q_cac7faa38b h24 h22 h20 hu_b | omega)) (FTrow 36 123 2 12 (by decide +kernel) (by first | exact q_5a03b0472f h24 h22 h20 hl_b | omega) (by first | exact q_0f8d1348a3 h24 h22 h20 hu_b | omega) (by first | exact q_4529a0017e h20 h22 h24 | omega)) (fun z26 h25 h27 h28 => ?_)
  refine En_icNe _ rfl rfl rfl (fun h29 => ?_) (fun h29 => ?_)
  · refine En_Ps 1 (pc' := 36) (lv' := [(0, .ref 159), (1, .int a), (2, .int b)]) (st' := [.int ((Int32.ofInt 0))]) rfl ?_
    refine En_top (by decide : (Int32.ofInt 0).toInt = 0) (fun z30 h31 => ?_)
    exact En_ret (v := some (.int z30)) rfl rfl (retZ rfl rfl (by first | exact q_55451d0a83 h31 | omega) (by first | exact q_87849c3859 h31 | omega)) ⟨h14, h18, z30, rfl, ⟨by first | exact q_097a37c2ae h31 | omega, by first | exact q_e269517bee h31 | omega⟩⟩
  · refine En_Ps 2 (pc' := 36) (lv' := [(0, .ref 159), (1, .int a), (2, .int b)]) (st' := [.int ((Int32.ofInt 1))]) rfl ?_
    refine En_top (by decide : (Int32.ofInt 1).toInt = 1) (fun z32 h33 => ?_)
    exact En_ret (v := some (.int z32)) rfl rfl (retZ rfl rfl (by first | exact q_2b07c97645 h33 | omega) (by first | exact q_d9e7cbb253 h33 | omega)) ⟨h14, h18, z32, rfl, ⟨by first | exact q_ad3eee31ca h33 | omega, by first | exact q_81cf297dc4 h33 | omega⟩⟩
/-- DoorSchoolModel.marksBy(I)I -/
abbrev P_283 (σ0 : SG) (a : Int32) : PO := fun v σ => WT σ ∧ Fr [] σ0 σ ∧ ∃ ret : Int32, v = some (.int ret) ∧ -ret.toInt ≤ 0 ∧ ret.toInt - 13 ≤ 0
set_option maxRecDepth 10000 in
set_option maxHeartbeats 4000000 in
theorem c_283 (σ0 : SG) (hσ0 : WT σ0) (a : Int32) : En 2 43 none mr_283 (P_283 σ0 a) 0 [(0, .ref 159), (1, .int a)] [] σ0 := by
  have hF0 : Fr [] σ0 σ0 := Fr_rfl
  refine En_Ps 4 (pc' := 4) (lv' := [(3, .int ((Int32.ofInt 0))), (2, .int ((Int32.ofInt 0))), (0, .ref 159), (1, .int a)]) (st' := []) rfl ?_
  have key4 : ∀ (n4 : Nat) (σ3 : SG) (y1 : Int32) (y2 : Int32), WT σ3 → Fr [] σ0 σ3 → 0 ≤ y1.toInt → y1.toInt ≤ 13 → 0 ≤ y2.toInt → y2.toInt ≤ 13 → y1.toInt - y2.toInt ≤ 0 → -y2.toInt + 13 < (n4 : Int) → En 2 43 none mr_283 (P_283 σ0 a) 4 [(0, .ref 159), (1, .int a), (2, .int y1), (3, .int y2)] [] σ3 := by
    intro n4
    induction n4 with
    | zero =>
      intro σ3 y1 y2 h4 h5 h6 h7 h8 h9 h10 h11
      first | exact (q_5583ec5aac h11 h9).elim | (exfalso; omega)
    | succ n4 ih4 =>
      intro σ3 y1 y2 h4 h5 h6 h7 h8 h9 h10 h11
      refine En_Ps 2 (pc' := 6) (lv' := [(0, .ref 159), (1, .int a), (2, .int y1), (3, .int y2)]) (st' := [.ref 159, .int y2]) rfl ?_
      refine En_getU (j := 1) (u := 160) (g' := 36) (q := 0) rfl rfl rfl tgz_159 (by decide +kernel) h4 (by decide +kernel) (by decide +kernel) (fun h12 => ?_)
      refine En_Ps 1 (pc' := 10) (lv' := [(0, .ref 159), (1, .int a), (2, .int y1), (3, .int y2)]) (st' := [.int ((Int32.ofInt 3)), .ref 160, .int y2]) rfl ?_
      refine En_iald (l := 0) (u := 12) rfl (by decide : (Int32.ofInt 3).toInt = 3) tgz_160 (by decide +kernel) h4 (by decide) (lnI (by decide +kernel : LN _ = 226) (by decide)) (by decide +kernel) (fun z15 h14 h16 h17 => ?_)
      refine En_icGe _ rfl rfl rfl (fun h18 => ?_) (fun h18 => ?_)
      · refine En_Ps 1 (pc' := 38) (lv' := [(0, .ref 159), (1, .int a), (2, .int y1), (3, .int y2)]) (st' := [.int y1]) rfl ?_
        exact En_ret (v := some (.int y1)) rfl rfl rfl ⟨h4, h5, y1, rfl, ⟨by first | exact q_c803b490ef h6 | omega, by first | exact q_5fe2809411 h7 | omega⟩⟩
      · refine En_Ps 4 (pc' := 18) (lv' := [(0, .ref 159), (1, .int a), (2, .int y1), (3, .int y2)]) (st' := [.int y2, .int a, .ref 159, .int y1]) rfl ?_
        refine En_callV rfl rfl rfl rfl rfl rfl rfl rfl tgz_159 (by decide +kernel) rfl (c_262 σ3 h4 a y2 (geI rfl (by first | exact q_58e6e51dcc h8 | omega)) (leI rfl (by first | exact q_a30ae353ab h18 h17 | omega))) (by decide) (by decide) (fun v20 σ21 h19 => ?_)
        obtain ⟨h22, h23, z25, rfl, h24⟩ := h19
        have h26 := Fr_trans h5 h23 (by decide +kernel)
        refine En_iEq _ rfl rfl (fun h27 => ?_) (fun h27 => ?_)
        · refine En_Ps 2 (pc' := 30) (lv' := [(0, .ref 159), (1, .int a), (2, .int y1), (3, .int y2)]) (st' := [.int ((y1 + ((Int32.ofInt 0))))]) rfl ?_
          refine En_top (addI rfl (by decide : (Int32.ofInt 0).toInt = 0) (by first | exact q_2f569dfca1 h6 | omega) (by first | exact q_8ee35fe012 h7 | omega)) (fun z28 h29 => ?_)
          refine En_Ps 2 (pc' := 34) (lv' := [(3, .int ((y2 + Int32.ofInt 1))), (2, .int z28), (0, .ref 159), (1, .int a)]) (st' := []) rfl ?_
          refine En_lv1 (addI rfl (by decide : (Int32.ofInt 1).toInt = 1) (by first | exact q_465ab79ac1 h8 | omega) (by first | exact q_d22f73d43b h9 | omega)) (fun z30 h31 => ?_)
          refine En_Ps 1 (pc' := 4) (lv' := [(3, .int z30), (2, .int z28), (0, .ref 159), (1, .int a)]) (st' := []) rfl ?_
          refine En_lv (lv := [(0, .ref 159), (1, .int a), (2, .int z28), (3, .int z30)]) ⟨rfl, rfl, rfl, rfl, trivial⟩ ?_
          exact ih4 σ21 z28 z30 h22 h26 (by first | exact q_771c4e5138 h29 h6 | omega) (by first | exact q_b02ac9e014 h29 h7 | omega) (by first | exact q_35104ce9d3 h31 h8 | omega) (by first | exact q_612d48f5a1 h31 h18 h17 | omega) (by first | exact q_969c4fd5e6 h29 h31 h10 | omega) (by first | exact q_20fedeb4b2 h31 h11 | omega)
        · refine En_Ps 3 (pc' := 30) (lv' := [(0, .ref 159), (1, .int a), (2, .int y1), (3, .int y2)]) (st' := [.int ((y1 + ((Int32.ofInt 1))))]) rfl ?_
          refine En_top (addI rfl (by decide : (Int32.ofInt 1).toInt = 1) (by first | exact q_465ab79ac1 h6 | omega) (by first | exact q_d22f73d43b h7 | omega)) (fun z32 h33 => ?_)
          refine En_Ps 2 (pc' := 34) (lv' := [(3, .int ((y2 + Int32.ofInt 1))), (2, .int z32), (0, .ref 159), (1, .int a)]) (st' := []) rfl ?_
          refine En_lv1 (addI rfl (by decide : (Int32.ofInt 1).toInt = 1) (by first | exact q_465ab79ac1 h8 | omega) (by first | exact q_d22f73d43b h9 | omega)) (fun z34 h35 => ?_)
          refine En_Ps 1 (pc' := 4) (lv' := [(3, .int z34), (2, .int z32), (0, .ref 159), (1, .int a)]) (st' := []) rfl ?_
          refine En_lv (lv := [(0, .ref 159), (1, .int a), (2, .int z32), (3, .int z34)]) ⟨rfl, rfl, rfl, rfl, trivial⟩ ?_
          exact ih4 σ21 z32 z34 h22 h26 (by first | exact q_35104ce9d3 h33 h6 | omega) (by first | exact q_df44af06dd h33 h10 h18 h17 | omega) (by first | exact q_35104ce9d3 h35 h8 | omega) (by first | exact q_612d48f5a1 h35 h18 h17 | omega) (by first | exact q_1ff421e7a2 h33 h35 h10 | omega) (by first | exact q_20fedeb4b2 h35 h11 | omega)
  have := (by decide : (Int32.ofInt 0).toInt = 0)
  have := (by decide : (Int32.ofInt 0).toInt = 0)
  refine En_lv (lv := [(0, .ref 159), (1, .int a), (2, .int ((Int32.ofInt 0))), (3, .int ((Int32.ofInt 0)))]) ⟨rfl, rfl, rfl, rfl, trivial⟩ ?_
  exact key4 (Int.toNat (13) + 1) σ0 ((Int32.ofInt 0)) ((Int32.ofInt 0)) hσ0 hF0 (by decide) (by decide) (by decide) (by decide) (by omega) (by first | exact toN_lt _ | omega)
/-- DoorSchoolModel.best()I -/
abbrev P_201 (σ0 : SG) : PO := fun v σ => WT σ ∧ Fr [(35, 18), (35, 21), (42, 0), (43, 0), (44, 0), (45, 0), (46, 0)] σ0 σ ∧ ∃ ret : Int32, v = some (.int ret) ∧ -ret.toInt - 2 ≤ 0 ∧ ret.toInt - 3 ≤ 0
set_option maxRecDepth 10000 in
set_option maxHeartbeats 4000000 in
theorem c_201 (σ0 : SG) (hσ0 : WT σ0) : En 5 112 none mr_201 (P_201 σ0) 0 [(0, .ref 159)] [] σ0 := by
  have hF0 : Fr [(35, 18), (35, 21), (42, 0), (43, 0), (44, 0), (45, 0), (46, 0)] σ0 σ0 := Fr_rfl
  refine En_Ps 1 (pc' := 1) (lv' := [(0, .ref 159)]) (st' := [.ref 159]) rfl ?_
  obtain ⟨z2, h1, h3, h4⟩ := WT_peekI hσ0 tgz_160 (by decide +kernel : FT 36 (7 : Int).toNat = (0, 0, 1600)) (by decide +kernel)
  refine En_callV rfl rfl rfl rfl rfl rfl rfl rfl tgz_159 (by decide +kernel) rfl (c_264 σ0 hσ0 z2 h1) (by decide) (by decide) (fun v6 σ7 h5 => ?_)
  obtain ⟨h8, h9, z11, rfl, h10⟩ := h5
  have h12 := Fr_trans hF0 h9 (by decide +kernel)
  refine En_iNe _ rfl rfl (fun h13 => ?_) (fun h13 => ?_)
  · refine En_Ps 4 (pc' := 14) (lv' := [(2, .int ((Int32.ofInt 0))), (1, .int ((Int32.ofInt (-1)))), (0, .ref 159)]) (st' := []) rfl ?_
    have key14 : ∀ (n14 : Nat) (σ16 : SG) (y14 : Int32) (y15 : Int32), WT σ16 → Fr [(35, 18), (35, 21), (42, 0), (43, 0), (44, 0), (45, 0), (46, 0)] σ0 σ16 → (σ16 160)[(7 : Int).toNat]? = some (.int z2) → (-1) ≤ y14.toInt → y14.toInt ≤ 3 → 0 ≤ y15.toInt → y15.toInt ≤ 4 → y14.toInt - y15.toInt + 1 ≤ 0 → -y15.toInt + 4 < (n14 : Int) → En 5 112 none mr_201 (P_201 σ0) 14 [(0, .ref 159), (1, .int y14), (2, .int y15)] [] σ16 := by
      intro n14
      induction n14 with
      | zero =>
        intro σ16 y14 y15 h17 h18 h19 h20 h21 h22 h23 h24 h25
        first | exact (q_20d6385c6f h25 h23).elim | (exfalso; omega)
      | succ n14 ih14 =>
        intro σ16 y14 y15 h17 h18 h19 h20 h21 h22 h23 h24 h25
        refine En_Ps 2 (pc' := 16) (lv' := [(0, .ref 159), (1, .int y14), (2, .int y15)]) (st' := [.ref 159, .int y15]) rfl ?_
        refine En_getU (j := 1) (u := 160) (g' := 36) (q := 0) rfl rfl rfl tgz_159 (by decide +kernel) h17 (by decide +kernel) (by decide +kernel) (fun h26 => ?_)
        refine En_Ps 1 (pc' := 20) (lv' := [(0, .ref 159), (1, .int y14), (2, .int y15)]) (st' := [.int ((Int32.ofInt 2)), .ref 160, .int y15]) rfl ?_
        refine En_iald (l := 0) (u := 4) rfl (by decide : (Int32.ofInt 2).toInt = 2) tgz_160 (by decide +kernel) h17 (by decide) (lnI (by decide +kernel : LN _ = 226) (by decide)) (by decide +kernel) (fun z29 h28 h30 h31 => ?_)
        refine En_icGe _ rfl rfl rfl (fun h32 => ?_) (fun h32 => ?_)
        · refine En_Ps 1 (pc' := 59) (lv' := [(0, .ref 159), (1, .int y14), (2, .int y15)]) (st' := [.int y14]) rfl ?_
          exact En_ret (v := some (.int y14)) rfl rfl rfl ⟨h17, h18, y14, rfl, ⟨by first | exact q_fe58cd40d0 h20 | omega, by first | exact q_e9a8eec0c4 h21 | omega⟩⟩
        · refine En_Ps 2 (pc' := 26) (lv' := [(0, .ref 159), (1, .int y14), (2, .int y15)]) (st' := [.int ((Int32.ofInt (-1))), .int y14]) rfl ?_
          refine En_icEq _ rfl (by decide : (Int32.ofInt (-1)).toInt = -1) rfl (fun h33 => ?_) (fun h33 => ?_)
          · refine En_Ps 3 (pc' := 55) (lv' := [(2, .int ((y15 + Int32.ofInt 1))), (1, .int y15), (0, .ref 159)]) (st' := []) rfl ?_
            refine En_lv1 (addI rfl (by decide : (Int32.ofInt 1).toInt = 1) (by first | exact q_465ab79ac1 h22 | omega) (by first | exact q_f7282962fd h23 | omega)) (fun z34 h35 => ?_)
            refine En_Ps 1 (pc' := 14) (lv' := [(2, .int z34), (1, .int y15), (0, .ref 159)]) (st' := []) rfl ?_
            refine En_lv (lv := [(0, .ref 159), (1, .int y15), (2, .int z34)]) ⟨rfl, rfl, rfl, trivial⟩ ?_
            exact ih14 σ16 y15 z34 h17 h18 h19 (by first | exact q_5b439548fc h22 | omega) (by first | exact q_5ab2e90ecc h32 h31 | omega) (by first | exact q_35104ce9d3 h35 h22 | omega) (by first | exact q_de42116b63 h35 h32 h31 | omega) (by first | exact q_2fedec469a h35 | omega) (by first | exact q_3d8d70ace2 h35 h25 | omega)
          · refine En_Ps 3 (pc' := 32) (lv' := [(0, .ref 159), (1, .int y14), (2, .int y15)]) (st' := [.int y15, .ref 159, .ref 159]) rfl ?_
            refine En_callV rfl rfl rfl rfl rfl rfl rfl rfl tgz_159 (by decide +kernel) rfl (c_213 σ16 h17 y15 (geI rfl (by first | exact q_58e6e51dcc h22 | omega)) (leI rfl (by first | exact q_5ab2e90ecc h32 h31 | omega))) (by decide) (by decide) (fun v37 σ38 h36 => ?_)
            obtain ⟨h39, h40, z42, h43, z44, rfl, h41⟩ := h36
            have h45 := Fr_trans h18 h40 (by decide +kernel)
            refine En_callV rfl rfl rfl rfl rfl rfl rfl rfl tgz_159 (by decide +kernel) rfl (c_283 σ38 h39 z44) (by decide) (by decide) (fun v47 σ48 h46 => ?_)
            obtain ⟨h49, h50, z52, rfl, h51⟩ := h46
            have h53 := Fr_trans h45 h50 (by decide +kernel)
            refine En_Ps 3 (pc' := 41) (lv' := [(0, .ref 159), (1, .int y14), (2, .int y15)]) (st' := [.int y14, .ref 159, .ref 159, .int z52]) rfl ?_
            refine En_callV rfl rfl rfl rfl rfl rfl rfl rfl tgz_159 (by decide +kernel) rfl (c_213 σ48 h49 y14 (geI rfl (by first | exact q_eab05c2344 h33 h20 | omega)) (leI rfl (by first | exact q_da5e9b976f h21 | omega))) (by decide) (by decide) (fun v55 σ56 h54 => ?_)
            obtain ⟨h57, h58, z60, h61, z62, rfl, h59⟩ := h54
            have h63 := Fr_trans h53 h58 (by decide +kernel)
            refine En_callV rfl rfl rfl rfl rfl rfl rfl rfl tgz_159 (by decide +kernel) rfl (c_283 σ56 h57 z62) (by decide) (by decide) (fun v65 σ66 h64 => ?_)
            obtain ⟨h67, h68, z70, rfl, h69⟩ := h64
            have h71 := Fr_trans h63 h68 (by decide +kernel)
            refine En_icLe _ rfl rfl rfl (fun h72 => ?_) (fun h72 => ?_)
            · refine En_Ps 1 (pc' := 55) (lv' := [(2, .int ((y15 + Int32.ofInt 1))), (0, .ref 159), (1, .int y14)]) (st' := []) rfl ?_
              refine En_lv1 (addI rfl (by decide : (Int32.ofInt 1).toInt = 1) (by first | exact q_465ab79ac1 h22 | omega) (by first | exact q_f7282962fd h23 | omega)) (fun z73 h74 => ?_)
              refine En_Ps 1 (pc' := 14) (lv' := [(2, .int z73), (0, .ref 159), (1, .int y14)]) (st' := []) rfl ?_
              refine En_lv (lv := [(0, .ref 159), (1, .int y14), (2, .int z73)]) ⟨rfl, rfl, rfl, trivial⟩ ?_
              exact ih14 σ66 y14 z73 h67 h71 ((h68 _ _ (inWa tgz_160 (by decide +kernel))).trans ((h58 _ _ (inWa tgz_160 (by decide +kernel))).trans ((h50 _ _ (inWa tgz_160 (by decide +kernel))).trans ((h40 _ _ (inWa tgz_160 (by decide +kernel))).trans h19)))) (by first | exact q_8d1c67ec40 h33 h20 | omega) (by first | exact q_da5e9b976f h21 | omega) (by first | exact q_35104ce9d3 h74 h22 | omega) (by first | exact q_de42116b63 h74 h32 h31 | omega) (by first | exact q_6591527e3e h24 h74 | omega) (by first | exact q_3d8d70ace2 h74 h25 | omega)
            · refine En_Ps 3 (pc' := 55) (lv' := [(2, .int ((y15 + Int32.ofInt 1))), (1, .int y15), (0, .ref 159)]) (st' := []) rfl ?_
              refine En_lv1 (addI rfl (by decide : (Int32.ofInt 1).toInt = 1) (by first | exact q_465ab79ac1 h22 | omega) (by first | exact q_f7282962fd h23 | omega)) (fun z75 h76 => ?_)
              refine En_Ps 1 (pc' := 14) (lv' := [(2, .int z75), (1, .int y15), (0, .ref 159)]) (st' := []) rfl ?_
              refine En_lv (lv := [(0, .ref 159), (1, .int y15), (2, .int z75)]) ⟨rfl, rfl, rfl, trivial⟩ ?_
              exact ih14 σ66 y15 z75 h67 h71 ((h68 _ _ (inWa tgz_160 (by decide +kernel))).trans ((h58 _ _ (inWa tgz_160 (by decide +kernel))).trans ((h50 _ _ (inWa tgz_160 (by decide +kernel))).trans ((h40 _ _ (inWa tgz_160 (by decide +kernel))).trans h19)))) (by first | exact q_5b439548fc h22 | omega) (by first | exact q_5ab2e90ecc h32 h31 | omega) (by first | exact q_35104ce9d3 h76 h22 | omega) (by first | exact q_de42116b63 h76 h32 h31 | omega) (by first | exact q_2fedec469a h76 | omega) (by first | exact q_3d8d70ace2 h76 h25 | omega)
    have := (by decide : (Int32.ofInt (-1)).toInt = -1)
    have := (by decide : (Int32.ofInt 0).toInt = 0)
    refine En_lv (lv := [(0, .ref 159), (1, .int ((Int32.ofInt (-1)))), (2, .int ((Int32.ofInt 0)))]) ⟨rfl, rfl, rfl, trivial⟩ ?_
    exact key14 (Int.toNat (4) + 1) σ7 ((Int32.ofInt (-1))) ((Int32.ofInt 0)) h8 h12 ((h9 _ _ (inWa tgz_160 (by decide +kernel))).trans h1) (by decide) (by decide) (by decide) (by decide) (by omega) (by first | exact toN_lt _ | omega)
  · refine En_Ps 1 (pc' := 9) (lv' := [(0, .ref 159)]) (st' := [.int (((Int8.ofInt (-2)).toInt32))]) rfl ?_
    refine En_top (by decide : ((Int8.ofInt (-2)).toInt32).toInt = -2) (fun z77 h78 => ?_)
    exact En_ret (v := some (.int z77)) rfl rfl rfl ⟨h8, h12, z77, rfl, ⟨by first | exact q_f35c5d346c h78 | omega, by first | exact q_09eb541a79 h78 | omega⟩⟩
/-- DoorSchoolModel.count(I)I -/
abbrev P_206 (σ0 : SG) (a : Int32) : PO := fun v σ => WT σ ∧ Fr [] σ0 σ ∧ ∃ ret : Int32, v = some (.int ret) ∧ -ret.toInt - 1 ≤ 0 ∧ ret.toInt - 1600 ≤ 0
set_option maxRecDepth 10000 in
set_option maxHeartbeats 4000000 in
theorem c_206 (σ0 : SG) (hσ0 : WT σ0) (a : Int32) : En 0 0 none mr_206 (P_206 σ0 a) 0 [(0, .ref 159), (1, .int a)] [] σ0 := by
  have hF0 : Fr [] σ0 σ0 := Fr_rfl
  refine En_Ps 3 (pc' := 3) (lv' := [(2, .int ((Int32.ofInt 0))), (0, .ref 159), (1, .int a)]) (st' := [.int a]) rfl ?_
  rcases (show a.toInt = 0 ∨ a.toInt = 1 ∨ a.toInt = 2 ∨ a.toInt = 3 ∨ a.toInt = 4 ∨ a.toInt = 5 ∨ a.toInt = 6 ∨ a.toInt = 7 ∨ a.toInt = 8 ∨ a.toInt = 9 ∨ a.toInt < 0 ∨ 9 < a.toInt by omega) with h1 | h1 | h1 | h1 | h1 | h1 | h1 | h1 | h1 | h1 | h1 | h1
  · refine En_swI (t := 56) (n := 0) rfl h1 rfl (by decide +kernel) ?_
    refine En_Ps 1 (pc' := 57) (lv' := [(2, .int ((Int32.ofInt 0))), (0, .ref 159), (1, .int a)]) (st' := [.ref 159]) rfl ?_
    refine En_getU (j := 1) (u := 160) (g' := 36) (q := 0) rfl rfl rfl tgz_159 (by decide +kernel) hσ0 (by decide +kernel) (by decide +kernel) (fun h2 => ?_)
    refine En_Ps 1 (pc' := 61) (lv' := [(2, .int ((Int32.ofInt 0))), (0, .ref 159), (1, .int a)]) (st' := [.int ((Int32.ofInt 0)), .ref 160]) rfl ?_
    refine En_iald (l := 0) (u := 4) rfl (by decide : (Int32.ofInt 0).toInt = 0) tgz_160 (by decide +kernel) hσ0 (by decide) (lnI (by decide +kernel : LN _ = 226) (by decide)) (by decide +kernel) (fun z5 h4 h6 h7 => ?_)
    exact En_ret (v := some (.int z5)) rfl rfl rfl ⟨hσ0, hF0, z5, rfl, ⟨by first | exact q_565e7b05df h6 | omega, by first | exact q_9297e6e4ff h7 | omega⟩⟩
  · refine En_swI (t := 63) (n := 1) rfl h1 rfl (by decide +kernel) ?_
    refine En_Ps 1 (pc' := 64) (lv' := [(2, .int ((Int32.ofInt 0))), (0, .ref 159), (1, .int a)]) (st' := [.ref 159]) rfl ?_
    refine En_getU (j := 1) (u := 160) (g' := 36) (q := 0) rfl rfl rfl tgz_159 (by decide +kernel) hσ0 (by decide +kernel) (by decide +kernel) (fun h8 => ?_)
    refine En_Ps 1 (pc' := 68) (lv' := [(2, .int ((Int32.ofInt 0))), (0, .ref 159), (1, .int a)]) (st' := [.int ((Int32.ofInt 1)), .ref 160]) rfl ?_
    refine En_iald (l := 0) (u := 3) rfl (by decide : (Int32.ofInt 1).toInt = 1) tgz_160 (by decide +kernel) hσ0 (by decide) (lnI (by decide +kernel : LN _ = 226) (by decide)) (by decide +kernel) (fun z11 h10 h12 h13 => ?_)
    exact En_ret (v := some (.int z11)) rfl rfl rfl ⟨hσ0, hF0, z11, rfl, ⟨by first | exact q_565e7b05df h12 | omega, by first | exact q_d82ac32af9 h13 | omega⟩⟩
  · refine En_swI (t := 70) (n := 2) rfl h1 rfl (by decide +kernel) ?_
    refine En_Ps 1 (pc' := 71) (lv' := [(2, .int ((Int32.ofInt 0))), (0, .ref 159), (1, .int a)]) (st' := [.ref 159]) rfl ?_
    refine En_getU (j := 1) (u := 160) (g' := 36) (q := 0) rfl rfl rfl tgz_159 (by decide +kernel) hσ0 (by decide +kernel) (by decide +kernel) (fun h14 => ?_)
    refine En_Ps 1 (pc' := 75) (lv' := [(2, .int ((Int32.ofInt 0))), (0, .ref 159), (1, .int a)]) (st' := [.int ((Int32.ofInt 2)), .ref 160]) rfl ?_
    refine En_iald (l := 0) (u := 4) rfl (by decide : (Int32.ofInt 2).toInt = 2) tgz_160 (by decide +kernel) hσ0 (by decide) (lnI (by decide +kernel : LN _ = 226) (by decide)) (by decide +kernel) (fun z17 h16 h18 h19 => ?_)
    exact En_ret (v := some (.int z17)) rfl rfl rfl ⟨hσ0, hF0, z17, rfl, ⟨by first | exact q_565e7b05df h18 | omega, by first | exact q_9297e6e4ff h19 | omega⟩⟩
  · refine En_swI (t := 77) (n := 3) rfl h1 rfl (by decide +kernel) ?_
    refine En_Ps 1 (pc' := 78) (lv' := [(2, .int ((Int32.ofInt 0))), (0, .ref 159), (1, .int a)]) (st' := [.ref 159]) rfl ?_
    refine En_getU (j := 1) (u := 160) (g' := 36) (q := 0) rfl rfl rfl tgz_159 (by decide +kernel) hσ0 (by decide +kernel) (by decide +kernel) (fun h20 => ?_)
    refine En_Ps 1 (pc' := 82) (lv' := [(2, .int ((Int32.ofInt 0))), (0, .ref 159), (1, .int a)]) (st' := [.int ((Int32.ofInt 3)), .ref 160]) rfl ?_
    refine En_iald (l := 0) (u := 12) rfl (by decide : (Int32.ofInt 3).toInt = 3) tgz_160 (by decide +kernel) hσ0 (by decide) (lnI (by decide +kernel : LN _ = 226) (by decide)) (by decide +kernel) (fun z23 h22 h24 h25 => ?_)
    exact En_ret (v := some (.int z23)) rfl rfl rfl ⟨hσ0, hF0, z23, rfl, ⟨by first | exact q_565e7b05df h24 | omega, by first | exact q_b77617e4d6 h25 | omega⟩⟩
  · refine En_swI (t := 84) (n := 4) rfl h1 rfl (by decide +kernel) ?_
    refine En_Ps 1 (pc' := 85) (lv' := [(2, .int ((Int32.ofInt 0))), (0, .ref 159), (1, .int a)]) (st' := [.ref 159]) rfl ?_
    refine En_getU (j := 1) (u := 160) (g' := 36) (q := 0) rfl rfl rfl tgz_159 (by decide +kernel) hσ0 (by decide +kernel) (by decide +kernel) (fun h26 => ?_)
    refine En_Ps 1 (pc' := 89) (lv' := [(2, .int ((Int32.ofInt 0))), (0, .ref 159), (1, .int a)]) (st' := [.int ((Int32.ofInt 4)), .ref 160]) rfl ?_
    refine En_iald (l := 0) (u := 4) rfl (by decide : (Int32.ofInt 4).toInt = 4) tgz_160 (by decide +kernel) hσ0 (by decide) (lnI (by decide +kernel : LN _ = 226) (by decide)) (by decide +kernel) (fun z29 h28 h30 h31 => ?_)
    exact En_ret (v := some (.int z29)) rfl rfl rfl ⟨hσ0, hF0, z29, rfl, ⟨by first | exact q_565e7b05df h30 | omega, by first | exact q_9297e6e4ff h31 | omega⟩⟩
  · refine En_swI (t := 91) (n := 5) rfl h1 rfl (by decide +kernel) ?_
    refine En_Ps 1 (pc' := 92) (lv' := [(2, .int ((Int32.ofInt 0))), (0, .ref 159), (1, .int a)]) (st' := [.ref 159]) rfl ?_
    refine En_getU (j := 1) (u := 160) (g' := 36) (q := 0) rfl rfl rfl tgz_159 (by decide +kernel) hσ0 (by decide +kernel) (by decide +kernel) (fun h32 => ?_)
    refine En_Ps 1 (pc' := 96) (lv' := [(2, .int ((Int32.ofInt 0))), (0, .ref 159), (1, .int a)]) (st' := [.int ((Int32.ofInt 5)), .ref 160]) rfl ?_
    refine En_iald (l := 0) (u := 6) rfl (by decide : (Int32.ofInt 5).toInt = 5) tgz_160 (by decide +kernel) hσ0 (by decide) (lnI (by decide +kernel : LN _ = 226) (by decide)) (by decide +kernel) (fun z35 h34 h36 h37 => ?_)
    exact En_ret (v := some (.int z35)) rfl rfl rfl ⟨hσ0, hF0, z35, rfl, ⟨by first | exact q_565e7b05df h36 | omega, by first | exact q_378281995a h37 | omega⟩⟩
  · refine En_swI (t := 98) (n := 6) rfl h1 rfl (by decide +kernel) ?_
    refine En_Ps 1 (pc' := 99) (lv' := [(2, .int ((Int32.ofInt 0))), (0, .ref 159), (1, .int a)]) (st' := [.ref 159]) rfl ?_
    refine En_getU (j := 1) (u := 160) (g' := 36) (q := 0) rfl rfl rfl tgz_159 (by decide +kernel) hσ0 (by decide +kernel) (by decide +kernel) (fun h38 => ?_)
    refine En_Ps 1 (pc' := 104) (lv' := [(2, .int ((Int32.ofInt 0))), (0, .ref 159), (1, .int a)]) (st' := [.int (((Int8.ofInt 6).toInt32)), .ref 160]) rfl ?_
    refine En_iald (l := 0) (u := 60) rfl (by decide : ((Int8.ofInt 6).toInt32).toInt = 6) tgz_160 (by decide +kernel) hσ0 (by decide) (lnI (by decide +kernel : LN _ = 226) (by decide)) (by decide +kernel) (fun z41 h40 h42 h43 => ?_)
    exact En_ret (v := some (.int z41)) rfl rfl rfl ⟨hσ0, hF0, z41, rfl, ⟨by first | exact q_565e7b05df h42 | omega, by first | exact q_b10e199e76 h43 | omega⟩⟩
  · refine En_swI (t := 106) (n := 7) rfl h1 rfl (by decide +kernel) ?_
    refine En_Ps 1 (pc' := 107) (lv' := [(2, .int ((Int32.ofInt 0))), (0, .ref 159), (1, .int a)]) (st' := [.ref 159]) rfl ?_
    refine En_getU (j := 1) (u := 160) (g' := 36) (q := 0) rfl rfl rfl tgz_159 (by decide +kernel) hσ0 (by decide +kernel) (by decide +kernel) (fun h44 => ?_)
    refine En_Ps 1 (pc' := 112) (lv' := [(2, .int ((Int32.ofInt 0))), (0, .ref 159), (1, .int a)]) (st' := [.int (((Int8.ofInt 7).toInt32)), .ref 160]) rfl ?_
    refine En_iald (l := 0) (u := 1600) rfl (by decide : ((Int8.ofInt 7).toInt32).toInt = 7) tgz_160 (by decide +kernel) hσ0 (by decide) (lnI (by decide +kernel : LN _ = 226) (by decide)) (by decide +kernel) (fun z47 h46 h48 h49 => ?_)
    exact En_ret (v := some (.int z47)) rfl rfl rfl ⟨hσ0, hF0, z47, rfl, ⟨by first | exact q_565e7b05df h48 | omega, by first | exact q_5a08281576 h49 | omega⟩⟩
  · refine En_swI (t := 114) (n := 8) rfl h1 rfl (by decide +kernel) ?_
    refine En_Ps 1 (pc' := 115) (lv' := [(2, .int ((Int32.ofInt 0))), (0, .ref 159), (1, .int a)]) (st' := [.ref 159]) rfl ?_
    refine En_getI (j := 5) (l := 0) (u := 1600) rfl rfl rfl tgz_159 (by decide +kernel) hσ0 (by decide +kernel) (fun z51 h50 h52 h53 => ?_)
    exact En_ret (v := some (.int z51)) rfl rfl rfl ⟨hσ0, hF0, z51, rfl, ⟨by first | exact q_565e7b05df h52 | omega, by first | exact q_5a08281576 h53 | omega⟩⟩
  · refine En_swI (t := 119) (n := 9) rfl h1 rfl (by decide +kernel) ?_
    refine En_Ps 2 (pc' := 121) (lv' := [(3, .int ((Int32.ofInt 0))), (2, .int ((Int32.ofInt 0))), (0, .ref 159), (1, .int a)]) (st' := []) rfl ?_
    have key121 : ∀ (n121 : Nat) (σ56 : SG) (y54 : Int32) (y55 : Int32), WT σ56 → Fr [] σ0 σ56 → 0 ≤ y54.toInt → y54.toInt ≤ 4 → 0 ≤ y55.toInt → y55.toInt ≤ 4 → y54.toInt - y55.toInt ≤ 0 → a.toInt - y55.toInt < (n121 : Int) → En 0 0 none mr_206 (P_206 σ0 a) 121 [(0, .ref 159), (1, .int a), (2, .int y54), (3, .int y55)] [] σ56 := by
      intro n121
      induction n121 with
      | zero =>
        intro σ56 y54 y55 h57 h58 h59 h60 h61 h62 h63 h64
        first | exact (q_c4ee0a7a71 h1 h62 h64).elim | (exfalso; omega)
      | succ n121 ih121 =>
        intro σ56 y54 y55 h57 h58 h59 h60 h61 h62 h63 h64
        refine En_Ps 2 (pc' := 123) (lv' := [(0, .ref 159), (1, .int a), (2, .int y54), (3, .int y55)]) (st' := [.int ((Int32.ofInt 4)), .int y55]) rfl ?_
        refine En_icGe _ rfl (by decide : (Int32.ofInt 4).toInt = 4) rfl (fun h65 => ?_) (fun h65 => ?_)
        · refine En_Ps 1 (pc' := 151) (lv' := [(0, .ref 159), (1, .int a), (2, .int y54), (3, .int y55)]) (st' := [.int y54]) rfl ?_
          exact En_ret (v := some (.int y54)) rfl rfl rfl ⟨h57, h58, y54, rfl, ⟨by first | exact q_565e7b05df h59 | omega, by first | exact q_9297e6e4ff h60 | omega⟩⟩
        · refine En_Ps 2 (pc' := 128) (lv' := [(0, .ref 159), (1, .int a), (2, .int y54), (3, .int y55)]) (st' := [.ref 159, .int y54]) rfl ?_
          refine En_getU (j := 32) (u := 177) (g' := 53) (q := 0) rfl rfl rfl tgz_159 (by decide +kernel) h57 (by decide +kernel) (by decide +kernel) (fun h66 => ?_)
          refine En_Ps 1 (pc' := 132) (lv' := [(0, .ref 159), (1, .int a), (2, .int y54), (3, .int y55)]) (st' := [.int y55, .ref 177, .int y54]) rfl ?_
          refine En_iald (l := (-1)) (u := 60) rfl rfl tgz_177 (by decide +kernel) h57 (by first | exact q_58e6e51dcc h61 | omega) (lnI (by decide +kernel : LN _ = 4) (by first | exact q_074a8b422d h65 | omega)) (FTsgl (by decide +kernel)) (fun z69 h68 h70 h71 => ?_)
          refine En_Ps 1 (pc' := 134) (lv' := [(0, .ref 159), (1, .int a), (2, .int y54), (3, .int y55)]) (st' := [.int ((Int32.ofInt (-1))), .int z69, .int y54]) rfl ?_
          refine En_icNe _ rfl (by decide : (Int32.ofInt (-1)).toInt = -1) rfl (fun h72 => ?_) (fun h72 => ?_)
          · refine En_Ps 2 (pc' := 143) (lv' := [(0, .ref 159), (1, .int a), (2, .int y54), (3, .int y55)]) (st' := [.int ((y54 + ((Int32.ofInt 1))))]) rfl ?_
            refine En_top (addI rfl (by decide : (Int32.ofInt 1).toInt = 1) (by first | exact q_465ab79ac1 h59 | omega) (by first | exact q_f7282962fd h60 | omega)) (fun z73 h74 => ?_)
            refine En_Ps 2 (pc' := 147) (lv' := [(3, .int ((y55 + Int32.ofInt 1))), (2, .int z73), (0, .ref 159), (1, .int a)]) (st' := []) rfl ?_
            refine En_lv1 (addI rfl (by decide : (Int32.ofInt 1).toInt = 1) (by first | exact q_465ab79ac1 h61 | omega) (by first | exact q_d8bf7f475a h65 | omega)) (fun z75 h76 => ?_)
            refine En_Ps 1 (pc' := 121) (lv' := [(3, .int z75), (2, .int z73), (0, .ref 159), (1, .int a)]) (st' := []) rfl ?_
            refine En_lv (lv := [(0, .ref 159), (1, .int a), (2, .int z73), (3, .int z75)]) ⟨rfl, rfl, rfl, rfl, trivial⟩ ?_
            exact ih121 σ56 z73 z75 h57 h58 (by first | exact q_35104ce9d3 h74 h59 | omega) (by first | exact q_3198f66952 h74 h63 h65 | omega) (by first | exact q_35104ce9d3 h76 h61 | omega) (by first | exact q_ddc5c16a68 h76 h65 | omega) (by first | exact q_1ff421e7a2 h74 h76 h63 | omega) (by first | exact q_8d03a5a7cb h76 h64 | omega)
          · refine En_Ps 3 (pc' := 143) (lv' := [(0, .ref 159), (1, .int a), (2, .int y54), (3, .int y55)]) (st' := [.int ((y54 + ((Int32.ofInt 0))))]) rfl ?_
            refine En_top (addI rfl (by decide : (Int32.ofInt 0).toInt = 0) (by first | exact q_2f569dfca1 h59 | omega) (by first | exact q_e6f991ffef h60 | omega)) (fun z77 h78 => ?_)
            refine En_Ps 2 (pc' := 147) (lv' := [(3, .int ((y55 + Int32.ofInt 1))), (2, .int z77), (0, .ref 159), (1, .int a)]) (st' := []) rfl ?_
            refine En_lv1 (addI rfl (by decide : (Int32.ofInt 1).toInt = 1) (by first | exact q_465ab79ac1 h61 | omega) (by first | exact q_d8bf7f475a h65 | omega)) (fun z79 h80 => ?_)
            refine En_Ps 1 (pc' := 121) (lv' := [(3, .int z79), (2, .int z77), (0, .ref 159), (1, .int a)]) (st' := []) rfl ?_
            refine En_lv (lv := [(0, .ref 159), (1, .int a), (2, .int z77), (3, .int z79)]) ⟨rfl, rfl, rfl, rfl, trivial⟩ ?_
            exact ih121 σ56 z77 z79 h57 h58 (by first | exact q_771c4e5138 h78 h59 | omega) (by first | exact q_c4d42658be h78 h60 | omega) (by first | exact q_35104ce9d3 h80 h61 | omega) (by first | exact q_ddc5c16a68 h80 h65 | omega) (by first | exact q_969c4fd5e6 h78 h80 h63 | omega) (by first | exact q_8d03a5a7cb h80 h64 | omega)
    have := (by decide : (Int32.ofInt 0).toInt = 0)
    have := (by decide : (Int32.ofInt 0).toInt = 0)
    refine En_lv (lv := [(0, .ref 159), (1, .int a), (2, .int ((Int32.ofInt 0))), (3, .int ((Int32.ofInt 0)))]) ⟨rfl, rfl, rfl, rfl, trivial⟩ ?_
    exact key121 (Int.toNat (a.toInt) + 1) σ0 ((Int32.ofInt 0)) ((Int32.ofInt 0)) hσ0 hF0 (by decide) (by decide) (by decide) (by decide) (by omega) (by first | exact toN_lt _ | omega)
  · refine En_swO (t := 152) rfl (by omega) rfl (by decide +kernel) ?_
    refine En_Ps 1 (pc' := 153) (lv' := [(2, .int ((Int32.ofInt 0))), (0, .ref 159), (1, .int a)]) (st' := [.int ((Int32.ofInt (-1)))]) rfl ?_
    refine En_top (by decide : (Int32.ofInt (-1)).toInt = -1) (fun z81 h82 => ?_)
    exact En_ret (v := some (.int z81)) rfl rfl rfl ⟨hσ0, hF0, z81, rfl, ⟨by first | exact q_6ba54b61e9 h82 | omega, by first | exact q_99664cbdae h82 | omega⟩⟩
  · refine En_swO (t := 152) rfl (by omega) rfl (by decide +kernel) ?_
    refine En_Ps 1 (pc' := 153) (lv' := [(2, .int ((Int32.ofInt 0))), (0, .ref 159), (1, .int a)]) (st' := [.int ((Int32.ofInt (-1)))]) rfl ?_
    refine En_top (by decide : (Int32.ofInt (-1)).toInt = -1) (fun z83 h84 => ?_)
    exact En_ret (v := some (.int z83)) rfl rfl rfl ⟨hσ0, hF0, z83, rfl, ⟨by first | exact q_6ba54b61e9 h84 | omega, by first | exact q_99664cbdae h84 | omega⟩⟩
/-- DoorSchoolModel.isWay(I)Z -/
abbrev P_268 (σ0 : SG) (a : Int32) : PO := fun v σ => WT σ ∧ Fr [] σ0 σ ∧ ∃ ret : Int32, v = some (.int ret) ∧ -ret.toInt ≤ 0 ∧ ret.toInt - 1 ≤ 0 ∧ (ret.toInt - 1 ≤ 0 ∧ -ret.toInt + 1 ≤ 0 → -a.toInt ≤ 0 ∧ a.toInt - 2 ≤ 0) ∧ (-a.toInt ≤ 0 ∧ a.toInt - 2 ≤ 0 → ret.toInt - 1 ≤ 0 ∧ -ret.toInt + 1 ≤ 0)
set_option maxRecDepth 10000 in
set_option maxHeartbeats 4000000 in
theorem c_268 (σ0 : SG) (hσ0 : WT σ0) (a : Int32) : En 1 25 none mr_268 (P_268 σ0 a) 0 [(0, .int a)] [] σ0 := by
  have hF0 : Fr [] σ0 σ0 := Fr_rfl
  refine En_Ps 4 (pc' := 6) (lv' := [(0, .int a)]) (st' := [.long ((2 : Int64)), .long ((Int64.ofNat 0)), .long a.toInt64]) rfl ?_
  have : a.toInt64.toInt = a.toInt := (i2lI rfl)
  have := (by decide : ((Int64.ofNat 0)).toInt = 0)
  have := (by decide : ((2 : Int64)).toInt = 2)
  refine En_callS rfl rfl rfl rfl rfl rfl rfl rfl rfl (c_249 σ0 hσ0 a.toInt64 ((Int64.ofNat 0)) ((2 : Int64))) (by decide) (by decide) (fun v2 σ3 h1 => ?_)
  obtain ⟨h4, h5, z7, rfl, h6⟩ := h1
  have h8 := Fr_trans hF0 h5 (by decide +kernel)
  exact En_ret (v := some (.int z7)) rfl rfl (retZ rfl rfl (by first | exact q_ef1e8e38bf h6.1 | omega) (by first | exact q_733c8bfbae h6.2.1 | omega)) ⟨h4, h8, z7, rfl, ⟨by first | exact q_a555021d16 h6.1 | omega, by first | exact q_ad5b726bf8 h6.2.1 | omega, fun _ => by omega, fun _ => by omega⟩⟩
/-- DoorSchoolModel.laySet(II)V -/
abbrev P_273 (σ0 : SG) (a : Int32) (b : Int32) : PO := fun v σ => WT σ ∧ Fr [(35, 21), (45, 0), (46, 0)] σ0 σ ∧ v = none ∧ True
set_option maxRecDepth 10000 in
set_option maxHeartbeats 4000000 in
theorem c_273 (σ0 : SG) (hσ0 : WT σ0) (a : Int32) (b : Int32) : En 2 40 none mr_273 (P_273 σ0 a b) 0 [(0, .ref 159), (1, .int a), (2, .int b)] [] σ0 := by
  have hF0 : Fr [(35, 21), (45, 0), (46, 0)] σ0 σ0 := Fr_rfl
  refine En_Ps 2 (pc' := 2) (lv' := [(0, .ref 159), (1, .int a), (2, .int b)]) (st' := [.int ((Int32.ofInt 0)), .ref 159]) rfl ?_
  refine En_put (j := 21) rfl rfl rfl tgz_159 (by decide +kernel) rfl (vI (l := 0) (u := 17) (by decide +kernel) (by decide : (Int32.ofInt 0).toInt = 0) (by decide) (by decide)) hσ0 hF0 (by decide +kernel) (fun σ1 h2 h3 h4 h5 => ?_)
  refine En_Ps 2 (pc' := 7) (lv' := [(3, .int ((Int32.ofInt 0))), (0, .ref 159), (1, .int a), (2, .int b)]) (st' := []) rfl ?_
  have key7 : ∀ (n7 : Nat) (σ8 : SG) (y6 : Int32) (y7 : Int32), WT σ8 → Fr [(35, 21), (45, 0), (46, 0)] σ0 σ8 → (σ8 159)[21]? = some (.int y7) → 0 ≤ y6.toInt → y6.toInt ≤ 16 → 0 ≤ y7.toInt → y7.toInt ≤ 16 → y7.toInt - y6.toInt ≤ 0 → -y6.toInt + 16 < (n7 : Int) → En 2 40 none mr_273 (P_273 σ0 a b) 7 [(0, .ref 159), (1, .int a), (2, .int b), (3, .int y6)] [] σ8 := by
    intro n7
    induction n7 with
    | zero =>
      intro σ8 y6 y7 h9 h10 h11 h12 h13 h14 h15 h16 h17
      first | exact (q_511f6d33ac h17 h13).elim | (exfalso; omega)
    | succ n7 ih7 =>
      intro σ8 y6 y7 h9 h10 h11 h12 h13 h14 h15 h16 h17
      refine En_Ps 2 (pc' := 9) (lv' := [(0, .ref 159), (1, .int a), (2, .int b), (3, .int y6)]) (st' := [.ref 159, .int y6]) rfl ?_
      obtain ⟨z19, h18, h20, h21⟩ := WT_peekI h9 tgz_160 (by decide +kernel : FT 36 (0 : Int).toNat = (0, 0, 4)) (by decide +kernel)
      obtain ⟨z23, h22, h24, h25⟩ := WT_peekI h9 tgz_160 (by decide +kernel : FT 36 (7 : Int).toNat = (0, 0, 1600)) (by decide +kernel)
      refine En_callV rfl rfl rfl rfl rfl rfl rfl rfl tgz_159 (by decide +kernel) rfl (c_269 σ8 h9 z19 h18 z23 h22) (by decide) (by decide) (fun v27 σ28 h26 => ?_)
      obtain ⟨h29, h30, z32, rfl, h31⟩ := h26
      have h33 := h31.2.2
      have h34 := Fr_trans h10 h30 (by decide +kernel)
      refine En_icGe _ rfl rfl rfl (fun h35 => ?_) (fun h35 => ?_)
      · exact En_ret (v := none) rfl rfl rfl ⟨h29, h34, rfl, trivial⟩
      · refine En_Ps 2 (pc' := 17) (lv' := [(0, .ref 159), (1, .int a), (2, .int b), (3, .int y6)]) (st' := [.int y6, .int a]) rfl ?_
        refine En_callS rfl rfl rfl rfl rfl rfl rfl rfl rfl (c_202b σ28 h29 a y6) (by decide) (by decide) (fun v37 σ38 h36 => ?_)
        obtain ⟨h39, h40, z42, rfl, h41⟩ := h36
        have h43 := Fr_trans h34 h40 (by decide +kernel)
        refine En_Ps 1 (pc' := 21) (lv' := [(0, .ref 159), (1, .int a), (2, .int b), (3, .int y6)]) (st' := [.int ((Int32.ofInt 1)), .int z42]) rfl ?_
        refine En_icNe _ rfl (by decide : (Int32.ofInt 1).toInt = 1) rfl (fun h44 => ?_) (fun h44 => ?_)
        · refine En_Ps 1 (pc' := 37) (lv' := [(3, .int ((y6 + Int32.ofInt 1))), (0, .ref 159), (1, .int a), (2, .int b)]) (st' := []) rfl ?_
          refine En_lv1 (addI rfl (by decide : (Int32.ofInt 1).toInt = 1) (by first | exact q_465ab79ac1 h12 | omega) (by first | exact q_f3f8e04381 h13 | omega)) (fun z45 h46 => ?_)
          refine En_Ps 1 (pc' := 7) (lv' := [(3, .int z45), (0, .ref 159), (1, .int a), (2, .int b)]) (st' := []) rfl ?_
          refine En_lv (lv := [(0, .ref 159), (1, .int a), (2, .int b), (3, .int z45)]) ⟨rfl, rfl, rfl, rfl, trivial⟩ ?_
          exact ih7 σ38 z45 y7 h39 h43 ((h40 _ _ (inW tgz_159 (by decide +kernel))).trans ((h30 _ _ (inW tgz_159 (by decide +kernel))).trans h11)) (by first | exact q_35104ce9d3 h46 h12 | omega) (by first | exact q_34dc714687 h46 h35 h31.2.1 | omega) (by first | exact q_58e6e51dcc h14 | omega) (by first | exact q_60616f21a7 h15 | omega) (by first | exact q_3a5e225620 h16 h46 | omega) (by first | exact q_c5d740bdff h46 h17 | omega)
        · refine En_Ps 4 (pc' := 28) (lv' := [(0, .ref 159), (1, .int a), (2, .int b), (3, .int y6)]) (st' := [.int y6, .int b, .int y6, .ref 159]) rfl ?_
          refine En_callS rfl rfl rfl rfl rfl rfl rfl rfl rfl (c_202b σ38 h39 b y6) (by decide) (by decide) (fun v48 σ49 h47 => ?_)
          obtain ⟨h50, h51, z53, rfl, h52⟩ := h47
          have h54 := Fr_trans h43 h51 (by decide +kernel)
          refine En_callV rfl rfl rfl rfl rfl rfl rfl rfl tgz_159 (by decide +kernel) rfl (c_188 σ49 h50 y6 z53 (geI rfl (by first | exact q_58e6e51dcc h12 | omega)) (leI rfl (by first | exact q_c15b485600 h35 h31.2.1 | omega)) (geI rfl (by first | exact q_ef1e8e38bf h52.1 | omega)) (leI rfl (by first | exact q_733c8bfbae h52.2 | omega)) y7 ((h51 _ _ (inW tgz_159 (by decide +kernel))).trans ((h40 _ _ (inW tgz_159 (by decide +kernel))).trans ((h30 _ _ (inW tgz_159 (by decide +kernel))).trans h11))) (by first | exact q_774c92aa9b h15 | omega)) (by decide) (by decide) (fun v56 σ57 h55 => ?_)
          obtain ⟨h58, h59, z61, h62, rfl, h60⟩ := h55
          have h63 := Fr_trans h54 h59 (by decide +kernel)
          refine En_Ps 1 (pc' := 37) (lv' := [(3, .int ((y6 + Int32.ofInt 1))), (0, .ref 159), (1, .int a), (2, .int b)]) (st' := []) rfl ?_
          refine En_lv1 (addI rfl (by decide : (Int32.ofInt 1).toInt = 1) (by first | exact q_465ab79ac1 h12 | omega) (by first | exact q_f3f8e04381 h13 | omega)) (fun z64 h65 => ?_)
          refine En_Ps 1 (pc' := 7) (lv' := [(3, .int z64), (0, .ref 159), (1, .int a), (2, .int b)]) (st' := []) rfl ?_
          refine En_lv (lv := [(0, .ref 159), (1, .int a), (2, .int b), (3, .int z64)]) ⟨rfl, rfl, rfl, rfl, trivial⟩ ?_
          exact ih7 σ57 z64 z61 h58 h63 h62 (by first | exact q_35104ce9d3 h65 h12 | omega) (by first | exact q_34dc714687 h65 h35 h31.2.1 | omega) (by first | exact q_996aa4c518 h60.1 | omega) (by first | exact q_f8b397e766 h60.2.2.2.1 h16 h35 h31.2.1 | omega) (by first | exact q_cbb20cbf38 h60.2.2.2.1 h65 h16 | omega) (by first | exact q_c5d740bdff h65 h17 | omega)
  have := (by decide : (Int32.ofInt 0).toInt = 0)
  have := (by decide : (Int32.ofInt 0).toInt = 0)
  refine En_lv (lv := [(0, .ref 159), (1, .int a), (2, .int b), (3, .int ((Int32.ofInt 0)))]) ⟨rfl, rfl, rfl, rfl, trivial⟩ ?_
  exact key7 (Int.toNat (16) + 1) σ1 ((Int32.ofInt 0)) ((Int32.ofInt 0)) h2 h3 h4 (by decide) (by decide) (by decide) (by decide) (by omega) (by first | exact toN_lt _ | omega)
/-- DoorSchoolModel.learnsBy(III)Z -/
abbrev P_275 (σ0 : SG) (a : Int32) (b : Int32) (c : Int32) : PO := fun v σ => WT σ ∧ Fr [(35, 21), (45, 0), (46, 0)] σ0 σ ∧ ∃ ret : Int32, v = some (.int ret) ∧ -ret.toInt ≤ 0 ∧ ret.toInt - 1 ≤ 0
set_option maxRecDepth 10000 in
set_option maxHeartbeats 4000000 in
theorem c_275 (σ0 : SG) (hσ0 : WT σ0) (a : Int32) (b : Int32) (c : Int32) : En 4 91 none mr_275 (P_275 σ0 a b c) 0 [(0, .ref 159), (1, .int a), (2, .int b), (3, .int c)] [] σ0 := by
  have hF0 : Fr [(35, 21), (45, 0), (46, 0)] σ0 σ0 := Fr_rfl
  refine En_Ps 1 (pc' := 1) (lv' := [(0, .ref 159), (1, .int a), (2, .int b), (3, .int c)]) (st' := [.int a]) rfl ?_
  refine En_iNe _ rfl rfl (fun h1 => ?_) (fun h1 => ?_)
  · refine En_Ps 2 (pc' := 20) (lv' := [(0, .ref 159), (1, .int a), (2, .int b), (3, .int c)]) (st' := [.int ((Int32.ofInt 1)), .int a]) rfl ?_
    refine En_icNe _ rfl (by decide : (Int32.ofInt 1).toInt = 1) rfl (fun h2 => ?_) (fun h2 => ?_)
    · refine En_Ps 3 (pc' := 85) (lv' := [(0, .ref 159), (1, .int a), (2, .int b), (3, .int c)]) (st' := [.int c, .int b, .ref 159]) rfl ?_
      refine En_callV rfl rfl rfl rfl rfl rfl rfl rfl tgz_159 (by decide +kernel) rfl (c_273 σ0 hσ0 b c) (by decide) (by decide) (fun v4 σ5 h3 => ?_)
      obtain ⟨h6, h7, rfl, h8⟩ := h3
      have h9 := Fr_trans hF0 h7 (by decide +kernel)
      refine En_Ps 2 (pc' := 90) (lv' := [(0, .ref 159), (1, .int a), (2, .int b), (3, .int c)]) (st' := [.int ((Int32.ofInt 2)), .ref 159]) rfl ?_
      have := (by decide : ((Int32.ofInt 2)).toInt = 2)
      refine En_callV rfl rfl rfl rfl rfl rfl rfl rfl tgz_159 (by decide +kernel) rfl (c_274 σ5 h6 ((Int32.ofInt 2))) (by decide) (by decide) (fun v11 σ12 h10 => ?_)
      obtain ⟨h13, h14, z16, rfl, h15⟩ := h10
      have h17 := Fr_trans h9 h14 (by decide +kernel)
      refine En_Ps 1 (pc' := 94) (lv' := [(0, .ref 159), (1, .int a), (2, .int b), (3, .int c)]) (st' := [.int c, .int z16]) rfl ?_
      refine En_icNe _ rfl rfl rfl (fun h18 => ?_) (fun h18 => ?_)
      · refine En_Ps 1 (pc' := 102) (lv' := [(0, .ref 159), (1, .int a), (2, .int b), (3, .int c)]) (st' := [.int ((Int32.ofInt 0))]) rfl ?_
        refine En_top (by decide : (Int32.ofInt 0).toInt = 0) (fun z19 h20 => ?_)
        exact En_ret (v := some (.int z19)) rfl rfl (retZ rfl rfl (by first | exact q_55451d0a83 h20 | omega) (by first | exact q_87849c3859 h20 | omega)) ⟨h13, h17, z19, rfl, ⟨by first | exact q_097a37c2ae h20 | omega, by first | exact q_e269517bee h20 | omega⟩⟩
      · refine En_Ps 2 (pc' := 102) (lv' := [(0, .ref 159), (1, .int a), (2, .int b), (3, .int c)]) (st' := [.int ((Int32.ofInt 1))]) rfl ?_
        refine En_top (by decide : (Int32.ofInt 1).toInt = 1) (fun z21 h22 => ?_)
        exact En_ret (v := some (.int z21)) rfl rfl (retZ rfl rfl (by first | exact q_2b07c97645 h22 | omega) (by first | exact q_d9e7cbb253 h22 | omega)) ⟨h13, h17, z21, rfl, ⟨by first | exact q_ad3eee31ca h22 | omega, by first | exact q_81cf297dc4 h22 | omega⟩⟩
    · refine En_Ps 2 (pc' := 26) (lv' := [(4, .int ((Int32.ofInt 0))), (0, .ref 159), (1, .int a), (2, .int b), (3, .int c)]) (st' := []) rfl ?_
      have key26 : ∀ (n26 : Nat) (σ24 : SG) (y23 : Int32), WT σ24 → Fr [(35, 21), (45, 0), (46, 0)] σ0 σ24 → 0 ≤ y23.toInt → y23.toInt ≤ 81 → -y23.toInt + 81 < (n26 : Int) → En 4 91 none mr_275 (P_275 σ0 a b c) 26 [(0, .ref 159), (1, .int a), (2, .int b), (3, .int c), (4, .int y23)] [] σ24 := by
        intro n26
        induction n26 with
        | zero =>
          intro σ24 y23 h25 h26 h27 h28 h29
          first | exact (q_ffef14d449 h29 h28).elim | (exfalso; omega)
        | succ n26 ih26 =>
          intro σ24 y23 h25 h26 h27 h28 h29
          refine En_Ps 2 (pc' := 29) (lv' := [(0, .ref 159), (1, .int a), (2, .int b), (3, .int c), (4, .int y23)]) (st' := [.ref 159, .int y23]) rfl ?_
          refine En_getI (j := 18) (l := 0) (u := 81) rfl rfl rfl tgz_159 (by decide +kernel) h25 (by decide +kernel) (fun z31 h30 h32 h33 => ?_)
          refine En_icGe _ rfl rfl rfl (fun h34 => ?_) (fun h34 => ?_)
          · refine En_Ps 1 (pc' := 73) (lv' := [(0, .ref 159), (1, .int a), (2, .int b), (3, .int c), (4, .int y23)]) (st' := [.int c]) rfl ?_
            refine En_iNe _ rfl rfl (fun h35 => ?_) (fun h35 => ?_)
            · refine En_Ps 1 (pc' := 81) (lv' := [(0, .ref 159), (1, .int a), (2, .int b), (3, .int c), (4, .int y23)]) (st' := [.int ((Int32.ofInt 0))]) rfl ?_
              refine En_top (by decide : (Int32.ofInt 0).toInt = 0) (fun z36 h37 => ?_)
              exact En_ret (v := some (.int z36)) rfl rfl (retZ rfl rfl (by first | exact q_55451d0a83 h37 | omega) (by first | exact q_87849c3859 h37 | omega)) ⟨h25, h26, z36, rfl, ⟨by first | exact q_097a37c2ae h37 | omega, by first | exact q_e269517bee h37 | omega⟩⟩
            · refine En_Ps 2 (pc' := 81) (lv' := [(0, .ref 159), (1, .int a), (2, .int b), (3, .int c), (4, .int y23)]) (st' := [.int ((Int32.ofInt 1))]) rfl ?_
              refine En_top (by decide : (Int32.ofInt 1).toInt = 1) (fun z38 h39 => ?_)
              exact En_ret (v := some (.int z38)) rfl rfl (retZ rfl rfl (by first | exact q_2b07c97645 h39 | omega) (by first | exact q_d9e7cbb253 h39 | omega)) ⟨h25, h26, z38, rfl, ⟨by first | exact q_ad3eee31ca h39 | omega, by first | exact q_81cf297dc4 h39 | omega⟩⟩
          · refine En_Ps 1 (pc' := 36) (lv' := [(0, .ref 159), (1, .int a), (2, .int b), (3, .int c), (4, .int y23)]) (st' := [.ref 159]) rfl ?_
            refine En_getU (j := 17) (u := 168) (g' := 44) (q := 0) rfl rfl rfl tgz_159 (by decide +kernel) h25 (by decide +kernel) (by decide +kernel) (fun h40 => ?_)
            refine En_Ps 1 (pc' := 41) (lv' := [(0, .ref 159), (1, .int a), (2, .int b), (3, .int c), (4, .int y23)]) (st' := [.int y23, .ref 168]) rfl ?_
            refine En_iald (l := (-2147483648)) (u := 2147483647) rfl rfl tgz_168 (by decide +kernel) h25 (by first | exact q_58e6e51dcc h27 | omega) (lnI (by decide +kernel : LN _ = 81) (by first | exact q_a0e855914a h34 h33 | omega)) (FTsgl (by decide +kernel)) (fun z43 h42 h44 h45 => ?_)
            refine En_Ps 2 (pc' := 44) (lv' := [(0, .ref 159), (1, .int a), (2, .int b), (3, .int c), (4, .int y23)]) (st' := [.int ((z43 ^^^ c))]) rfl ?_
            refine En_hav (fun z46 => ?_)
            refine En_Ps 2 (pc' := 46) (lv' := [(0, .ref 159), (1, .int a), (2, .int b), (3, .int c), (4, .int y23)]) (st' := [.int ((z46 &&& b))]) rfl ?_
            refine En_hav (fun z47 => ?_)
            refine En_iNe _ rfl rfl (fun h48 => ?_) (fun h48 => ?_)
            · refine En_Ps 1 (pc' := 69) (lv' := [(4, .int ((y23 + Int32.ofInt 1))), (0, .ref 159), (1, .int a), (2, .int b), (3, .int c)]) (st' := []) rfl ?_
              refine En_lv1 (addI rfl (by decide : (Int32.ofInt 1).toInt = 1) (by first | exact q_465ab79ac1 h27 | omega) (by first | exact q_d778ff18c8 h28 | omega)) (fun z49 h50 => ?_)
              refine En_Ps 1 (pc' := 26) (lv' := [(4, .int z49), (0, .ref 159), (1, .int a), (2, .int b), (3, .int c)]) (st' := []) rfl ?_
              refine En_lv (lv := [(0, .ref 159), (1, .int a), (2, .int b), (3, .int c), (4, .int z49)]) ⟨rfl, rfl, rfl, rfl, rfl, trivial⟩ ?_
              exact ih26 σ24 z49 h25 h26 (by first | exact q_35104ce9d3 h50 h27 | omega) (by first | exact q_798b104d48 h50 h34 h33 | omega) (by first | exact q_4ff790945b h50 h29 | omega)
            · refine En_Ps 1 (pc' := 50) (lv' := [(0, .ref 159), (1, .int a), (2, .int b), (3, .int c), (4, .int y23)]) (st' := [.ref 159]) rfl ?_
              refine En_getK (j := 17) h40 rfl rfl rfl tgz_159 (by decide +kernel) ?_
              refine En_Ps 1 (pc' := 55) (lv' := [(0, .ref 159), (1, .int a), (2, .int b), (3, .int c), (4, .int y23)]) (st' := [.int y23, .ref 168]) rfl ?_
              refine En_ialdK h42 rfl rfl tgz_168 (by decide +kernel) h25 (by first | exact q_58e6e51dcc h27 | omega) (lnI (by decide +kernel : LN _ = 81) (by first | exact q_a0e855914a h34 h33 | omega)) ?_
              refine En_Ps 1 (pc' := 57) (lv' := [(0, .ref 159), (1, .int a), (2, .int b), (3, .int c), (4, .int y23)]) (st' := [.int c, .int z43]) rfl ?_
              refine En_icNe _ rfl rfl rfl (fun h52 => ?_) (fun h52 => ?_)
              · refine En_Ps 1 (pc' := 65) (lv' := [(0, .ref 159), (1, .int a), (2, .int b), (3, .int c), (4, .int y23)]) (st' := [.int ((Int32.ofInt 0))]) rfl ?_
                refine En_top (by decide : (Int32.ofInt 0).toInt = 0) (fun z53 h54 => ?_)
                exact En_ret (v := some (.int z53)) rfl rfl (retZ rfl rfl (by first | exact q_55451d0a83 h54 | omega) (by first | exact q_87849c3859 h54 | omega)) ⟨h25, h26, z53, rfl, ⟨by first | exact q_097a37c2ae h54 | omega, by first | exact q_e269517bee h54 | omega⟩⟩
              · refine En_Ps 2 (pc' := 65) (lv' := [(0, .ref 159), (1, .int a), (2, .int b), (3, .int c), (4, .int y23)]) (st' := [.int ((Int32.ofInt 1))]) rfl ?_
                refine En_top (by decide : (Int32.ofInt 1).toInt = 1) (fun z55 h56 => ?_)
                exact En_ret (v := some (.int z55)) rfl rfl (retZ rfl rfl (by first | exact q_2b07c97645 h56 | omega) (by first | exact q_d9e7cbb253 h56 | omega)) ⟨h25, h26, z55, rfl, ⟨by first | exact q_ad3eee31ca h56 | omega, by first | exact q_81cf297dc4 h56 | omega⟩⟩
      have := (by decide : (Int32.ofInt 0).toInt = 0)
      refine En_lv (lv := [(0, .ref 159), (1, .int a), (2, .int b), (3, .int c), (4, .int ((Int32.ofInt 0)))]) ⟨rfl, rfl, rfl, rfl, rfl, trivial⟩ ?_
      exact key26 (Int.toNat (81) + 1) σ0 ((Int32.ofInt 0)) hσ0 hF0 (by decide) (by decide) (by first | exact toN_lt _ | omega)
  · refine En_Ps 4 (pc' := 8) (lv' := [(0, .ref 159), (1, .int a), (2, .int b), (3, .int c)]) (st' := [.int ((b ^^^ ((Int32.ofInt (-1))))), .int c]) rfl ?_
    refine En_nam (fun z57 h58 => ?_)
    refine En_Ps 1 (pc' := 9) (lv' := [(0, .ref 159), (1, .int a), (2, .int b), (3, .int c)]) (st' := [.int ((c &&& z57))]) rfl ?_
    refine En_nam (fun z59 h60 => ?_)
    refine En_iNe _ rfl rfl (fun h61 => ?_) (fun h61 => ?_)
    · refine En_Ps 1 (pc' := 17) (lv' := [(0, .ref 159), (1, .int a), (2, .int b), (3, .int c)]) (st' := [.int ((Int32.ofInt 0))]) rfl ?_
      refine En_top (by decide : (Int32.ofInt 0).toInt = 0) (fun z62 h63 => ?_)
      exact En_ret (v := some (.int z62)) rfl rfl (retZ rfl rfl (by first | exact q_55451d0a83 h63 | omega) (by first | exact q_87849c3859 h63 | omega)) ⟨hσ0, hF0, z62, rfl, ⟨by first | exact q_097a37c2ae h63 | omega, by first | exact q_e269517bee h63 | omega⟩⟩
    · refine En_Ps 2 (pc' := 17) (lv' := [(0, .ref 159), (1, .int a), (2, .int b), (3, .int c)]) (st' := [.int ((Int32.ofInt 1))]) rfl ?_
      refine En_top (by decide : (Int32.ofInt 1).toInt = 1) (fun z64 h65 => ?_)
      exact En_ret (v := some (.int z64)) rfl rfl (retZ rfl rfl (by first | exact q_2b07c97645 h65 | omega) (by first | exact q_d9e7cbb253 h65 | omega)) ⟨hσ0, hF0, z64, rfl, ⟨by first | exact q_ad3eee31ca h65 | omega, by first | exact q_81cf297dc4 h65 | omega⟩⟩
/-- DoorSchoolModel.fewestSet(II)I -/
abbrev P_228 (σ0 : SG) (a : Int32) (b : Int32) : PO := fun v σ => WT σ ∧ Fr [(35, 18), (35, 21), (42, 0), (43, 0), (44, 0), (45, 0), (46, 0)] σ0 σ ∧ ∃ ret : Int32, v = some (.int ret) ∧ -ret.toInt - 1 ≤ 0 ∧ ret.toInt - 65535 ≤ 0
set_option maxRecDepth 10000 in
set_option maxHeartbeats 4000000 in
theorem c_228 (σ0 : SG) (hσ0 : WT σ0) (a : Int32) (b : Int32) : En 5 115 none mr_228 (P_228 σ0 a b) 0 [(0, .ref 159), (1, .int a), (2, .int b)] [] σ0 := by
  have hF0 : Fr [(35, 18), (35, 21), (42, 0), (43, 0), (44, 0), (45, 0), (46, 0)] σ0 σ0 := Fr_rfl
  refine En_Ps 1 (pc' := 1) (lv' := [(0, .ref 159), (1, .int a), (2, .int b)]) (st' := [.ref 159]) rfl ?_
  obtain ⟨z2, h1, h3, h4⟩ := WT_peekI hσ0 tgz_160 (by decide +kernel : FT 36 (0 : Int).toNat = (0, 0, 4)) (by decide +kernel)
  obtain ⟨z6, h5, h7, h8⟩ := WT_peekI hσ0 tgz_160 (by decide +kernel : FT 36 (7 : Int).toNat = (0, 0, 1600)) (by decide +kernel)
  refine En_callV rfl rfl rfl rfl rfl rfl rfl rfl tgz_159 (by decide +kernel) rfl (c_272 σ0 hσ0 z2 h1 z6 h5) (by decide) (by decide) (fun v10 σ11 h9 => ?_)
  obtain ⟨h12, h13, rfl, h14⟩ := h9
  have h15 := Fr_trans hF0 h13 (by decide +kernel)
  refine En_Ps 4 (pc' := 9) (lv' := [(4, .int ((Int32.ofInt 0))), (3, .int ((Int32.ofInt (-1)))), (0, .ref 159), (1, .int a), (2, .int b)]) (st' := []) rfl ?_
  have key9 : ∀ (n9 : Nat) (σ18 : SG) (y16 : Int32) (y17 : Int32), WT σ18 → Fr [(35, 18), (35, 21), (42, 0), (43, 0), (44, 0), (45, 0), (46, 0)] σ0 σ18 → (σ18 160)[(0 : Int).toNat]? = some (.int z2) → (σ18 160)[(7 : Int).toNat]? = some (.int z6) → (-1) ≤ y16.toInt → y16.toInt ≤ 65535 → 0 ≤ y17.toInt → y17.toInt ≤ 65536 → y16.toInt - y17.toInt + 1 ≤ 0 → -y17.toInt + 65536 < (n9 : Int) → En 5 115 none mr_228 (P_228 σ0 a b) 9 [(0, .ref 159), (1, .int a), (2, .int b), (3, .int y16), (4, .int y17)] [] σ18 := by
    intro n9
    induction n9 with
    | zero =>
      intro σ18 y16 y17 h19 h20 h21 h22 h23 h24 h25 h26 h27 h28
      first | exact (q_ec59fb8a68 h28 h26).elim | (exfalso; omega)
    | succ n9 ih9 =>
      intro σ18 y16 y17 h19 h20 h21 h22 h23 h24 h25 h26 h27 h28
      refine En_Ps 2 (pc' := 12) (lv' := [(0, .ref 159), (1, .int a), (2, .int b), (3, .int y16), (4, .int y17)]) (st' := [.ref 159, .int y17]) rfl ?_
      refine En_callV rfl rfl rfl rfl rfl rfl rfl rfl tgz_159 (by decide +kernel) rfl (c_192 σ18 h19) (by decide) (by decide) (fun v30 σ31 h29 => ?_)
      obtain ⟨h32, h33, z35, rfl, h34⟩ := h29
      have h36 := Fr_trans h20 h33 (by decide +kernel)
      refine En_icGt _ rfl rfl rfl (fun h37 => ?_) (fun h37 => ?_)
      · refine En_Ps 1 (pc' := 56) (lv' := [(0, .ref 159), (1, .int a), (2, .int b), (3, .int y16), (4, .int y17)]) (st' := [.int y16]) rfl ?_
        exact En_ret (v := some (.int y16)) rfl rfl rfl ⟨h32, h36, y16, rfl, ⟨by first | exact q_909eef6c0e h23 | omega, by first | exact q_e7edf0f95a h24 | omega⟩⟩
      · refine En_Ps 2 (pc' := 20) (lv' := [(0, .ref 159), (1, .int a), (2, .int b), (3, .int y16), (4, .int y17)]) (st' := [.int ((Int32.ofInt (-1))), .int y16]) rfl ?_
        refine En_icEq _ rfl (by decide : (Int32.ofInt (-1)).toInt = -1) rfl (fun h38 => ?_) (fun h38 => ?_)
        · refine En_Ps 4 (pc' := 40) (lv' := [(0, .ref 159), (1, .int a), (2, .int b), (3, .int y16), (4, .int y17)]) (st' := [.int b, .int y17, .int a, .ref 159]) rfl ?_
          refine En_callV rfl rfl rfl rfl rfl rfl rfl rfl tgz_159 (by decide +kernel) rfl (c_275 σ31 h32 a y17 b) (by decide) (by decide) (fun v40 σ41 h39 => ?_)
          obtain ⟨h42, h43, z45, rfl, h44⟩ := h39
          have h46 := Fr_trans h36 h43 (by decide +kernel)
          refine En_iEq _ rfl rfl (fun h47 => ?_) (fun h47 => ?_)
          · refine En_Ps 1 (pc' := 52) (lv' := [(4, .int ((y17 + Int32.ofInt 1))), (0, .ref 159), (1, .int a), (2, .int b), (3, .int y16)]) (st' := []) rfl ?_
            refine En_lv1 (addI rfl (by decide : (Int32.ofInt 1).toInt = 1) (by first | exact q_465ab79ac1 h25 | omega) (by first | exact q_1d2cffc2f0 h26 | omega)) (fun z48 h49 => ?_)
            refine En_Ps 1 (pc' := 9) (lv' := [(4, .int z48), (0, .ref 159), (1, .int a), (2, .int b), (3, .int y16)]) (st' := []) rfl ?_
            refine En_lv (lv := [(0, .ref 159), (1, .int a), (2, .int b), (3, .int y16), (4, .int z48)]) ⟨rfl, rfl, rfl, rfl, rfl, trivial⟩ ?_
            exact ih9 σ41 y16 z48 h42 h46 ((h43 _ _ (inWa tgz_160 (by decide +kernel))).trans ((h33 _ _ (inWa tgz_160 (by decide +kernel))).trans h21)) ((h43 _ _ (inWa tgz_160 (by decide +kernel))).trans ((h33 _ _ (inWa tgz_160 (by decide +kernel))).trans h22)) (by first | exact q_77b189e83d h23 | omega) (by first | exact q_cfed409c5c h38 | omega) (by first | exact q_35104ce9d3 h49 h25 | omega) (by first | exact q_14f3993466 h49 h37 h34.2 | omega) (by first | exact q_6591527e3e h27 h49 | omega) (by first | exact q_baf82f6f45 h49 h28 | omega)
          · refine En_Ps 3 (pc' := 52) (lv' := [(4, .int ((y17 + Int32.ofInt 1))), (3, .int y17), (0, .ref 159), (1, .int a), (2, .int b)]) (st' := []) rfl ?_
            refine En_lv1 (addI rfl (by decide : (Int32.ofInt 1).toInt = 1) (by first | exact q_465ab79ac1 h25 | omega) (by first | exact q_1d2cffc2f0 h26 | omega)) (fun z50 h51 => ?_)
            refine En_Ps 1 (pc' := 9) (lv' := [(4, .int z50), (3, .int y17), (0, .ref 159), (1, .int a), (2, .int b)]) (st' := []) rfl ?_
            refine En_lv (lv := [(0, .ref 159), (1, .int a), (2, .int b), (3, .int y17), (4, .int z50)]) ⟨rfl, rfl, rfl, rfl, rfl, trivial⟩ ?_
            exact ih9 σ41 y17 z50 h42 h46 ((h43 _ _ (inWa tgz_160 (by decide +kernel))).trans ((h33 _ _ (inWa tgz_160 (by decide +kernel))).trans h21)) ((h43 _ _ (inWa tgz_160 (by decide +kernel))).trans ((h33 _ _ (inWa tgz_160 (by decide +kernel))).trans h22)) (by first | exact q_5b439548fc h25 | omega) (by first | exact q_b63f85b2d9 h37 h34.2 | omega) (by first | exact q_35104ce9d3 h51 h25 | omega) (by first | exact q_14f3993466 h51 h37 h34.2 | omega) (by first | exact q_2fedec469a h51 | omega) (by first | exact q_baf82f6f45 h51 h28 | omega)
        · refine En_Ps 1 (pc' := 25) (lv' := [(0, .ref 159), (1, .int a), (2, .int b), (3, .int y16), (4, .int y17)]) (st' := [.int y17]) rfl ?_
          refine En_callS rfl rfl rfl rfl rfl rfl rfl rfl rfl (c_203b σ31 h32 y17) (by decide) (by decide) (fun v53 σ54 h52 => ?_)
          obtain ⟨h55, h56, z58, rfl, h57⟩ := h52
          have h59 := Fr_trans h36 h56 (by decide +kernel)
          refine En_Ps 1 (pc' := 29) (lv' := [(0, .ref 159), (1, .int a), (2, .int b), (3, .int y16), (4, .int y17)]) (st' := [.int y16, .int z58]) rfl ?_
          refine En_callS rfl rfl rfl rfl rfl rfl rfl rfl rfl (c_203b σ54 h55 y16) (by decide) (by decide) (fun v61 σ62 h60 => ?_)
          obtain ⟨h63, h64, z66, rfl, h65⟩ := h60
          have h67 := Fr_trans h59 h64 (by decide +kernel)
          refine En_icGe _ rfl rfl rfl (fun h68 => ?_) (fun h68 => ?_)
          · refine En_Ps 1 (pc' := 52) (lv' := [(4, .int ((y17 + Int32.ofInt 1))), (0, .ref 159), (1, .int a), (2, .int b), (3, .int y16)]) (st' := []) rfl ?_
            refine En_lv1 (addI rfl (by decide : (Int32.ofInt 1).toInt = 1) (by first | exact q_465ab79ac1 h25 | omega) (by first | exact q_1d2cffc2f0 h26 | omega)) (fun z69 h70 => ?_)
            refine En_Ps 1 (pc' := 9) (lv' := [(4, .int z69), (0, .ref 159), (1, .int a), (2, .int b), (3, .int y16)]) (st' := []) rfl ?_
            refine En_lv (lv := [(0, .ref 159), (1, .int a), (2, .int b), (3, .int y16), (4, .int z69)]) ⟨rfl, rfl, rfl, rfl, rfl, trivial⟩ ?_
            exact ih9 σ62 y16 z69 h63 h67 ((h64 _ _ (inWa tgz_160 (by decide +kernel))).trans ((h56 _ _ (inWa tgz_160 (by decide +kernel))).trans ((h33 _ _ (inWa tgz_160 (by decide +kernel))).trans h21))) ((h64 _ _ (inWa tgz_160 (by decide +kernel))).trans ((h56 _ _ (inWa tgz_160 (by decide +kernel))).trans ((h33 _ _ (inWa tgz_160 (by decide +kernel))).trans h22))) (by first | exact q_8d1c67ec40 h38 h23 | omega) (by first | exact q_36eb0a70bf h24 | omega) (by first | exact q_35104ce9d3 h70 h25 | omega) (by first | exact q_14f3993466 h70 h37 h34.2 | omega) (by first | exact q_6591527e3e h27 h70 | omega) (by first | exact q_baf82f6f45 h70 h28 | omega)
          · refine En_Ps 4 (pc' := 40) (lv' := [(0, .ref 159), (1, .int a), (2, .int b), (3, .int y16), (4, .int y17)]) (st' := [.int b, .int y17, .int a, .ref 159]) rfl ?_
            refine En_callV rfl rfl rfl rfl rfl rfl rfl rfl tgz_159 (by decide +kernel) rfl (c_275 σ62 h63 a y17 b) (by decide) (by decide) (fun v72 σ73 h71 => ?_)
            obtain ⟨h74, h75, z77, rfl, h76⟩ := h71
            have h78 := Fr_trans h67 h75 (by decide +kernel)
            refine En_iEq _ rfl rfl (fun h79 => ?_) (fun h79 => ?_)
            · refine En_Ps 1 (pc' := 52) (lv' := [(4, .int ((y17 + Int32.ofInt 1))), (0, .ref 159), (1, .int a), (2, .int b), (3, .int y16)]) (st' := []) rfl ?_
              refine En_lv1 (addI rfl (by decide : (Int32.ofInt 1).toInt = 1) (by first | exact q_465ab79ac1 h25 | omega) (by first | exact q_1d2cffc2f0 h26 | omega)) (fun z80 h81 => ?_)
              refine En_Ps 1 (pc' := 9) (lv' := [(4, .int z80), (0, .ref 159), (1, .int a), (2, .int b), (3, .int y16)]) (st' := []) rfl ?_
              refine En_lv (lv := [(0, .ref 159), (1, .int a), (2, .int b), (3, .int y16), (4, .int z80)]) ⟨rfl, rfl, rfl, rfl, rfl, trivial⟩ ?_
              exact ih9 σ73 y16 z80 h74 h78 ((h75 _ _ (inWa tgz_160 (by decide +kernel))).trans ((h64 _ _ (inWa tgz_160 (by decide +kernel))).trans ((h56 _ _ (inWa tgz_160 (by decide +kernel))).trans ((h33 _ _ (inWa tgz_160 (by decide +kernel))).trans h21)))) ((h75 _ _ (inWa tgz_160 (by decide +kernel))).trans ((h64 _ _ (inWa tgz_160 (by decide +kernel))).trans ((h56 _ _ (inWa tgz_160 (by decide +kernel))).trans ((h33 _ _ (inWa tgz_160 (by decide +kernel))).trans h22)))) (by first | exact q_8d1c67ec40 h38 h23 | omega) (by first | exact q_36eb0a70bf h24 | omega) (by first | exact q_35104ce9d3 h81 h25 | omega) (by first | exact q_14f3993466 h81 h37 h34.2 | omega) (by first | exact q_6591527e3e h27 h81 | omega) (by first | exact q_baf82f6f45 h81 h28 | omega)
            · refine En_Ps 3 (pc' := 52) (lv' := [(4, .int ((y17 + Int32.ofInt 1))), (3, .int y17), (0, .ref 159), (1, .int a), (2, .int b)]) (st' := []) rfl ?_
              refine En_lv1 (addI rfl (by decide : (Int32.ofInt 1).toInt = 1) (by first | exact q_465ab79ac1 h25 | omega) (by first | exact q_1d2cffc2f0 h26 | omega)) (fun z82 h83 => ?_)
              refine En_Ps 1 (pc' := 9) (lv' := [(4, .int z82), (3, .int y17), (0, .ref 159), (1, .int a), (2, .int b)]) (st' := []) rfl ?_
              refine En_lv (lv := [(0, .ref 159), (1, .int a), (2, .int b), (3, .int y17), (4, .int z82)]) ⟨rfl, rfl, rfl, rfl, rfl, trivial⟩ ?_
              exact ih9 σ73 y17 z82 h74 h78 ((h75 _ _ (inWa tgz_160 (by decide +kernel))).trans ((h64 _ _ (inWa tgz_160 (by decide +kernel))).trans ((h56 _ _ (inWa tgz_160 (by decide +kernel))).trans ((h33 _ _ (inWa tgz_160 (by decide +kernel))).trans h21)))) ((h75 _ _ (inWa tgz_160 (by decide +kernel))).trans ((h64 _ _ (inWa tgz_160 (by decide +kernel))).trans ((h56 _ _ (inWa tgz_160 (by decide +kernel))).trans ((h33 _ _ (inWa tgz_160 (by decide +kernel))).trans h22)))) (by first | exact q_5b439548fc h25 | omega) (by first | exact q_b63f85b2d9 h37 h34.2 | omega) (by first | exact q_35104ce9d3 h83 h25 | omega) (by first | exact q_14f3993466 h83 h37 h34.2 | omega) (by first | exact q_2fedec469a h83 | omega) (by first | exact q_baf82f6f45 h83 h28 | omega)
  have := (by decide : (Int32.ofInt (-1)).toInt = -1)
  have := (by decide : (Int32.ofInt 0).toInt = 0)
  refine En_lv (lv := [(0, .ref 159), (1, .int a), (2, .int b), (3, .int ((Int32.ofInt (-1)))), (4, .int ((Int32.ofInt 0)))]) ⟨rfl, rfl, rfl, rfl, rfl, trivial⟩ ?_
  exact key9 (Int.toNat (65536) + 1) σ11 ((Int32.ofInt (-1))) ((Int32.ofInt 0)) h12 h15 ((h13 _ _ (inWa tgz_160 (by decide +kernel))).trans h1) ((h13 _ _ (inWa tgz_160 (by decide +kernel))).trans h5) (by decide) (by decide) (by decide) (by decide) (by omega) (by first | exact toN_lt _ | omega)

