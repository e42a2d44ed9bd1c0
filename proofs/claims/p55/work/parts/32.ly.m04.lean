/-! 32.ly.m04 -/
section
/-- DoorSchoolModel.isRight(II)Z -/
abbrev P_262 (σ0 : SG) (a : Int32) (b : Int32) : PO := fun v σ => WT σ ∧ Fr [] σ0 σ ∧ ∃ ret : Int32, v = some (Value.int ret) ∧ -ret.toInt ≤ 0 ∧ ret.toInt - 1 ≤ 0
set_option maxRecDepth 10000 in
set_option maxHeartbeats 4000000 in
theorem c_262 (σ0 : SG) (hσ0 : WT σ0) (a : Int32) (b : Int32) (hl_b : 0 ≤ b.toInt) (hu_b : b.toInt ≤ 11) : En 1 21 none mr_262 (P_262 σ0 a b) 0 [(0, .ref 159), (1, .int a), (2, .int b)] [] σ0 := by
  have hF0 : Fr [] σ0 σ0 := Fr_rfl
  refine En_Ps 2 (pc' := 2) (lv' := [(0, .ref 159), (1, .int a), (2, .int b)]) (st' := [.ref 159, .int a]) rfl ?_
  refine En_getU (j := 1) (u := 160) (g' := 36) (q := 0) rfl rfl rfl tgz_159 (by decide +kernel) hσ0 (by decide +kernel) un_36_160 (fun h1 => ?_)
  refine En_Ps 4 (pc' := 10) (lv' := [(0, .ref 159), (1, .int a), (2, .int b)]) (st' := [.int ((((Int32.ofInt 2)) * b)), .int (((Int8.ofInt 122).toInt32)), .ref 160, .int a]) rfl ?_
  refine En_top (mulI (by decide : (Int32.ofInt 2).toInt = 2) rfl (Z := 2 * b.toInt) (by first | exact q_9c4c04fc55 | omega) (by first | exact q_1f719a6719 hl_b | omega) (by first | exact q_bf58a8e369 hu_b | omega)) (fun z3 h4 => ?_)
  refine En_Ps 1 (pc' := 11) (lv' := [(0, .ref 159), (1, .int a), (2, .int b)]) (st' := [.int (((((Int8.ofInt 122).toInt32)) + z3)), .ref 160, .int a]) rfl ?_
  refine En_top (addI (by decide : ((Int8.ofInt 122).toInt32).toInt = 122) rfl (by first | exact q_db5ae3ba43 h4 hl_b | omega) (by first | exact q_980499a3f7 h4 hu_b | omega)) (fun z5 h6 => ?_)
  refine En_iald (l := 0) (u := 15) rfl rfl tgz_160 (by decide +kernel) hσ0 (by first | exact q_64d61ee948 h6 h4 hl_b | omega) (lnI (by decide +kernel : LN _ = 226) (by first | exact q_9195ce1bbe h6 h4 hu_b | omega)) (FTrow 36 122 2 12 (by decide +kernel) (by first | exact q_0f5bf67c96 h6 h4 hl_b | omega) (by first | exact q_7afdcc2125 h6 h4 hu_b | omega) (by first | exact q_996e6edde7 h4 h6 | omega)) (fun z8 h7 h9 h10 => ?_)
  refine En_callS rfl rfl rfl rfl rfl rfl rfl rfl rfl (c_202b σ0 hσ0 a z8) (by decide) (by decide) (fun v12 σ13 h11 => ?_)
  obtain ⟨h14, h15, z17, rfl, h16⟩ := h11
  have h18 := Fr_trans hF0 h15 (by decide +kernel)
  refine En_Ps 1 (pc' := 16) (lv' := [(0, .ref 159), (1, .int a), (2, .int b)]) (st' := [.ref 159, .int z17]) rfl ?_
  refine En_getK (j := 1) ((h15 _ _ (inW tgz_159 (by decide +kernel))).trans h1) rfl rfl rfl tgz_159 (by decide +kernel) ?_
  refine En_Ps 4 (pc' := 24) (lv' := [(0, .ref 159), (1, .int a), (2, .int b)]) (st' := [.int ((((Int32.ofInt 2)) * b)), .int (((Int8.ofInt 122).toInt32)), .ref 160, .int z17]) rfl ?_
  refine En_top (mulI (by decide : (Int32.ofInt 2).toInt = 2) rfl (Z := 2 * b.toInt) (by first | exact q_9c4c04fc55 | omega) (by first | exact q_1f719a6719 hl_b | omega) (by first | exact q_bf58a8e369 hu_b | omega)) (fun z19 h20 => ?_)
  refine En_Ps 1 (pc' := 25) (lv' := [(0, .ref 159), (1, .int a), (2, .int b)]) (st' := [.int (((((Int8.ofInt 122).toInt32)) + z19)), .ref 160, .int z17]) rfl ?_
  refine En_top (addI (by decide : ((Int8.ofInt 122).toInt32).toInt = 122) rfl (by first | exact q_db5ae3ba43 h20 hl_b | omega) (by first | exact q_980499a3f7 h20 hu_b | omega)) (fun z21 h22 => ?_)
  refine En_Ps 2 (pc' := 27) (lv' := [(0, .ref 159), (1, .int a), (2, .int b)]) (st' := [.int ((z21 + ((Int32.ofInt 1)))), .ref 160, .int z17]) rfl ?_
  refine En_top (addI rfl (by decide : (Int32.ofInt 1).toInt = 1) (by first | exact q_e5430b869d h22 h20 hl_b | omega) (by first | exact q_15a2e70db3 h22 h20 hu_b | omega)) (fun z23 h24 => ?_)
  refine En_iald (l := 0) (u := 1) rfl rfl tgz_160 (by decide +kernel) h14 (by first | exact q_a542ff144c h24 h22 h20 hl_b | omega) (lnI (by decide +kernel : LN _ = 226) (by first | exact q_cac7faa38b h24 h22 h20 hu_b | omega)) (FTrow 36 123 2 12 (by decide +kernel) (by first | exact q_5a03b0472f h24 h22 h20 hl_b | omega) (by first | exact q_0f8d1348a3 h24 h22 h20 hu_b | omega) (by first | exact q_4529a0017e h20 h22 h24 | omega)) (fun z26 h25 h27 h28 => ?_)
  refine En_icNe _ rfl rfl rfl (fun h29 => ?_) (fun h29 => ?_)
  · refine En_Ps 1 (pc' := 36) (lv' := [(0, .ref 159), (1, .int a), (2, .int b)]) (st' := [.int ((Int32.ofInt 0))]) rfl ?_
    refine En_top (by decide : (Int32.ofInt 0).toInt = 0) (fun z30 h31 => ?_)
    exact En_ret (v := some (Value.int z30)) rfl rfl (retZ rfl rfl (by first | exact q_55451d0a83 h31 | omega) (by first | exact q_87849c3859 h31 | omega)) ⟨h14, h18, z30, rfl, ⟨by first | exact q_097a37c2ae h31 | omega, by first | exact q_e269517bee h31 | omega⟩⟩
  · refine En_Ps 2 (pc' := 36) (lv' := [(0, .ref 159), (1, .int a), (2, .int b)]) (st' := [.int ((Int32.ofInt 1))]) rfl ?_
    refine En_top (by decide : (Int32.ofInt 1).toInt = 1) (fun z32 h33 => ?_)
    exact En_ret (v := some (Value.int z32)) rfl rfl (retZ rfl rfl (by first | exact q_2b07c97645 h33 | omega) (by first | exact q_d9e7cbb253 h33 | omega)) ⟨h14, h18, z32, rfl, ⟨by first | exact q_ad3eee31ca h33 | omega, by first | exact q_81cf297dc4 h33 | omega⟩⟩
/-- DoorSchoolModel.marksBy(I)I -/
abbrev P_283 (σ0 : SG) (a : Int32) : PO := fun v σ => WT σ ∧ Fr [] σ0 σ ∧ ∃ ret : Int32, v = some (Value.int ret) ∧ -ret.toInt ≤ 0 ∧ ret.toInt - 13 ≤ 0
set_option maxRecDepth 10000 in
set_option maxHeartbeats 4000000 in
theorem c_283 (σ0 : SG) (hσ0 : WT σ0) (a : Int32) : En 2 43 none mr_283 (P_283 σ0 a) 0 [(0, .ref 159), (1, .int a)] [] σ0 := by
  have hF0 : Fr [] σ0 σ0 := Fr_rfl
  refine En_Ps 4 (pc' := 4) (lv' := [(3, .int ((Int32.ofInt 0))), (2, .int ((Int32.ofInt 0))), (0, .ref 159), (1, .int a)]) (st' := []) rfl ?_
  have key4 : ∀ (n4 : Nat) (σ3 : SG) (y1 : Int32) (y2 : Int32), WT σ3 → Fr [] σ0 σ3 → 0 ≤ y1.toInt → y1.toInt ≤ 13 → 0 ≤ y2.toInt → y2.toInt ≤ 13 → y1.toInt - y2.toInt ≤ 0 → -y2.toInt + 13 < (n4 : Int) → En 2 43 none mr_283 (P_283 σ0 a) 4 [(0, .ref 159), (1, .int a), (2, .int y1), (3, .int y2)] [] σ3 := by
    intro n4
    induction n4 with
    | zero =>
      intro σ3 y1 y2 h4 h5 h6 h7 h8 h9 h10 h11
      first | exact (q_5583ec5aac h11 h9).elim | (exfalso; omega)
    | succ n4 ih4 =>
      intro σ3 y1 y2 h4 h5 h6 h7 h8 h9 h10 h11
      refine En_Ps 2 (pc' := 6) (lv' := [(0, .ref 159), (1, .int a), (2, .int y1), (3, .int y2)]) (st' := [.ref 159, .int y2]) rfl ?_
      refine En_getU (j := 1) (u := 160) (g' := 36) (q := 0) rfl rfl rfl tgz_159 (by decide +kernel) h4 (by decide +kernel) un_36_160 (fun h12 => ?_)
      refine En_Ps 1 (pc' := 10) (lv' := [(0, .ref 159), (1, .int a), (2, .int y1), (3, .int y2)]) (st' := [.int ((Int32.ofInt 3)), .ref 160, .int y2]) rfl ?_
      refine En_iald (l := 0) (u := 12) rfl (by decide : (Int32.ofInt 3).toInt = 3) tgz_160 (by decide +kernel) h4 (by decide) (lnI (by decide +kernel : LN _ = 226) (by decide)) (by decide +kernel) (fun z15 h14 h16 h17 => ?_)
      refine En_icGe _ rfl rfl rfl (fun h18 => ?_) (fun h18 => ?_)
      · refine En_Ps 1 (pc' := 38) (lv' := [(0, .ref 159), (1, .int a), (2, .int y1), (3, .int y2)]) (st' := [.int y1]) rfl ?_
        exact En_ret (v := some (Value.int y1)) rfl rfl rfl ⟨h4, h5, y1, rfl, ⟨by first | exact q_c803b490ef h6 | omega, by first | exact q_5fe2809411 h7 | omega⟩⟩
      · refine En_Ps 4 (pc' := 18) (lv' := [(0, .ref 159), (1, .int a), (2, .int y1), (3, .int y2)]) (st' := [.int y2, .int a, .ref 159, .int y1]) rfl ?_
        refine En_callV rfl rfl rfl rfl rfl rfl rfl rfl tgz_159 (by decide +kernel) rfl (c_262 σ3 h4 a y2 (geI rfl (by first | exact q_58e6e51dcc h8 | omega)) (leI rfl (by first | exact q_a30ae353ab h18 h17 | omega))) (by decide) (by decide) (fun v20 σ21 h19 => ?_)
        obtain ⟨h22, h23, z25, rfl, h24⟩ := h19
        have h26 := Fr_trans h5 h23 (by decide +kernel)
        refine En_iEq _ rfl rfl (fun h27 => ?_) (fun h27 => ?_)
        · refine En_Ps 2 (pc' := 30) (lv' := [(0, .ref 159), (1, .int a), (2, .int y1), (3, .int y2)]) (st' := [.int ((y1 + ((Int32.ofInt 0))))]) rfl ?_
          refine En_top (addI rfl (by decide : (Int32.ofInt 0).toInt = 0) (by first | exact q_2f569dfca1 h6 | omega) (by first | exact q_8ee35fe012 h7 | omega)) (fun z28 h29 => ?_)
          refine En_Ps 2 (pc' := 34) (lv' := [(3, .int ((y2 + Int32.ofInt 1))), (2, .int z28), (0, .ref 159), (1, .int a)]) (st' := []) rfl ?_
          refine En_lv1 (addI rfl (by decide : (Int32.ofInt 1).toInt = 1) (by first | exact q_465ab79ac1 h8 | omega) (by first | exact q_d22f73d43b h9 | omega)) (fun z30 h31 => ?_)
          refine En_Ps 1 (pc' := 4) (lv' := [(3, .int z30), (2, .int z28), (0, .ref 159), (1, .int a)]) (st' := []) rfl ?_
          refine En_lv (lv := [(0, .ref 159), (1, .int a), (2, .int z28), (3, .int z30)]) ⟨rfl, rfl, rfl, rfl, trivial⟩ ?_
          exact ih4 σ21 z28 z30 h22 h26 (by first | exact q_771c4e5138 h29 h6 | omega) (by first | exact q_b02ac9e014 h29 h7 | omega) (by first | exact q_35104ce9d3 h31 h8 | omega) (by first | exact q_612d48f5a1 h31 h18 h17 | omega) (by first | exact q_969c4fd5e6 h29 h31 h10 | omega) (by first | exact q_20fedeb4b2 h31 h11 | omega)
        · refine En_Ps 3 (pc' := 30) (lv' := [(0, .ref 159), (1, .int a), (2, .int y1), (3, .int y2)]) (st' := [.int ((y1 + ((Int32.ofInt 1))))]) rfl ?_
          refine En_top (addI rfl (by decide : (Int32.ofInt 1).toInt = 1) (by first | exact q_465ab79ac1 h6 | omega) (by first | exact q_d22f73d43b h7 | omega)) (fun z32 h33 => ?_)
          refine En_Ps 2 (pc' := 34) (lv' := [(3, .int ((y2 + Int32.ofInt 1))), (2, .int z32), (0, .ref 159), (1, .int a)]) (st' := []) rfl ?_
          refine En_lv1 (addI rfl (by decide : (Int32.ofInt 1).toInt = 1) (by first | exact q_465ab79ac1 h8 | omega) (by first | exact q_d22f73d43b h9 | omega)) (fun z34 h35 => ?_)
          refine En_Ps 1 (pc' := 4) (lv' := [(3, .int z34), (2, .int z32), (0, .ref 159), (1, .int a)]) (st' := []) rfl ?_
          refine En_lv (lv := [(0, .ref 159), (1, .int a), (2, .int z32), (3, .int z34)]) ⟨rfl, rfl, rfl, rfl, trivial⟩ ?_
          exact ih4 σ21 z32 z34 h22 h26 (by first | exact q_35104ce9d3 h33 h6 | omega) (by first | exact q_df44af06dd h33 h10 h18 h17 | omega) (by first | exact q_35104ce9d3 h35 h8 | omega) (by first | exact q_612d48f5a1 h35 h18 h17 | omega) (by first | exact q_1ff421e7a2 h33 h35 h10 | omega) (by first | exact q_20fedeb4b2 h35 h11 | omega)
  have := (by decide : (Int32.ofInt 0).toInt = 0)
  have := (by decide : (Int32.ofInt 0).toInt = 0)
  refine En_lv (lv := [(0, .ref 159), (1, .int a), (2, .int ((Int32.ofInt 0))), (3, .int ((Int32.ofInt 0)))]) ⟨rfl, rfl, rfl, rfl, trivial⟩ ?_
  exact key4 (Int.toNat (13) + 1) σ0 ((Int32.ofInt 0)) ((Int32.ofInt 0)) hσ0 hF0 (by decide) (by decide) (by decide) (by decide) (by (first | exact q_1bb76abeaf | omega)) (by first | exact toN_lt _ | omega)
/-- DoorSchoolModel.best()I -/
abbrev P_201 (σ0 : SG) : PO := fun v σ => WT σ ∧ Fr [(35, 18), (35, 21), (42, 0), (43, 0), (44, 0), (45, 0), (46, 0)] σ0 σ ∧ ∃ ret : Int32, v = some (Value.int ret) ∧ -ret.toInt - 2 ≤ 0 ∧ ret.toInt - 3 ≤ 0
set_option maxRecDepth 10000 in
set_option maxHeartbeats 4000000 in
theorem c_201 (σ0 : SG) (hσ0 : WT σ0) : En 5 112 none mr_201 (P_201 σ0) 0 [(0, .ref 159)] [] σ0 := by
  have hF0 : Fr [(35, 18), (35, 21), (42, 0), (43, 0), (44, 0), (45, 0), (46, 0)] σ0 σ0 := Fr_rfl
  refine En_Ps 1 (pc' := 1) (lv' := [(0, .ref 159)]) (st' := [.ref 159]) rfl ?_
  obtain ⟨z2, h1, h3, h4⟩ := WT_peekI hσ0 tgz_160 (by decide +kernel : FT 36 (7 : Int).toNat = (0, 0, 1600)) (by decide +kernel)
  refine En_callV rfl rfl rfl rfl rfl rfl rfl rfl tgz_159 (by decide +kernel) rfl (c_264 σ0 hσ0 z2 h1) (by decide) (by decide) (fun v6 σ7 h5 => ?_)
  obtain ⟨h8, h9, z11, rfl, h10⟩ := h5
  have h12 := Fr_trans hF0 h9 (by decide +kernel)
  refine En_iNe _ rfl rfl (fun h13 => ?_) (fun h13 => ?_)
  · refine En_Ps 4 (pc' := 14) (lv' := [(2, .int ((Int32.ofInt 0))), (1, .int ((Int32.ofInt (-1)))), (0, .ref 159)]) (st' := []) rfl ?_
    have key14 : ∀ (n14 : Nat) (σ16 : SG) (y14 : Int32) (y15 : Int32), WT σ16 → Fr [(35, 18), (35, 21), (42, 0), (43, 0), (44, 0), (45, 0), (46, 0)] σ0 σ16 → (σ16 160)[(7 : Int).toNat]? = some (Value.int z2) → (-1) ≤ y14.toInt → y14.toInt ≤ 3 → 0 ≤ y15.toInt → y15.toInt ≤ 4 → y14.toInt - y15.toInt + 1 ≤ 0 → -y15.toInt + 4 < (n14 : Int) → En 5 112 none mr_201 (P_201 σ0) 14 [(0, .ref 159), (1, .int y14), (2, .int y15)] [] σ16 := by
      intro n14
      induction n14 with
      | zero =>
        intro σ16 y14 y15 h17 h18 h19 h20 h21 h22 h23 h24 h25
        first | exact (q_20d6385c6f h25 h23).elim | (exfalso; omega)
      | succ n14 ih14 =>
        intro σ16 y14 y15 h17 h18 h19 h20 h21 h22 h23 h24 h25
        refine En_Ps 2 (pc' := 16) (lv' := [(0, .ref 159), (1, .int y14), (2, .int y15)]) (st' := [.ref 159, .int y15]) rfl ?_
        refine En_getU (j := 1) (u := 160) (g' := 36) (q := 0) rfl rfl rfl tgz_159 (by decide +kernel) h17 (by decide +kernel) un_36_160 (fun h26 => ?_)
        refine En_Ps 1 (pc' := 20) (lv' := [(0, .ref 159), (1, .int y14), (2, .int y15)]) (st' := [.int ((Int32.ofInt 2)), .ref 160, .int y15]) rfl ?_
        refine En_iald (l := 0) (u := 4) rfl (by decide : (Int32.ofInt 2).toInt = 2) tgz_160 (by decide +kernel) h17 (by decide) (lnI (by decide +kernel : LN _ = 226) (by decide)) (by decide +kernel) (fun z29 h28 h30 h31 => ?_)
        refine En_icGe _ rfl rfl rfl (fun h32 => ?_) (fun h32 => ?_)
        · refine En_Ps 1 (pc' := 59) (lv' := [(0, .ref 159), (1, .int y14), (2, .int y15)]) (st' := [.int y14]) rfl ?_
          exact En_ret (v := some (Value.int y14)) rfl rfl rfl ⟨h17, h18, y14, rfl, ⟨by first | exact q_fe58cd40d0 h20 | omega, by first | exact q_e9a8eec0c4 h21 | omega⟩⟩
        · refine En_Ps 2 (pc' := 26) (lv' := [(0, .ref 159), (1, .int y14), (2, .int y15)]) (st' := [.int ((Int32.ofInt (-1))), .int y14]) rfl ?_
          refine En_icEq _ rfl (by decide : (Int32.ofInt (-1)).toInt = -1) rfl (fun h33 => ?_) (fun h33 => ?_)
          · refine En_Ps 3 (pc' := 55) (lv' := [(2, .int ((y15 + Int32.ofInt 1))), (1, .int y15), (0, .ref 159)]) (st' := []) rfl ?_
            refine En_lv1 (addI rfl (by decide : (Int32.ofInt 1).toInt = 1) (by first | exact q_465ab79ac1 h22 | omega) (by first | exact q_f7282962fd h23 | omega)) (fun z34 h35 => ?_)
            refine En_Ps 1 (pc' := 14) (lv' := [(2, .int z34), (1, .int y15), (0, .ref 159)]) (st' := []) rfl ?_
            refine En_lv (lv := [(0, .ref 159), (1, .int y15), (2, .int z34)]) ⟨rfl, rfl, rfl, trivial⟩ ?_
            exact ih14 σ16 y15 z34 h17 h18 h19 (by first | exact q_5b439548fc h22 | omega) (by first | exact q_5ab2e90ecc h32 h31 | omega) (by first | exact q_35104ce9d3 h35 h22 | omega) (by first | exact q_de42116b63 h35 h32 h31 | omega) (by first | exact q_2fedec469a h35 | omega) (by first | exact q_3d8d70ace2 h35 h25 | omega)
          · refine En_Ps 3 (pc' := 32) (lv' := [(0, .ref 159), (1, .int y14), (2, .int y15)]) (st' := [.int y15, .ref 159, .ref 159]) rfl ?_
            refine En_callV rfl rfl rfl rfl rfl rfl rfl rfl tgz_159 (by decide +kernel) rfl (c_213 σ16 h17 y15 (geI rfl (by first | exact q_58e6e51dcc h22 | omega)) (leI rfl (by first | exact q_5ab2e90ecc h32 h31 | omega))) (by decide) (by decide) (fun v37 σ38 h36 => ?_)
            obtain ⟨h39, h40, z42, h43, z44, rfl, h41⟩ := h36
            have h45 := Fr_trans h18 h40 (by decide +kernel)
            refine En_callV rfl rfl rfl rfl rfl rfl rfl rfl tgz_159 (by decide +kernel) rfl (c_283 σ38 h39 z44) (by decide) (by decide) (fun v47 σ48 h46 => ?_)
            obtain ⟨h49, h50, z52, rfl, h51⟩ := h46
            have h53 := Fr_trans h45 h50 (by decide +kernel)
            refine En_Ps 3 (pc' := 41) (lv' := [(0, .ref 159), (1, .int y14), (2, .int y15)]) (st' := [.int y14, .ref 159, .ref 159, .int z52]) rfl ?_
            refine En_callV rfl rfl rfl rfl rfl rfl rfl rfl tgz_159 (by decide +kernel) rfl (c_213 σ48 h49 y14 (geI rfl (by first | exact q_eab05c2344 h33 h20 | omega)) (leI rfl (by first | exact q_da5e9b976f h21 | omega))) (by decide) (by decide) (fun v55 σ56 h54 => ?_)
            obtain ⟨h57, h58, z60, h61, z62, rfl, h59⟩ := h54
            have h63 := Fr_trans h53 h58 (by decide +kernel)
            refine En_callV rfl rfl rfl rfl rfl rfl rfl rfl tgz_159 (by decide +kernel) rfl (c_283 σ56 h57 z62) (by decide) (by decide) (fun v65 σ66 h64 => ?_)
            obtain ⟨h67, h68, z70, rfl, h69⟩ := h64
            have h71 := Fr_trans h63 h68 (by decide +kernel)
            refine En_icLe _ rfl rfl rfl (fun h72 => ?_) (fun h72 => ?_)
            · refine En_Ps 1 (pc' := 55) (lv' := [(2, .int ((y15 + Int32.ofInt 1))), (0, .ref 159), (1, .int y14)]) (st' := []) rfl ?_
              refine En_lv1 (addI rfl (by decide : (Int32.ofInt 1).toInt = 1) (by first | exact q_465ab79ac1 h22 | omega) (by first | exact q_f7282962fd h23 | omega)) (fun z73 h74 => ?_)
              refine En_Ps 1 (pc' := 14) (lv' := [(2, .int z73), (0, .ref 159), (1, .int y14)]) (st' := []) rfl ?_
              refine En_lv (lv := [(0, .ref 159), (1, .int y14), (2, .int z73)]) ⟨rfl, rfl, rfl, trivial⟩ ?_
              exact ih14 σ66 y14 z73 h67 h71 ((h68 _ _ (inWa tgz_160 (by decide +kernel))).trans ((h58 _ _ (inWa tgz_160 (by decide +kernel))).trans ((h50 _ _ (inWa tgz_160 (by decide +kernel))).trans ((h40 _ _ (inWa tgz_160 (by decide +kernel))).trans h19)))) (by first | exact q_8d1c67ec40 h33 h20 | omega) (by first | exact q_da5e9b976f h21 | omega) (by first | exact q_35104ce9d3 h74 h22 | omega) (by first | exact q_de42116b63 h74 h32 h31 | omega) (by first | exact q_6591527e3e h24 h74 | omega) (by first | exact q_3d8d70ace2 h74 h25 | omega)
            · refine En_Ps 3 (pc' := 55) (lv' := [(2, .int ((y15 + Int32.ofInt 1))), (1, .int y15), (0, .ref 159)]) (st' := []) rfl ?_
              refine En_lv1 (addI rfl (by decide : (Int32.ofInt 1).toInt = 1) (by first | exact q_465ab79ac1 h22 | omega) (by first | exact q_f7282962fd h23 | omega)) (fun z75 h76 => ?_)
              refine En_Ps 1 (pc' := 14) (lv' := [(2, .int z75), (1, .int y15), (0, .ref 159)]) (st' := []) rfl ?_
              refine En_lv (lv := [(0, .ref 159), (1, .int y15), (2, .int z75)]) ⟨rfl, rfl, rfl, trivial⟩ ?_
              exact ih14 σ66 y15 z75 h67 h71 ((h68 _ _ (inWa tgz_160 (by decide +kernel))).trans ((h58 _ _ (inWa tgz_160 (by decide +kernel))).trans ((h50 _ _ (inWa tgz_160 (by decide +kernel))).trans ((h40 _ _ (inWa tgz_160 (by decide +kernel))).trans h19)))) (by first | exact q_5b439548fc h22 | omega) (by first | exact q_5ab2e90ecc h32 h31 | omega) (by first | exact q_35104ce9d3 h76 h22 | omega) (by first | exact q_de42116b63 h76 h32 h31 | omega) (by first | exact q_2fedec469a h76 | omega) (by first | exact q_3d8d70ace2 h76 h25 | omega)
    have := (by decide : (Int32.ofInt (-1)).toInt = -1)
    have := (by decide : (Int32.ofInt 0).toInt = 0)
    refine En_lv (lv := [(0, .ref 159), (1, .int ((Int32.ofInt (-1)))), (2, .int ((Int32.ofInt 0)))]) ⟨rfl, rfl, rfl, trivial⟩ ?_
    exact key14 (Int.toNat (4) + 1) σ7 ((Int32.ofInt (-1))) ((Int32.ofInt 0)) h8 h12 ((h9 _ _ (inWa tgz_160 (by decide +kernel))).trans h1) (by decide) (by decide) (by decide) (by decide) (by (first | exact q_2e3352c2b4 this (by decide) | omega)) (by first | exact toN_lt _ | omega)
  · refine En_Ps 1 (pc' := 9) (lv' := [(0, .ref 159)]) (st' := [.int (((Int8.ofInt (-2)).toInt32))]) rfl ?_
    refine En_top (by decide : ((Int8.ofInt (-2)).toInt32).toInt = -2) (fun z77 h78 => ?_)
    exact En_ret (v := some (Value.int z77)) rfl rfl rfl ⟨h8, h12, z77, rfl, ⟨by first | exact q_f35c5d346c h78 | omega, by first | exact q_09eb541a79 h78 | omega⟩⟩
/-- DoorSchoolModel.count(I)I -/
abbrev P_206 (σ0 : SG) (a : Int32) : PO := fun v σ => WT σ ∧ Fr [] σ0 σ ∧ ∃ ret : Int32, v = some (Value.int ret) ∧ -ret.toInt - 1 ≤ 0 ∧ ret.toInt - 1600 ≤ 0
set_option maxRecDepth 10000 in
set_option maxHeartbeats 4000000 in
theorem c_206 (σ0 : SG) (hσ0 : WT σ0) (a : Int32) : En 0 0 none mr_206 (P_206 σ0 a) 0 [(0, .ref 159), (1, .int a)] [] σ0 := by
  have hF0 : Fr [] σ0 σ0 := Fr_rfl
  refine En_Ps 3 (pc' := 3) (lv' := [(2, .int ((Int32.ofInt 0))), (0, .ref 159), (1, .int a)]) (st' := [.int a]) rfl ?_
  rcases (show a.toInt = 0 ∨ a.toInt = 1 ∨ a.toInt = 2 ∨ a.toInt = 3 ∨ a.toInt = 4 ∨ a.toInt = 5 ∨ a.toInt = 6 ∨ a.toInt = 7 ∨ a.toInt = 8 ∨ a.toInt = 9 ∨ a.toInt < 0 ∨ 9 < a.toInt by (first | exact q_39edcd9006 | omega)) with h1 | h1 | h1 | h1 | h1 | h1 | h1 | h1 | h1 | h1 | h1 | h1
  · refine En_swI (t := 56) (n := 0) rfl h1 rfl (by decide +kernel) ?_
    refine En_Ps 1 (pc' := 57) (lv' := [(2, .int ((Int32.ofInt 0))), (0, .ref 159), (1, .int a)]) (st' := [.ref 159]) rfl ?_
    refine En_getU (j := 1) (u := 160) (g' := 36) (q := 0) rfl rfl rfl tgz_159 (by decide +kernel) hσ0 (by decide +kernel) un_36_160 (fun h2 => ?_)
    refine En_Ps 1 (pc' := 61) (lv' := [(2, .int ((Int32.ofInt 0))), (0, .ref 159), (1, .int a)]) (st' := [.int ((Int32.ofInt 0)), .ref 160]) rfl ?_
    refine En_iald (l := 0) (u := 4) rfl (by decide : (Int32.ofInt 0).toInt = 0) tgz_160 (by decide +kernel) hσ0 (by decide) (lnI (by decide +kernel : LN _ = 226) (by decide)) (by decide +kernel) (fun z5 h4 h6 h7 => ?_)
    exact En_ret (v := some (Value.int z5)) rfl rfl rfl ⟨hσ0, hF0, z5, rfl, ⟨by first | exact q_565e7b05df h6 | omega, by first | exact q_9297e6e4ff h7 | omega⟩⟩
  · refine En_swI (t := 63) (n := 1) rfl h1 rfl (by decide +kernel) ?_
    refine En_Ps 1 (pc' := 64) (lv' := [(2, .int ((Int32.ofInt 0))), (0, .ref 159), (1, .int a)]) (st' := [.ref 159]) rfl ?_
    refine En_getU (j := 1) (u := 160) (g' := 36) (q := 0) rfl rfl rfl tgz_159 (by decide +kernel) hσ0 (by decide +kernel) un_36_160 (fun h8 => ?_)
    refine En_Ps 1 (pc' := 68) (lv' := [(2, .int ((Int32.ofInt 0))), (0, .ref 159), (1, .int a)]) (st' := [.int ((Int32.ofInt 1)), .ref 160]) rfl ?_
    refine En_iald (l := 0) (u := 3) rfl (by decide : (Int32.ofInt 1).toInt = 1) tgz_160 (by decide +kernel) hσ0 (by decide) (lnI (by decide +kernel : LN _ = 226) (by decide)) (by decide +kernel) (fun z11 h10 h12 h13 => ?_)
    exact En_ret (v := some (Value.int z11)) rfl rfl rfl ⟨hσ0, hF0, z11, rfl, ⟨by first | exact q_565e7b05df h12 | omega, by first | exact q_d82ac32af9 h13 | omega⟩⟩
  · refine En_swI (t := 70) (n := 2) rfl h1 rfl (by decide +kernel) ?_
    refine En_Ps 1 (pc' := 71) (lv' := [(2, .int ((Int32.ofInt 0))), (0, .ref 159), (1, .int a)]) (st' := [.ref 159]) rfl ?_
    refine En_getU (j := 1) (u := 160) (g' := 36) (q := 0) rfl rfl rfl tgz_159 (by decide +kernel) hσ0 (by decide +kernel) un_36_160 (fun h14 => ?_)
    refine En_Ps 1 (pc' := 75) (lv' := [(2, .int ((Int32.ofInt 0))), (0, .ref 159), (1, .int a)]) (st' := [.int ((Int32.ofInt 2)), .ref 160]) rfl ?_
    refine En_iald (l := 0) (u := 4) rfl (by decide : (Int32.ofInt 2).toInt = 2) tgz_160 (by decide +kernel) hσ0 (by decide) (lnI (by decide +kernel : LN _ = 226) (by decide)) (by decide +kernel) (fun z17 h16 h18 h19 => ?_)
    exact En_ret (v := some (Value.int z17)) rfl rfl rfl ⟨hσ0, hF0, z17, rfl, ⟨by first | exact q_565e7b05df h18 | omega, by first | exact q_9297e6e4ff h19 | omega⟩⟩
  · refine En_swI (t := 77) (n := 3) rfl h1 rfl (by decide +kernel) ?_
    refine En_Ps 1 (pc' := 78) (lv' := [(2, .int ((Int32.ofInt 0))), (0, .ref 159), (1, .int a)]) (st' := [.ref 159]) rfl ?_
    refine En_getU (j := 1) (u := 160) (g' := 36) (q := 0) rfl rfl rfl tgz_159 (by decide +kernel) hσ0 (by decide +kernel) un_36_160 (fun h20 => ?_)
    refine En_Ps 1 (pc' := 82) (lv' := [(2, .int ((Int32.ofInt 0))), (0, .ref 159), (1, .int a)]) (st' := [.int ((Int32.ofInt 3)), .ref 160]) rfl ?_
    refine En_iald (l := 0) (u := 12) rfl (by decide : (Int32.ofInt 3).toInt = 3) tgz_160 (by decide +kernel) hσ0 (by decide) (lnI (by decide +kernel : LN _ = 226) (by decide)) (by decide +kernel) (fun z23 h22 h24 h25 => ?_)
    exact En_ret (v := some (Value.int z23)) rfl rfl rfl ⟨hσ0, hF0, z23, rfl, ⟨by first | exact q_565e7b05df h24 | omega, by first | exact q_b77617e4d6 h25 | omega⟩⟩
  · refine En_swI (t := 84) (n := 4) rfl h1 rfl (by decide +kernel) ?_
    refine En_Ps 1 (pc' := 85) (lv' := [(2, .int ((Int32.ofInt 0))), (0, .ref 159), (1, .int a)]) (st' := [.ref 159]) rfl ?_
    refine En_getU (j := 1) (u := 160) (g' := 36) (q := 0) rfl rfl rfl tgz_159 (by decide +kernel) hσ0 (by decide +kernel) un_36_160 (fun h26 => ?_)
    refine En_Ps 1 (pc' := 89) (lv' := [(2, .int ((Int32.ofInt 0))), (0, .ref 159), (1, .int a)]) (st' := [.int ((Int32.ofInt 4)), .ref 160]) rfl ?_
    refine En_iald (l := 0) (u := 4) rfl (by decide : (Int32.ofInt 4).toInt = 4) tgz_160 (by decide +kernel) hσ0 (by decide) (lnI (by decide +kernel : LN _ = 226) (by decide)) (by decide +kernel) (fun z29 h28 h30 h31 => ?_)
    exact En_ret (v := some (Value.int z29)) rfl rfl rfl ⟨hσ0, hF0, z29, rfl, ⟨by first | exact q_565e7b05df h30 | omega, by first | exact q_9297e6e4ff h31 | omega⟩⟩
  · refine En_swI (t := 91) (n := 5) rfl h1 rfl (by decide +kernel) ?_
    refine En_Ps 1 (pc' := 92) (lv' := [(2, .int ((Int32.ofInt 0))), (0, .ref 159), (1, .int a)]) (st' := [.ref 159]) rfl ?_
    refine En_getU (j := 1) (u := 160) (g' := 36) (q := 0) rfl rfl rfl tgz_159 (by decide +kernel) hσ0 (by decide +kernel) un_36_160 (fun h32 => ?_)
    refine En_Ps 1 (pc' := 96) (lv' := [(2, .int ((Int32.ofInt 0))), (0, .ref 159), (1, .int a)]) (st' := [.int ((Int32.ofInt 5)), .ref 160]) rfl ?_
    refine En_iald (l := 0) (u := 6) rfl (by decide : (Int32.ofInt 5).toInt = 5) tgz_160 (by decide +kernel) hσ0 (by decide) (lnI (by decide +kernel : LN _ = 226) (by decide)) (by decide +kernel) (fun z35 h34 h36 h37 => ?_)
    exact En_ret (v := some (Value.int z35)) rfl rfl rfl ⟨hσ0, hF0, z35, rfl, ⟨by first | exact q_565e7b05df h36 | omega, by first | exact q_378281995a h37 | omega⟩⟩
  · refine En_swI (t := 98) (n := 6) rfl h1 rfl (by decide +kernel) ?_
    refine En_Ps 1 (pc' := 99) (lv' := [(2, .int ((Int32.ofInt 0))), (0, .ref 159), (1, .int a)]) (st' := [.ref 159]) rfl ?_
    refine En_getU (j := 1) (u := 160) (g' := 36) (q := 0) rfl rfl rfl tgz_159 (by decide +kernel) hσ0 (by decide +kernel) un_36_160 (fun h38 => ?_)
    refine En_Ps 1 (pc' := 104) (lv' := [(2, .int ((Int32.ofInt 0))), (0, .ref 159), (1, .int a)]) (st' := [.int (((Int8.ofInt 6).toInt32)), .ref 160]) rfl ?_
    refine En_iald (l := 0) (u := 60) rfl (by decide : ((Int8.ofInt 6).toInt32).toInt = 6) tgz_160 (by decide +kernel) hσ0 (by decide) (lnI (by decide +kernel : LN _ = 226) (by decide)) (by decide +kernel) (fun z41 h40 h42 h43 => ?_)
    exact En_ret (v := some (Value.int z41)) rfl rfl rfl ⟨hσ0, hF0, z41, rfl, ⟨by first | exact q_565e7b05df h42 | omega, by first | exact q_b10e199e76 h43 | omega⟩⟩
  · refine En_swI (t := 106) (n := 7) rfl h1 rfl (by decide +kernel) ?_
    refine En_Ps 1 (pc' := 107) (lv' := [(2, .int ((Int32.ofInt 0))), (0, .ref 159), (1, .int a)]) (st' := [.ref 159]) rfl ?_
    refine En_getU (j := 1) (u := 160) (g' := 36) (q := 0) rfl rfl rfl tgz_159 (by decide +kernel) hσ0 (by decide +kernel) un_36_160 (fun h44 => ?_)
    refine En_Ps 1 (pc' := 112) (lv' := [(2, .int ((Int32.ofInt 0))), (0, .ref 159), (1, .int a)]) (st' := [.int (((Int8.ofInt 7).toInt32)), .ref 160]) rfl ?_
    refine En_iald (l := 0) (u := 1600) rfl (by decide : ((Int8.ofInt 7).toInt32).toInt = 7) tgz_160 (by decide +kernel) hσ0 (by decide) (lnI (by decide +kernel : LN _ = 226) (by decide)) (by decide +kernel) (fun z47 h46 h48 h49 => ?_)
    exact En_ret (v := some (Value.int z47)) rfl rfl rfl ⟨hσ0, hF0, z47, rfl, ⟨by first | exact q_565e7b05df h48 | omega, by first | exact q_5a08281576 h49 | omega⟩⟩
  · refine En_swI (t := 114) (n := 8) rfl h1 rfl (by decide +kernel) ?_
    refine En_Ps 1 (pc' := 115) (lv' := [(2, .int ((Int32.ofInt 0))), (0, .ref 159), (1, .int a)]) (st' := [.ref 159]) rfl ?_
    refine En_getI (j := 5) (l := 0) (u := 1600) rfl rfl rfl tgz_159 (by decide +kernel) hσ0 (by decide +kernel) (fun z51 h50 h52 h53 => ?_)
    exact En_ret (v := some (Value.int z51)) rfl rfl rfl ⟨hσ0, hF0, z51, rfl, ⟨by first | exact q_565e7b05df h52 | omega, by first | exact q_5a08281576 h53 | omega⟩⟩
  · refine En_swI (t := 119) (n := 9) rfl h1 rfl (by decide +kernel) ?_
    refine En_Ps 2 (pc' := 121) (lv' := [(3, .int ((Int32.ofInt 0))), (2, .int ((Int32.ofInt 0))), (0, .ref 159), (1, .int a)]) (st' := []) rfl ?_
    have key121 : ∀ (n121 : Nat) (σ56 : SG) (y54 : Int32) (y55 : Int32), WT σ56 → Fr [] σ0 σ56 → 0 ≤ y54.toInt → y54.toInt ≤ 4 → 0 ≤ y55.toInt → y55.toInt ≤ 4 → y54.toInt - y55.toInt ≤ 0 → a.toInt - y55.toInt < (n121 : Int) → En 0 0 none mr_206 (P_206 σ0 a) 121 [(0, .ref 159), (1, .int a), (2, .int y54), (3, .int y55)] [] σ56 := by
      intro n121
      induction n121 with
      | zero =>
        intro σ56 y54 y55 h57 h58 h59 h60 h61 h62 h63 h64
        first | exact (q_c4ee0a7a71 h1 h62 h64).elim | (exfalso; omega)
      | succ n121 ih121 =>
        intro σ56 y54 y55 h57 h58 h59 h60 h61 h62 h63 h64
        refine En_Ps 2 (pc' := 123) (lv' := [(0, .ref 159), (1, .int a), (2, .int y54), (3, .int y55)]) (st' := [.int ((Int32.ofInt 4)), .int y55]) rfl ?_
        refine En_icGe _ rfl (by decide : (Int32.ofInt 4).toInt = 4) rfl (fun h65 => ?_) (fun h65 => ?_)
        · refine En_Ps 1 (pc' := 151) (lv' := [(0, .ref 159), (1, .int a), (2, .int y54), (3, .int y55)]) (st' := [.int y54]) rfl ?_
          exact En_ret (v := some (Value.int y54)) rfl rfl rfl ⟨h57, h58, y54, rfl, ⟨by first | exact q_565e7b05df h59 | omega, by first | exact q_9297e6e4ff h60 | omega⟩⟩
        · refine En_Ps 2 (pc' := 128) (lv' := [(0, .ref 159), (1, .int a), (2, .int y54), (3, .int y55)]) (st' := [.ref 159, .int y54]) rfl ?_
          refine En_getU (j := 32) (u := 177) (g' := 53) (q := 0) rfl rfl rfl tgz_159 (by decide +kernel) h57 (by decide +kernel) un_53_177 (fun h66 => ?_)
          refine En_Ps 1 (pc' := 132) (lv' := [(0, .ref 159), (1, .int a), (2, .int y54), (3, .int y55)]) (st' := [.int y55, .ref 177, .int y54]) rfl ?_
          refine En_iald (l := (-1)) (u := 60) rfl rfl tgz_177 (by decide +kernel) h57 (by first | exact q_58e6e51dcc h61 | omega) (lnI (by decide +kernel : LN _ = 4) (by first | exact q_074a8b422d h65 | omega)) (FTsgl (by decide +kernel)) (fun z69 h68 h70 h71 => ?_)
          refine En_Ps 1 (pc' := 134) (lv' := [(0, .ref 159), (1, .int a), (2, .int y54), (3, .int y55)]) (st' := [.int ((Int32.ofInt (-1))), .int z69, .int y54]) rfl ?_
          refine En_icNe _ rfl (by decide : (Int32.ofInt (-1)).toInt = -1) rfl (fun h72 => ?_) (fun h72 => ?_)
          · refine En_Ps 2 (pc' := 143) (lv' := [(0, .ref 159), (1, .int a), (2, .int y54), (3, .int y55)]) (st' := [.int ((y54 + ((Int32.ofInt 1))))]) rfl ?_
            refine En_top (addI rfl (by decide : (Int32.ofInt 1).toInt = 1) (by first | exact q_465ab79ac1 h59 | omega) (by first | exact q_f7282962fd h60 | omega)) (fun z73 h74 => ?_)
            refine En_Ps 2 (pc' := 147) (lv' := [(3, .int ((y55 + Int32.ofInt 1))), (2, .int z73), (0, .ref 159), (1, .int a)]) (st' := []) rfl ?_
            refine En_lv1 (addI rfl (by decide : (Int32.ofInt 1).toInt = 1) (by first | exact q_465ab79ac1 h61 | omega) (by first | exact q_d8bf7f475a h65 | omega)) (fun z75 h76 => ?_)
            refine En_Ps 1 (pc' := 121) (lv' := [(3, .int z75), (2, .int z73), (0, .ref 159), (1, .int a)]) (st' := []) rfl ?_
            refine En_lv (lv := [(0, .ref 159), (1, .int a), (2, .int z73), (3, .int z75)]) ⟨rfl, rfl, rfl, rfl, trivial⟩ ?_
            exact ih121 σ56 z73 z75 h57 h58 (by first | exact q_35104ce9d3 h74 h59 | omega) (by first | exact q_3198f66952 h74 h63 h65 | omega) (by first | exact q_35104ce9d3 h76 h61 | omega) (by first | exact q_ddc5c16a68 h76 h65 | omega) (by first | exact q_1ff421e7a2 h74 h76 h63 | omega) (by first | exact q_8d03a5a7cb h76 h64 | omega)
          · refine En_Ps 3 (pc' := 143) (lv' := [(0, .ref 159), (1, .int a), (2, .int y54), (3, .int y55)]) (st' := [.int ((y54 + ((Int32.ofInt 0))))]) rfl ?_
            refine En_top (addI rfl (by decide : (Int32.ofInt 0).toInt = 0) (by first | exact q_2f569dfca1 h59 | omega) (by first | exact q_e6f991ffef h60 | omega)) (fun z77 h78 => ?_)
            refine En_Ps 2 (pc' := 147) (lv' := [(3, .int ((y55 + Int32.ofInt 1))), (2, .int z77), (0, .ref 159), (1, .int a)]) (st' := []) rfl ?_
            refine En_lv1 (addI rfl (by decide : (Int32.ofInt 1).toInt = 1) (by first | exact q_465ab79ac1 h61 | omega) (by first | exact q_d8bf7f475a h65 | omega)) (fun z79 h80 => ?_)
            refine En_Ps 1 (pc' := 121) (lv' := [(3, .int z79), (2, .int z77), (0, .ref 159), (1, .int a)]) (st' := []) rfl ?_
            refine En_lv (lv := [(0, .ref 159), (1, .int a), (2, .int z77), (3, .int z79)]) ⟨rfl, rfl, rfl, rfl, trivial⟩ ?_
            exact ih121 σ56 z77 z79 h57 h58 (by first | exact q_771c4e5138 h78 h59 | omega) (by first | exact q_c4d42658be h78 h60 | omega) (by first | exact q_35104ce9d3 h80 h61 | omega) (by first | exact q_ddc5c16a68 h80 h65 | omega) (by first | exact q_969c4fd5e6 h78 h80 h63 | omega) (by first | exact q_8d03a5a7cb h80 h64 | omega)
    have := (by decide : (Int32.ofInt 0).toInt = 0)
    have := (by decide : (Int32.ofInt 0).toInt = 0)
    refine En_lv (lv := [(0, .ref 159), (1, .int a), (2, .int ((Int32.ofInt 0))), (3, .int ((Int32.ofInt 0)))]) ⟨rfl, rfl, rfl, rfl, trivial⟩ ?_
    exact key121 (Int.toNat (a.toInt) + 1) σ0 ((Int32.ofInt 0)) ((Int32.ofInt 0)) hσ0 hF0 (by decide) (by decide) (by decide) (by decide) (by (first | exact q_1bb76abeaf | omega)) (by first | exact toN_lt _ | omega)
  · refine En_swO (t := 152) rfl (by (first | exact q_71b32c9d5a h1 | omega)) rfl (by decide +kernel) ?_
    refine En_Ps 1 (pc' := 153) (lv' := [(2, .int ((Int32.ofInt 0))), (0, .ref 159), (1, .int a)]) (st' := [.int ((Int32.ofInt (-1)))]) rfl ?_
    refine En_top (by decide : (Int32.ofInt (-1)).toInt = -1) (fun z81 h82 => ?_)
    exact En_ret (v := some (Value.int z81)) rfl rfl rfl ⟨hσ0, hF0, z81, rfl, ⟨by first | exact q_6ba54b61e9 h82 | omega, by first | exact q_99664cbdae h82 | omega⟩⟩
  · refine En_swO (t := 152) rfl (by (first | exact q_9089e1b199 h1 | omega)) rfl (by decide +kernel) ?_
    refine En_Ps 1 (pc' := 153) (lv' := [(2, .int ((Int32.ofInt 0))), (0, .ref 159), (1, .int a)]) (st' := [.int ((Int32.ofInt (-1)))]) rfl ?_
    refine En_top (by decide : (Int32.ofInt (-1)).toInt = -1) (fun z83 h84 => ?_)
    exact En_ret (v := some (Value.int z83)) rfl rfl rfl ⟨hσ0, hF0, z83, rfl, ⟨by first | exact q_6ba54b61e9 h84 | omega, by first | exact q_99664cbdae h84 | omega⟩⟩
/-- DoorSchoolModel.isWay(I)Z -/
abbrev P_268 (σ0 : SG) (a : Int32) : PO := fun v σ => WT σ ∧ Fr [] σ0 σ ∧ ∃ ret : Int32, v = some (Value.int ret) ∧ -ret.toInt ≤ 0 ∧ ret.toInt - 1 ≤ 0 ∧ (ret.toInt - 1 ≤ 0 ∧ -ret.toInt + 1 ≤ 0 → -a.toInt ≤ 0 ∧ a.toInt - 2 ≤ 0) ∧ (-a.toInt ≤ 0 ∧ a.toInt - 2 ≤ 0 → ret.toInt - 1 ≤ 0 ∧ -ret.toInt + 1 ≤ 0)
set_option maxRecDepth 10000 in
set_option maxHeartbeats 4000000 in
theorem c_268 (σ0 : SG) (hσ0 : WT σ0) (a : Int32) : En 1 25 none mr_268 (P_268 σ0 a) 0 [(0, .int a)] [] σ0 := by
  have hF0 : Fr [] σ0 σ0 := Fr_rfl
  refine En_Ps 4 (pc' := 6) (lv' := [(0, .int a)]) (st' := [.long ((2 : Int64)), .long ((Int64.ofNat 0)), .long a.toInt64]) rfl ?_
  have : a.toInt64.toInt = a.toInt := (i2lI rfl)
  have := (by decide : ((Int64.ofNat 0)).toInt = 0)
  have := (by decide : ((2 : Int64)).toInt = 2)
  refine En_callS rfl rfl rfl rfl rfl rfl rfl rfl rfl (c_249 σ0 hσ0 a.toInt64 ((Int64.ofNat 0)) ((2 : Int64))) (by decide) (by decide) (fun v2 σ3 h1 => ?_)
  obtain ⟨h4, h5, z7, rfl, h6⟩ := h1
  have h8 := Fr_trans hF0 h5 (by decide +kernel)
  exact En_ret (v := some (Value.int z7)) rfl rfl (retZ rfl rfl (by first | exact q_ef1e8e38bf h6.1 | omega) (by first | exact q_733c8bfbae h6.2.1 | omega)) ⟨h4, h8, z7, rfl, ⟨by first | exact q_a555021d16 h6.1 | omega, by first | exact q_ad5b726bf8 h6.2.1 | omega, fun _ => by omega, fun _ => by omega⟩⟩
/-- DoorSchoolModel.laySet(II)V -/
abbrev P_273 (σ0 : SG) (a : Int32) (b : Int32) : PO := fun v σ => WT σ ∧ Fr [(35, 21), (45, 0), (46, 0)] σ0 σ ∧ v = none ∧ True
set_option maxRecDepth 10000 in
set_option maxHeartbeats 4000000 in
theorem c_273 (σ0 : SG) (hσ0 : WT σ0) (a : Int32) (b : Int32) : En 2 40 none mr_273 (P_273 σ0 a b) 0 [(0, .ref 159), (1, .int a), (2, .int b)] [] σ0 := by
  have hF0 : Fr [(35, 21), (45, 0), (46, 0)] σ0 σ0 := Fr_rfl
  refine En_Ps 2 (pc' := 2) (lv' := [(0, .ref 159), (1, .int a), (2, .int b)]) (st' := [.int ((Int32.ofInt 0)), .ref 159]) rfl ?_
  refine En_put (j := 21) rfl rfl rfl tgz_159 (by decide +kernel) rfl (vI (l := 0) (u := 17) (by decide +kernel) (by decide : (Int32.ofInt 0).toInt = 0) (by decide) (by decide)) hσ0 hF0 (by decide +kernel) (fun σ1 h2 h3 h4 h5 => ?_)
  refine En_Ps 2 (pc' := 7) (lv' := [(3, .int ((Int32.ofInt 0))), (0, .ref 159), (1, .int a), (2, .int b)]) (st' := []) rfl ?_
  have key7 : ∀ (n7 : Nat) (σ8 : SG) (y6 : Int32) (y7 : Int32), WT σ8 → Fr [(35, 21), (45, 0), (46, 0)] σ0 σ8 → (σ8 159)[21]? = some (Value.int y7) → 0 ≤ y6.toInt → y6.toInt ≤ 16 → 0 ≤ y7.toInt → y7.toInt ≤ 16 → y7.toInt - y6.toInt ≤ 0 → -y6.toInt + 16 < (n7 : Int) → En 2 40 none mr_273 (P_273 σ0 a b) 7 [(0, .ref 159), (1, .int a), (2, .int b), (3, .int y6)] [] σ8 := by
    intro n7
    induction n7 with
    | zero =>
      intro σ8 y6 y7 h9 h10 h11 h12 h13 h14 h15 h16 h17
      first | exact (q_511f6d33ac h17 h13).elim | (exfalso; omega)
    | succ n7 ih7 =>
      intro σ8 y6 y7 h9 h10 h11 h12 h13 h14 h15 h16 h17
      refine En_Ps 2 (pc' := 9) (lv' := [(0, .ref 159), (1, .int a), (2, .int b), (3, .int y6)]) (st' := [.ref 159, .int y6]) rfl ?_
      obtain ⟨z19, h18, h20, h21⟩ := WT_peekI h9 tgz_160 (by decide +kernel : FT 36 (0 : Int).toNat = (0, 0, 4)) (by decide +kernel)
      obtain ⟨z23, h22, h24, h25⟩ := WT_peekI h9 tgz_160 (by decide +kernel : FT 36 (7 : Int).toNat = (0, 0, 1600)) (by decide +kernel)
      refine En_callV rfl rfl rfl rfl rfl rfl rfl rfl tgz_159 (by decide +kernel) rfl (c_269 σ8 h9 z19 h18 z23 h22) (by decide) (by decide) (fun v27 σ28 h26 => ?_)
      obtain ⟨h29, h30, z32, rfl, h31⟩ := h26
      have h33 := h31.2.2
      have h34 := Fr_trans h10 h30 (by decide +kernel)
      refine En_icGe _ rfl rfl rfl (fun h35 => ?_) (fun h35 => ?_)
      · exact En_ret (v := none) rfl rfl rfl ⟨h29, h34, rfl, trivial⟩
      · refine En_Ps 2 (pc' := 17) (lv' := [(0, .ref 159), (1, .int a), (2, .int b), (3, .int y6)]) (st' := [.int y6, .int a]) rfl ?_
        refine En_callS rfl rfl rfl rfl rfl rfl rfl rfl rfl (c_202b σ28 h29 a y6) (by decide) (by decide) (fun v37 σ38 h36 => ?_)
        obtain ⟨h39, h40, z42, rfl, h41⟩ := h36
        have h43 := Fr_trans h34 h40 (by decide +kernel)
        refine En_Ps 1 (pc' := 21) (lv' := [(0, .ref 159), (1, .int a), (2, .int b), (3, .int y6)]) (st' := [.int ((Int32.ofInt 1)), .int z42]) rfl ?_
        refine En_icNe _ rfl (by decide : (Int32.ofInt 1).toInt = 1) rfl (fun h44 => ?_) (fun h44 => ?_)
        · refine En_Ps 1 (pc' := 37) (lv' := [(3, .int ((y6 + Int32.ofInt 1))), (0, .ref 159), (1, .int a), (2, .int b)]) (st' := []) rfl ?_
          refine En_lv1 (addI rfl (by decide : (Int32.ofInt 1).toInt = 1) (by first | exact q_465ab79ac1 h12 | omega) (by first | exact q_f3f8e04381 h13 | omega)) (fun z45 h46 => ?_)
          refine En_Ps 1 (pc' := 7) (lv' := [(3, .int z45), (0, .ref 159), (1, .int a), (2, .int b)]) (st' := []) rfl ?_
          refine En_lv (lv := [(0, .ref 159), (1, .int a), (2, .int b), (3, .int z45)]) ⟨rfl, rfl, rfl, rfl, trivial⟩ ?_
          exact ih7 σ38 z45 y7 h39 h43 ((h40 _ _ (inW tgz_159 (by decide +kernel))).trans ((h30 _ _ (inW tgz_159 (by decide +kernel))).trans h11)) (by first | exact q_35104ce9d3 h46 h12 | omega) (by first | exact q_34dc714687 h46 h35 h31.2.1 | omega) (by first | exact q_58e6e51dcc h14 | omega) (by first | exact q_60616f21a7 h15 | omega) (by first | exact q_3a5e225620 h16 h46 | omega) (by first | exact q_c5d740bdff h46 h17 | omega)
        · refine En_Ps 4 (pc' := 28) (lv' := [(0, .ref 159), (1, .int a), (2, .int b), (3, .int y6)]) (st' := [.int y6, .int b, .int y6, .ref 159]) rfl ?_
          refine En_callS rfl rfl rfl rfl rfl rfl rfl rfl rfl (c_202b σ38 h39 b y6) (by decide) (by decide) (fun v48 σ49 h47 => ?_)
          obtain ⟨h50, h51, z53, rfl, h52⟩ := h47
          have h54 := Fr_trans h43 h51 (by decide +kernel)
          refine En_callV rfl rfl rfl rfl rfl rfl rfl rfl tgz_159 (by decide +kernel) rfl (c_188 σ49 h50 y6 z53 (geI rfl (by first | exact q_58e6e51dcc h12 | omega)) (leI rfl (by first | exact q_c15b485600 h35 h31.2.1 | omega)) (geI rfl (by first | exact q_ef1e8e38bf h52.1 | omega)) (leI rfl (by first | exact q_733c8bfbae h52.2 | omega)) y7 ((h51 _ _ (inW tgz_159 (by decide +kernel))).trans ((h40 _ _ (inW tgz_159 (by decide +kernel))).trans ((h30 _ _ (inW tgz_159 (by decide +kernel))).trans h11))) (by first | exact q_774c92aa9b h15 | omega)) (by decide) (by decide) (fun v56 σ57 h55 => ?_)
          obtain ⟨h58, h59, z61, h62, rfl, h60⟩ := h55
          have h63 := Fr_trans h54 h59 (by decide +kernel)
          refine En_Ps 1 (pc' := 37) (lv' := [(3, .int ((y6 + Int32.ofInt 1))), (0, .ref 159), (1, .int a), (2, .int b)]) (st' := []) rfl ?_
          refine En_lv1 (addI rfl (by decide : (Int32.ofInt 1).toInt = 1) (by first | exact q_465ab79ac1 h12 | omega) (by first | exact q_f3f8e04381 h13 | omega)) (fun z64 h65 => ?_)
          refine En_Ps 1 (pc' := 7) (lv' := [(3, .int z64), (0, .ref 159), (1, .int a), (2, .int b)]) (st' := []) rfl ?_
          refine En_lv (lv := [(0, .ref 159), (1, .int a), (2, .int b), (3, .int z64)]) ⟨rfl, rfl, rfl, rfl, trivial⟩ ?_
          exact ih7 σ57 z64 z61 h58 h63 h62 (by first | exact q_35104ce9d3 h65 h12 | omega) (by first | exact q_34dc714687 h65 h35 h31.2.1 | omega) (by first | exact q_996aa4c518 h60.1 | omega) (by first | exact q_f8b397e766 h60.2.2.2.1 h16 h35 h31.2.1 | omega) (by first | exact q_cbb20cbf38 h60.2.2.2.1 h65 h16 | omega) (by first | exact q_c5d740bdff h65 h17 | omega)
  have := (by decide : (Int32.ofInt 0).toInt = 0)
  have := (by decide : (Int32.ofInt 0).toInt = 0)
  refine En_lv (lv := [(0, .ref 159), (1, .int a), (2, .int b), (3, .int ((Int32.ofInt 0)))]) ⟨rfl, rfl, rfl, rfl, trivial⟩ ?_
  exact key7 (Int.toNat (16) + 1) σ1 ((Int32.ofInt 0)) ((Int32.ofInt 0)) h2 h3 h4 (by decide) (by decide) (by decide) (by decide) (by (first | exact q_1bb76abeaf | omega)) (by first | exact toN_lt _ | omega)
/-- DoorSchoolModel.learnsBy(III)Z -/
abbrev P_275 (σ0 : SG) (a : Int32) (b : Int32) (c : Int32) : PO := fun v σ => WT σ ∧ Fr [(35, 21), (45, 0), (46, 0)] σ0 σ ∧ ∃ ret : Int32, v = some (Value.int ret) ∧ -ret.toInt ≤ 0 ∧ ret.toInt - 1 ≤ 0
set_option maxRecDepth 10000 in
set_option maxHeartbeats 4000000 in
theorem c_275 (σ0 : SG) (hσ0 : WT σ0) (a : Int32) (b : Int32) (c : Int32) : En 4 91 none mr_275 (P_275 σ0 a b c) 0 [(0, .ref 159), (1, .int a), (2, .int b), (3, .int c)] [] σ0 := by
  have hF0 : Fr [(35, 21), (45, 0), (46, 0)] σ0 σ0 := Fr_rfl
  refine En_Ps 1 (pc' := 1) (lv' := [(0, .ref 159), (1, .int a), (2, .int b), (3, .int c)]) (st' := [.int a]) rfl ?_
  refine En_iNe _ rfl rfl (fun h1 => ?_) (fun h1 => ?_)
  · refine En_Ps 2 (pc' := 20) (lv' := [(0, .ref 159), (1, .int a), (2, .int b), (3, .int c)]) (st' := [.int ((Int32.ofInt 1)), .int a]) rfl ?_
    refine En_icNe _ rfl (by decide : (Int32.ofInt 1).toInt = 1) rfl (fun h2 => ?_) (fun h2 => ?_)
    · refine En_Ps 3 (pc' := 85) (lv' := [(0, .ref 159), (1, .int a), (2, .int b), (3, .int c)]) (st' := [.int c, .int b, .ref 159]) rfl ?_
      refine En_callV rfl rfl rfl rfl rfl rfl rfl rfl tgz_159 (by decide +kernel) rfl (c_273 σ0 hσ0 b c) (by decide) (by decide) (fun v4 σ5 h3 => ?_)
      obtain ⟨h6, h7, rfl, h8⟩ := h3
      have h9 := Fr_trans hF0 h7 (by decide +kernel)
      refine En_Ps 2 (pc' := 90) (lv' := [(0, .ref 159), (1, .int a), (2, .int b), (3, .int c)]) (st' := [.int ((Int32.ofInt 2)), .ref 159]) rfl ?_
      have := (by decide : ((Int32.ofInt 2)).toInt = 2)
      refine En_callV rfl rfl rfl rfl rfl rfl rfl rfl tgz_159 (by decide +kernel) rfl (c_274 σ5 h6 ((Int32.ofInt 2))) (by decide) (by decide) (fun v11 σ12 h10 => ?_)
      obtain ⟨h13, h14, z16, rfl, h15⟩ := h10
      have h17 := Fr_trans h9 h14 (by decide +kernel)
      refine En_Ps 1 (pc' := 94) (lv' := [(0, .ref 159), (1, .int a), (2, .int b), (3, .int c)]) (st' := [.int c, .int z16]) rfl ?_
      refine En_icNe _ rfl rfl rfl (fun h18 => ?_) (fun h18 => ?_)
      · refine En_Ps 1 (pc' := 102) (lv' := [(0, .ref 159), (1, .int a), (2, .int b), (3, .int c)]) (st' := [.int ((Int32.ofInt 0))]) rfl ?_
        refine En_top (by decide : (Int32.ofInt 0).toInt = 0) (fun z19 h20 => ?_)
        exact En_ret (v := some (Value.int z19)) rfl rfl (retZ rfl rfl (by first | exact q_55451d0a83 h20 | omega) (by first | exact q_87849c3859 h20 | omega)) ⟨h13, h17, z19, rfl, ⟨by first | exact q_097a37c2ae h20 | omega, by first | exact q_e269517bee h20 | omega⟩⟩
      · refine En_Ps 2 (pc' := 102) (lv' := [(0, .ref 159), (1, .int a), (2, .int b), (3, .int c)]) (st' := [.int ((Int32.ofInt 1))]) rfl ?_
        refine En_top (by decide : (Int32.ofInt 1).toInt = 1) (fun z21 h22 => ?_)
        exact En_ret (v := some (Value.int z21)) rfl rfl (retZ rfl rfl (by first | exact q_2b07c97645 h22 | omega) (by first | exact q_d9e7cbb253 h22 | omega)) ⟨h13, h17, z21, rfl, ⟨by first | exact q_ad3eee31ca h22 | omega, by first | exact q_81cf297dc4 h22 | omega⟩⟩
    · refine En_Ps 2 (pc' := 26) (lv' := [(4, .int ((Int32.ofInt 0))), (0, .ref 159), (1, .int a), (2, .int b), (3, .int c)]) (st' := []) rfl ?_
      have key26 : ∀ (n26 : Nat) (σ24 : SG) (y23 : Int32), WT σ24 → Fr [(35, 21), (45, 0), (46, 0)] σ0 σ24 → 0 ≤ y23.toInt → y23.toInt ≤ 81 → -y23.toInt + 81 < (n26 : Int) → En 4 91 none mr_275 (P_275 σ0 a b c) 26 [(0, .ref 159), (1, .int a), (2, .int b), (3, .int c), (4, .int y23)] [] σ24 := by
        intro n26
        induction n26 with
        | zero =>
          intro σ24 y23 h25 h26 h27 h28 h29
          first | exact (q_ffef14d449 h29 h28).elim | (exfalso; omega)
        | succ n26 ih26 =>
          intro σ24 y23 h25 h26 h27 h28 h29
          refine En_Ps 2 (pc' := 29) (lv' := [(0, .ref 159), (1, .int a), (2, .int b), (3, .int c), (4, .int y23)]) (st' := [.ref 159, .int y23]) rfl ?_
          refine En_getI (j := 18) (l := 0) (u := 81) rfl rfl rfl tgz_159 (by decide +kernel) h25 (by decide +kernel) (fun z31 h30 h32 h33 => ?_)
          refine En_icGe _ rfl rfl rfl (fun h34 => ?_) (fun h34 => ?_)
          · refine En_Ps 1 (pc' := 73) (lv' := [(0, .ref 159), (1, .int a), (2, .int b), (3, .int c), (4, .int y23)]) (st' := [.int c]) rfl ?_
            refine En_iNe _ rfl rfl (fun h35 => ?_) (fun h35 => ?_)
            · refine En_Ps 1 (pc' := 81) (lv' := [(0, .ref 159), (1, .int a), (2, .int b), (3, .int c), (4, .int y23)]) (st' := [.int ((Int32.ofInt 0))]) rfl ?_
              refine En_top (by decide : (Int32.ofInt 0).toInt = 0) (fun z36 h37 => ?_)
              exact En_ret (v := some (Value.int z36)) rfl rfl (retZ rfl rfl (by first | exact q_55451d0a83 h37 | omega) (by first | exact q_87849c3859 h37 | omega)) ⟨h25, h26, z36, rfl, ⟨by first | exact q_097a37c2ae h37 | omega, by first | exact q_e269517bee h37 | omega⟩⟩
            · refine En_Ps 2 (pc' := 81) (lv' := [(0, .ref 159), (1, .int a), (2, .int b), (3, .int c), (4, .int y23)]) (st' := [.int ((Int32.ofInt 1))]) rfl ?_
              refine En_top (by decide : (Int32.ofInt 1).toInt = 1) (fun z38 h39 => ?_)
              exact En_ret (v := some (Value.int z38)) rfl rfl (retZ rfl rfl (by first | exact q_2b07c97645 h39 | omega) (by first | exact q_d9e7cbb253 h39 | omega)) ⟨h25, h26, z38, rfl, ⟨by first | exact q_ad3eee31ca h39 | omega, by first | exact q_81cf297dc4 h39 | omega⟩⟩
          · refine En_Ps 1 (pc' := 36) (lv' := [(0, .ref 159), (1, .int a), (2, .int b), (3, .int c), (4, .int y23)]) (st' := [.ref 159]) rfl ?_
            refine En_getU (j := 17) (u := 168) (g' := 44) (q := 0) rfl rfl rfl tgz_159 (by decide +kernel) h25 (by decide +kernel) un_44_168 (fun h40 => ?_)
            refine En_Ps 1 (pc' := 41) (lv' := [(0, .ref 159), (1, .int a), (2, .int b), (3, .int c), (4, .int y23)]) (st' := [.int y23, .ref 168]) rfl ?_
            refine En_iald (l := (-2147483648)) (u := 2147483647) rfl rfl tgz_168 (by decide +kernel) h25 (by first | exact q_58e6e51dcc h27 | omega) (lnI (by decide +kernel : LN _ = 81) (by first | exact q_a0e855914a h34 h33 | omega)) (FTsgl (by decide +kernel)) (fun z43 h42 h44 h45 => ?_)
            refine En_Ps 2 (pc' := 44) (lv' := [(0, .ref 159), (1, .int a), (2, .int b), (3, .int c), (4, .int y23)]) (st' := [.int ((z43 ^^^ c))]) rfl ?_
            refine En_hav (fun z46 => ?_)
            refine En_Ps 2 (pc' := 46) (lv' := [(0, .ref 159), (1, .int a), (2, .int b), (3, .int c), (4, .int y23)]) (st' := [.int ((z46 &&& b))]) rfl ?_
            refine En_hav (fun z47 => ?_)
            refine En_iNe _ rfl rfl (fun h48 => ?_) (fun h48 => ?_)
            · refine En_Ps 1 (pc' := 69) (lv' := [(4, .int ((y23 + Int32.ofInt 1))), (0, .ref 159), (1, .int a), (2, .int b), (3, .int c)]) (st' := []) rfl ?_
              refine En_lv1 (addI rfl (by decide : (Int32.ofInt 1).toInt = 1) (by first | exact q_465ab79ac1 h27 | omega) (by first | exact q_d778ff18c8 h28 | omega)) (fun z49 h50 => ?_)
              refine En_Ps 1 (pc' := 26) (lv' := [(4, .int z49), (0, .ref 159), (1, .int a), (2, .int b), (3, .int c)]) (st' := []) rfl ?_
              refine En_lv (lv := [(0, .ref 159), (1, .int a), (2, .int b), (3, .int c), (4, .int z49)]) ⟨rfl, rfl, rfl, rfl, rfl, trivial⟩ ?_
              exact ih26 σ24 z49 h25 h26 (by first | exact q_35104ce9d3 h50 h27 | omega) (by first | exact q_798b104d48 h50 h34 h33 | omega) (by first | exact q_4ff790945b h50 h29 | omega)
            · refine En_Ps 1 (pc' := 50) (lv' := [(0, .ref 159), (1, .int a), (2, .int b), (3, .int c), (4, .int y23)]) (st' := [.ref 159]) rfl ?_
              refine En_getK (j := 17) h40 rfl rfl rfl tgz_159 (by decide +kernel) ?_
              refine En_Ps 1 (pc' := 55) (lv' := [(0, .ref 159), (1, .int a), (2, .int b), (3, .int c), (4, .int y23)]) (st' := [.int y23, .ref 168]) rfl ?_
              refine En_ialdK h42 rfl rfl tgz_168 (by decide +kernel) h25 (by first | exact q_58e6e51dcc h27 | omega) (lnI (by decide +kernel : LN _ = 81) (by first | exact q_a0e855914a h34 h33 | omega)) ?_
              refine En_Ps 1 (pc' := 57) (lv' := [(0, .ref 159), (1, .int a), (2, .int b), (3, .int c), (4, .int y23)]) (st' := [.int c, .int z43]) rfl ?_
              refine En_icNe _ rfl rfl rfl (fun h52 => ?_) (fun h52 => ?_)
              · refine En_Ps 1 (pc' := 65) (lv' := [(0, .ref 159), (1, .int a), (2, .int b), (3, .int c), (4, .int y23)]) (st' := [.int ((Int32.ofInt 0))]) rfl ?_
                refine En_top (by decide : (Int32.ofInt 0).toInt = 0) (fun z53 h54 => ?_)
                exact En_ret (v := some (Value.int z53)) rfl rfl (retZ rfl rfl (by first | exact q_55451d0a83 h54 | omega) (by first | exact q_87849c3859 h54 | omega)) ⟨h25, h26, z53, rfl, ⟨by first | exact q_097a37c2ae h54 | omega, by first | exact q_e269517bee h54 | omega⟩⟩
              · refine En_Ps 2 (pc' := 65) (lv' := [(0, .ref 159), (1, .int a), (2, .int b), (3, .int c), (4, .int y23)]) (st' := [.int ((Int32.ofInt 1))]) rfl ?_
                refine En_top (by decide : (Int32.ofInt 1).toInt = 1) (fun z55 h56 => ?_)
                exact En_ret (v := some (Value.int z55)) rfl rfl (retZ rfl rfl (by first | exact q_2b07c97645 h56 | omega) (by first | exact q_d9e7cbb253 h56 | omega)) ⟨h25, h26, z55, rfl, ⟨by first | exact q_ad3eee31ca h56 | omega, by first | exact q_81cf297dc4 h56 | omega⟩⟩
      have := (by decide : (Int32.ofInt 0).toInt = 0)
      refine En_lv (lv := [(0, .ref 159), (1, .int a), (2, .int b), (3, .int c), (4, .int ((Int32.ofInt 0)))]) ⟨rfl, rfl, rfl, rfl, rfl, trivial⟩ ?_
      exact key26 (Int.toNat (81) + 1) σ0 ((Int32.ofInt 0)) hσ0 hF0 (by decide) (by decide) (by first | exact toN_lt _ | omega)
  · refine En_Ps 4 (pc' := 8) (lv' := [(0, .ref 159), (1, .int a), (2, .int b), (3, .int c)]) (st' := [.int ((b ^^^ ((Int32.ofInt (-1))))), .int c]) rfl ?_
    refine En_nam (fun z57 h58 => ?_)
    refine En_Ps 1 (pc' := 9) (lv' := [(0, .ref 159), (1, .int a), (2, .int b), (3, .int c)]) (st' := [.int ((c &&& z57))]) rfl ?_
    refine En_nam (fun z59 h60 => ?_)
    refine En_iNe _ rfl rfl (fun h61 => ?_) (fun h61 => ?_)
    · refine En_Ps 1 (pc' := 17) (lv' := [(0, .ref 159), (1, .int a), (2, .int b), (3, .int c)]) (st' := [.int ((Int32.ofInt 0))]) rfl ?_
      refine En_top (by decide : (Int32.ofInt 0).toInt = 0) (fun z62 h63 => ?_)
      exact En_ret (v := some (Value.int z62)) rfl rfl (retZ rfl rfl (by first | exact q_55451d0a83 h63 | omega) (by first | exact q_87849c3859 h63 | omega)) ⟨hσ0, hF0, z62, rfl, ⟨by first | exact q_097a37c2ae h63 | omega, by first | exact q_e269517bee h63 | omega⟩⟩
    · refine En_Ps 2 (pc' := 17) (lv' := [(0, .ref 159), (1, .int a), (2, .int b), (3, .int c)]) (st' := [.int ((Int32.ofInt 1))]) rfl ?_
      refine En_top (by decide : (Int32.ofInt 1).toInt = 1) (fun z64 h65 => ?_)
      exact En_ret (v := some (Value.int z64)) rfl rfl (retZ rfl rfl (by first | exact q_2b07c97645 h65 | omega) (by first | exact q_d9e7cbb253 h65 | omega)) ⟨hσ0, hF0, z64, rfl, ⟨by first | exact q_ad3eee31ca h65 | omega, by first | exact q_81cf297dc4 h65 | omega⟩⟩
/-- DoorSchoolModel.fewestSet(II)I -/
abbrev P_228 (σ0 : SG) (a : Int32) (b : Int32) : PO := fun v σ => WT σ ∧ Fr [(35, 18), (35, 21), (42, 0), (43, 0), (44, 0), (45, 0), (46, 0)] σ0 σ ∧ ∃ ret : Int32, v = some (Value.int ret) ∧ -ret.toInt - 1 ≤ 0 ∧ ret.toInt - 65535 ≤ 0
set_option maxRecDepth 10000 in
set_option maxHeartbeats 4000000 in
theorem c_228 (σ0 : SG) (hσ0 : WT σ0) (a : Int32) (b : Int32) : En 5 115 none mr_228 (P_228 σ0 a b) 0 [(0, .ref 159), (1, .int a), (2, .int b)] [] σ0 := by
  have hF0 : Fr [(35, 18), (35, 21), (42, 0), (43, 0), (44, 0), (45, 0), (46, 0)] σ0 σ0 := Fr_rfl
  refine En_Ps 1 (pc' := 1) (lv' := [(0, .ref 159), (1, .int a), (2, .int b)]) (st' := [.ref 159]) rfl ?_
  obtain ⟨z2, h1, h3, h4⟩ := WT_peekI hσ0 tgz_160 (by decide +kernel : FT 36 (0 : Int).toNat = (0, 0, 4)) (by decide +kernel)
  obtain ⟨z6, h5, h7, h8⟩ := WT_peekI hσ0 tgz_160 (by decide +kernel : FT 36 (7 : Int).toNat = (0, 0, 1600)) (by decide +kernel)
  refine En_callV rfl rfl rfl rfl rfl rfl rfl rfl tgz_159 (by decide +kernel) rfl (c_272 σ0 hσ0 z2 h1 z6 h5) (by decide) (by decide) (fun v10 σ11 h9 => ?_)
  obtain ⟨h12, h13, rfl, h14⟩ := h9
  have h15 := Fr_trans hF0 h13 (by decide +kernel)
  refine En_Ps 4 (pc' := 9) (lv' := [(4, .int ((Int32.ofInt 0))), (3, .int ((Int32.ofInt (-1)))), (0, .ref 159), (1, .int a), (2, .int b)]) (st' := []) rfl ?_
  have key9 : ∀ (n9 : Nat) (σ18 : SG) (y16 : Int32) (y17 : Int32), WT σ18 → Fr [(35, 18), (35, 21), (42, 0), (43, 0), (44, 0), (45, 0), (46, 0)] σ0 σ18 → (σ18 160)[(0 : Int).toNat]? = some (Value.int z2) → (σ18 160)[(7 : Int).toNat]? = some (Value.int z6) → (-1) ≤ y16.toInt → y16.toInt ≤ 65535 → 0 ≤ y17.toInt → y17.toInt ≤ 65536 → y16.toInt - y17.toInt + 1 ≤ 0 → -y17.toInt + 65536 < (n9 : Int) → En 5 115 none mr_228 (P_228 σ0 a b) 9 [(0, .ref 159), (1, .int a), (2, .int b), (3, .int y16), (4, .int y17)] [] σ18 := by
    intro n9
    induction n9 with
    | zero =>
      intro σ18 y16 y17 h19 h20 h21 h22 h23 h24 h25 h26 h27 h28
      first | exact (q_ec59fb8a68 h28 h26).elim | (exfalso; omega)
    | succ n9 ih9 =>
      intro σ18 y16 y17 h19 h20 h21 h22 h23 h24 h25 h26 h27 h28
      refine En_Ps 2 (pc' := 12) (lv' := [(0, .ref 159), (1, .int a), (2, .int b), (3, .int y16), (4, .int y17)]) (st' := [.ref 159, .int y17]) rfl ?_
      refine En_callV rfl rfl rfl rfl rfl rfl rfl rfl tgz_159 (by decide +kernel) rfl (c_192 σ18 h19) (by decide) (by decide) (fun v30 σ31 h29 => ?_)
      obtain ⟨h32, h33, z35, rfl, h34⟩ := h29
      have h36 := Fr_trans h20 h33 (by decide +kernel)
      refine En_icGt _ rfl rfl rfl (fun h37 => ?_) (fun h37 => ?_)
      · refine En_Ps 1 (pc' := 56) (lv' := [(0, .ref 159), (1, .int a), (2, .int b), (3, .int y16), (4, .int y17)]) (st' := [.int y16]) rfl ?_
        exact En_ret (v := some (Value.int y16)) rfl rfl rfl ⟨h32, h36, y16, rfl, ⟨by first | exact q_909eef6c0e h23 | omega, by first | exact q_e7edf0f95a h24 | omega⟩⟩
      · refine En_Ps 2 (pc' := 20) (lv' := [(0, .ref 159), (1, .int a), (2, .int b), (3, .int y16), (4, .int y17)]) (st' := [.int ((Int32.ofInt (-1))), .int y16]) rfl ?_
        refine En_icEq _ rfl (by decide : (Int32.ofInt (-1)).toInt = -1) rfl (fun h38 => ?_) (fun h38 => ?_)
        · refine En_Ps 4 (pc' := 40) (lv' := [(0, .ref 159), (1, .int a), (2, .int b), (3, .int y16), (4, .int y17)]) (st' := [.int b, .int y17, .int a, .ref 159]) rfl ?_
          refine En_callV rfl rfl rfl rfl rfl rfl rfl rfl tgz_159 (by decide +kernel) rfl (c_275 σ31 h32 a y17 b) (by decide) (by decide) (fun v40 σ41 h39 => ?_)
          obtain ⟨h42, h43, z45, rfl, h44⟩ := h39
          have h46 := Fr_trans h36 h43 (by decide +kernel)
          refine En_iEq _ rfl rfl (fun h47 => ?_) (fun h47 => ?_)
          · refine En_Ps 1 (pc' := 52) (lv' := [(4, .int ((y17 + Int32.ofInt 1))), (0, .ref 159), (1, .int a), (2, .int b), (3, .int y16)]) (st' := []) rfl ?_
            refine En_lv1 (addI rfl (by decide : (Int32.ofInt 1).toInt = 1) (by first | exact q_465ab79ac1 h25 | omega) (by first | exact q_1d2cffc2f0 h26 | omega)) (fun z48 h49 => ?_)
            refine En_Ps 1 (pc' := 9) (lv' := [(4, .int z48), (0, .ref 159), (1, .int a), (2, .int b), (3, .int y16)]) (st' := []) rfl ?_
            refine En_lv (lv := [(0, .ref 159), (1, .int a), (2, .int b), (3, .int y16), (4, .int z48)]) ⟨rfl, rfl, rfl, rfl, rfl, trivial⟩ ?_
            exact ih9 σ41 y16 z48 h42 h46 ((h43 _ _ (inWa tgz_160 (by decide +kernel))).trans ((h33 _ _ (inWa tgz_160 (by decide +kernel))).trans h21)) ((h43 _ _ (inWa tgz_160 (by decide +kernel))).trans ((h33 _ _ (inWa tgz_160 (by decide +kernel))).trans h22)) (by first | exact q_77b189e83d h23 | omega) (by first | exact q_cfed409c5c h38 | omega) (by first | exact q_35104ce9d3 h49 h25 | omega) (by first | exact q_14f3993466 h49 h37 h34.2 | omega) (by first | exact q_6591527e3e h27 h49 | omega) (by first | exact q_baf82f6f45 h49 h28 | omega)
          · refine En_Ps 3 (pc' := 52) (lv' := [(4, .int ((y17 + Int32.ofInt 1))), (3, .int y17), (0, .ref 159), (1, .int a), (2, .int b)]) (st' := []) rfl ?_
            refine En_lv1 (addI rfl (by decide : (Int32.ofInt 1).toInt = 1) (by first | exact q_465ab79ac1 h25 | omega) (by first | exact q_1d2cffc2f0 h26 | omega)) (fun z50 h51 => ?_)
            refine En_Ps 1 (pc' := 9) (lv' := [(4, .int z50), (3, .int y17), (0, .ref 159), (1, .int a), (2, .int b)]) (st' := []) rfl ?_
            refine En_lv (lv := [(0, .ref 159), (1, .int a), (2, .int b), (3, .int y17), (4, .int z50)]) ⟨rfl, rfl, rfl, rfl, rfl, trivial⟩ ?_
            exact ih9 σ41 y17 z50 h42 h46 ((h43 _ _ (inWa tgz_160 (by decide +kernel))).trans ((h33 _ _ (inWa tgz_160 (by decide +kernel))).trans h21)) ((h43 _ _ (inWa tgz_160 (by decide +kernel))).trans ((h33 _ _ (inWa tgz_160 (by decide +kernel))).trans h22)) (by first | exact q_5b439548fc h25 | omega) (by first | exact q_b63f85b2d9 h37 h34.2 | omega) (by first | exact q_35104ce9d3 h51 h25 | omega) (by first | exact q_14f3993466 h51 h37 h34.2 | omega) (by first | exact q_2fedec469a h51 | omega) (by first | exact q_baf82f6f45 h51 h28 | omega)
        · refine En_Ps 1 (pc' := 25) (lv' := [(0, .ref 159), (1, .int a), (2, .int b), (3, .int y16), (4, .int y17)]) (st' := [.int y17]) rfl ?_
          refine En_callS rfl rfl rfl rfl rfl rfl rfl rfl rfl (c_203b σ31 h32 y17) (by decide) (by decide) (fun v53 σ54 h52 => ?_)
          obtain ⟨h55, h56, z58, rfl, h57⟩ := h52
          have h59 := Fr_trans h36 h56 (by decide +kernel)
          refine En_Ps 1 (pc' := 29) (lv' := [(0, .ref 159), (1, .int a), (2, .int b), (3, .int y16), (4, .int y17)]) (st' := [.int y16, .int z58]) rfl ?_
          refine En_callS rfl rfl rfl rfl rfl rfl rfl rfl rfl (c_203b σ54 h55 y16) (by decide) (by decide) (fun v61 σ62 h60 => ?_)
          obtain ⟨h63, h64, z66, rfl, h65⟩ := h60
          have h67 := Fr_trans h59 h64 (by decide +kernel)
          refine En_icGe _ rfl rfl rfl (fun h68 => ?_) (fun h68 => ?_)
          · refine En_Ps 1 (pc' := 52) (lv' := [(4, .int ((y17 + Int32.ofInt 1))), (0, .ref 159), (1, .int a), (2, .int b), (3, .int y16)]) (st' := []) rfl ?_
            refine En_lv1 (addI rfl (by decide : (Int32.ofInt 1).toInt = 1) (by first | exact q_465ab79ac1 h25 | omega) (by first | exact q_1d2cffc2f0 h26 | omega)) (fun z69 h70 => ?_)
            refine En_Ps 1 (pc' := 9) (lv' := [(4, .int z69), (0, .ref 159), (1, .int a), (2, .int b), (3, .int y16)]) (st' := []) rfl ?_
            refine En_lv (lv := [(0, .ref 159), (1, .int a), (2, .int b), (3, .int y16), (4, .int z69)]) ⟨rfl, rfl, rfl, rfl, rfl, trivial⟩ ?_
            exact ih9 σ62 y16 z69 h63 h67 ((h64 _ _ (inWa tgz_160 (by decide +kernel))).trans ((h56 _ _ (inWa tgz_160 (by decide +kernel))).trans ((h33 _ _ (inWa tgz_160 (by decide +kernel))).trans h21))) ((h64 _ _ (inWa tgz_160 (by decide +kernel))).trans ((h56 _ _ (inWa tgz_160 (by decide +kernel))).trans ((h33 _ _ (inWa tgz_160 (by decide +kernel))).trans h22))) (by first | exact q_8d1c67ec40 h38 h23 | omega) (by first | exact q_36eb0a70bf h24 | omega) (by first | exact q_35104ce9d3 h70 h25 | omega) (by first | exact q_14f3993466 h70 h37 h34.2 | omega) (by first | exact q_6591527e3e h27 h70 | omega) (by first | exact q_baf82f6f45 h70 h28 | omega)
          · refine En_Ps 4 (pc' := 40) (lv' := [(0, .ref 159), (1, .int a), (2, .int b), (3, .int y16), (4, .int y17)]) (st' := [.int b, .int y17, .int a, .ref 159]) rfl ?_
            refine En_callV rfl rfl rfl rfl rfl rfl rfl rfl tgz_159 (by decide +kernel) rfl (c_275 σ62 h63 a y17 b) (by decide) (by decide) (fun v72 σ73 h71 => ?_)
            obtain ⟨h74, h75, z77, rfl, h76⟩ := h71
            have h78 := Fr_trans h67 h75 (by decide +kernel)
            refine En_iEq _ rfl rfl (fun h79 => ?_) (fun h79 => ?_)
            · refine En_Ps 1 (pc' := 52) (lv' := [(4, .int ((y17 + Int32.ofInt 1))), (0, .ref 159), (1, .int a), (2, .int b), (3, .int y16)]) (st' := []) rfl ?_
              refine En_lv1 (addI rfl (by decide : (Int32.ofInt 1).toInt = 1) (by first | exact q_465ab79ac1 h25 | omega) (by first | exact q_1d2cffc2f0 h26 | omega)) (fun z80 h81 => ?_)
              refine En_Ps 1 (pc' := 9) (lv' := [(4, .int z80), (0, .ref 159), (1, .int a), (2, .int b), (3, .int y16)]) (st' := []) rfl ?_
              refine En_lv (lv := [(0, .ref 159), (1, .int a), (2, .int b), (3, .int y16), (4, .int z80)]) ⟨rfl, rfl, rfl, rfl, rfl, trivial⟩ ?_
              exact ih9 σ73 y16 z80 h74 h78 ((h75 _ _ (inWa tgz_160 (by decide +kernel))).trans ((h64 _ _ (inWa tgz_160 (by decide +kernel))).trans ((h56 _ _ (inWa tgz_160 (by decide +kernel))).trans ((h33 _ _ (inWa tgz_160 (by decide +kernel))).trans h21)))) ((h75 _ _ (inWa tgz_160 (by decide +kernel))).trans ((h64 _ _ (inWa tgz_160 (by decide +kernel))).trans ((h56 _ _ (inWa tgz_160 (by decide +kernel))).trans ((h33 _ _ (inWa tgz_160 (by decide +kernel))).trans h22)))) (by first | exact q_8d1c67ec40 h38 h23 | omega) (by first | exact q_36eb0a70bf h24 | omega) (by first | exact q_35104ce9d3 h81 h25 | omega) (by first | exact q_14f3993466 h81 h37 h34.2 | omega) (by first | exact q_6591527e3e h27 h81 | omega) (by first | exact q_baf82f6f45 h81 h28 | omega)
            · refine En_Ps 3 (pc' := 52) (lv' := [(4, .int ((y17 + Int32.ofInt 1))), (3, .int y17), (0, .ref 159), (1, .int a), (2, .int b)]) (st' := []) rfl ?_
              refine En_lv1 (addI rfl (by decide : (Int32.ofInt 1).toInt = 1) (by first | exact q_465ab79ac1 h25 | omega) (by first | exact q_1d2cffc2f0 h26 | omega)) (fun z82 h83 => ?_)
              refine En_Ps 1 (pc' := 9) (lv' := [(4, .int z82), (3, .int y17), (0, .ref 159), (1, .int a), (2, .int b)]) (st' := []) rfl ?_
              refine En_lv (lv := [(0, .ref 159), (1, .int a), (2, .int b), (3, .int y17), (4, .int z82)]) ⟨rfl, rfl, rfl, rfl, rfl, trivial⟩ ?_
              exact ih9 σ73 y17 z82 h74 h78 ((h75 _ _ (inWa tgz_160 (by decide +kernel))).trans ((h64 _ _ (inWa tgz_160 (by decide +kernel))).trans ((h56 _ _ (inWa tgz_160 (by decide +kernel))).trans ((h33 _ _ (inWa tgz_160 (by decide +kernel))).trans h21)))) ((h75 _ _ (inWa tgz_160 (by decide +kernel))).trans ((h64 _ _ (inWa tgz_160 (by decide +kernel))).trans ((h56 _ _ (inWa tgz_160 (by decide +kernel))).trans ((h33 _ _ (inWa tgz_160 (by decide +kernel))).trans h22)))) (by first | exact q_5b439548fc h25 | omega) (by first | exact q_b63f85b2d9 h37 h34.2 | omega) (by first | exact q_35104ce9d3 h83 h25 | omega) (by first | exact q_14f3993466 h83 h37 h34.2 | omega) (by first | exact q_2fedec469a h83 | omega) (by first | exact q_baf82f6f45 h83 h28 | omega)
  have := (by decide : (Int32.ofInt (-1)).toInt = -1)
  have := (by decide : (Int32.ofInt 0).toInt = 0)
  refine En_lv (lv := [(0, .ref 159), (1, .int a), (2, .int b), (3, .int ((Int32.ofInt (-1)))), (4, .int ((Int32.ofInt 0)))]) ⟨rfl, rfl, rfl, rfl, rfl, trivial⟩ ?_
  exact key9 (Int.toNat (65536) + 1) σ11 ((Int32.ofInt (-1))) ((Int32.ofInt 0)) h12 h15 ((h13 _ _ (inWa tgz_160 (by decide +kernel))).trans h1) ((h13 _ _ (inWa tgz_160 (by decide +kernel))).trans h5) (by decide) (by decide) (by decide) (by decide) (by (first | exact q_2e3352c2b4 this (by decide) | omega)) (by first | exact toN_lt _ | omega)
end
/-! 32.ly.m05 -/
section
/-- DoorSchoolModel.course(II)I -/
abbrev P_207 (σ0 : SG) (a : Int32) (b : Int32) : PO := fun v σ => WT σ ∧ Fr [(35, 18), (35, 21), (42, 0), (43, 0), (44, 0), (45, 0), (46, 0)] σ0 σ ∧ ∃ ret : Int32, v = some (Value.int ret) ∧ -ret.toInt - 2 ≤ 0 ∧ ret.toInt - 65535 ≤ 0
set_option maxRecDepth 10000 in
set_option maxHeartbeats 4000000 in
theorem c_207 (σ0 : SG) (hσ0 : WT σ0) (a : Int32) (b : Int32) : En 6 139 none mr_207 (P_207 σ0 a b) 0 [(0, .ref 159), (1, .int a), (2, .int b)] [] σ0 := by
  have hF0 : Fr [(35, 18), (35, 21), (42, 0), (43, 0), (44, 0), (45, 0), (46, 0)] σ0 σ0 := Fr_rfl
  refine En_Ps 1 (pc' := 1) (lv' := [(0, .ref 159), (1, .int a), (2, .int b)]) (st' := [.int a]) rfl ?_
  refine En_callS rfl rfl rfl rfl rfl rfl rfl rfl rfl (c_268 σ0 hσ0 a) (by decide) (by decide) (fun v2 σ3 h1 => ?_)
  obtain ⟨h4, h5, z7, rfl, h6⟩ := h1
  have h8 := Fr_trans hF0 h5 (by decide +kernel)
  refine En_iEq _ rfl rfl (fun h9 => ?_) (fun h9 => ?_)
  · refine En_Ps 1 (pc' := 26) (lv' := [(0, .ref 159), (1, .int a), (2, .int b)]) (st' := [.int (((Int8.ofInt (-2)).toInt32))]) rfl ?_
    refine En_top (by decide : ((Int8.ofInt (-2)).toInt32).toInt = -2) (fun z10 h11 => ?_)
    exact En_ret (v := some (Value.int z10)) rfl rfl rfl ⟨h4, h8, z10, rfl, ⟨by first | exact q_f35c5d346c h11 | omega, by first | exact q_7aab8371ca h11 | omega⟩⟩
  · refine En_Ps 2 (pc' := 9) (lv' := [(0, .ref 159), (1, .int a), (2, .int b)]) (st' := [.int b, .ref 159]) rfl ?_
    refine En_callV rfl rfl rfl rfl rfl rfl rfl rfl tgz_159 (by decide +kernel) rfl (c_195 σ3 h4 b) (by decide) (by decide) (fun v13 σ14 h12 => ?_)
    obtain ⟨h15, h16, z18, rfl, h17⟩ := h12
    have h19 := Fr_trans h8 h16 (by decide +kernel)
    refine En_iEq _ rfl rfl (fun h20 => ?_) (fun h20 => ?_)
    · refine En_Ps 1 (pc' := 26) (lv' := [(0, .ref 159), (1, .int a), (2, .int b)]) (st' := [.int (((Int8.ofInt (-2)).toInt32))]) rfl ?_
      refine En_top (by decide : ((Int8.ofInt (-2)).toInt32).toInt = -2) (fun z21 h22 => ?_)
      exact En_ret (v := some (Value.int z21)) rfl rfl rfl ⟨h15, h19, z21, rfl, ⟨by first | exact q_f35c5d346c h22 | omega, by first | exact q_7aab8371ca h22 | omega⟩⟩
    · refine En_Ps 3 (pc' := 18) (lv' := [(0, .ref 159), (1, .int a), (2, .int b)]) (st' := [.int b, .int a, .ref 159]) rfl ?_
      refine En_callV rfl rfl rfl rfl rfl rfl rfl rfl tgz_159 (by decide +kernel) rfl (c_228 σ14 h15 a b) (by decide) (by decide) (fun v24 σ25 h23 => ?_)
      obtain ⟨h26, h27, z29, rfl, h28⟩ := h23
      have h30 := Fr_trans h19 h27 (by decide +kernel)
      refine En_Ps 1 (pc' := 26) (lv' := [(0, .ref 159), (1, .int a), (2, .int b)]) (st' := [.int z29]) rfl ?_
      exact En_ret (v := some (Value.int z29)) rfl rfl rfl ⟨h26, h30, z29, rfl, ⟨by first | exact q_108dc72d76 h28.1 | omega, by first | exact q_ef123ba13c h28.2 | omega⟩⟩
/-- DoorSchoolModel.cut(JI)J -/
abbrev P_208 (σ0 : SG) (a : Int64) (b : Int32) : PO := fun v σ => WT σ ∧ Fr [] σ0 σ ∧ ∃ ret : Int64, v = some (Value.long ret) ∧ True
set_option maxRecDepth 10000 in
set_option maxHeartbeats 4000000 in
theorem c_208 (σ0 : SG) (hσ0 : WT σ0) (a : Int64) (b : Int32) : En 0 0 none mr_208 (P_208 σ0 a b) 0 [(0, .long a), (2, .int b)] [] σ0 := by
  have hF0 : Fr [] σ0 σ0 := Fr_rfl
  refine En_Ps 4 (pc' := 6) (lv' := [(0, .long a), (2, .int b)]) (st' := [.int (((((Int8.ofInt 8).toInt32)) <<< (b &&& 31))), .int (((Int8.ofInt 64).toInt32))]) rfl ?_
  refine En_hav (fun z1 => ?_)
  refine En_Ps 1 (pc' := 7) (lv' := [(0, .long a), (2, .int b)]) (st' := [.int (((((Int8.ofInt 64).toInt32)) - z1))]) rfl ?_
  refine En_hav (fun z2 => ?_)
  refine En_Ps 4 (pc' := 11) (lv' := [(3, .int z2), (0, .long a), (2, .int b)]) (st' := [.long ((a <<< (z2.toInt64 &&& 63)))]) rfl ?_
  refine En_havL (fun z3 => ?_)
  refine En_Ps 2 (pc' := 13) (lv' := [(3, .int z2), (0, .long a), (2, .int b)]) (st' := [.long ((z3 >>> (z2.toInt64 &&& 63)))]) rfl ?_
  refine En_havL (fun z4 => ?_)
  exact En_ret (v := some (Value.long z4)) rfl rfl rfl ⟨hσ0, hF0, z4, rfl, trivial⟩
/-- DoorSchoolModel.good()Z -/
abbrev P_237 (σ0 : SG) (k : Int32) : PO := fun v σ => WT σ ∧ Fr [] σ0 σ ∧ ∃ ret : Int32, v = some (Value.int ret) ∧ -ret.toInt ≤ 0 ∧ ret.toInt - 1 ≤ 0 ∧ (-ret.toInt + 1 ≤ 0 → k.toInt ≤ 0) ∧ (ret.toInt ≤ 0 → -k.toInt + 1 ≤ 0)
set_option maxRecDepth 10000 in
set_option maxHeartbeats 4000000 in
theorem c_237 (σ0 : SG) (hσ0 : WT σ0) (k : Int32) (h_k : (σ0 159)[12]? = some (Value.int k)) : En 0 0 none mr_237 (P_237 σ0 k) 0 [(0, .ref 159)] [] σ0 := by
  obtain ⟨hl_k, hu_k⟩ := WT_int hσ0 (g := 35) (by decide +kernel) (by decide +kernel) (l := 0) (u := 3) (by decide +kernel) h_k
  have hF0 : Fr [] σ0 σ0 := Fr_rfl
  refine En_Ps 1 (pc' := 1) (lv' := [(0, .ref 159)]) (st' := [.ref 159]) rfl ?_
  refine En_getK (j := 12) h_k rfl rfl rfl tgz_159 (by decide +kernel) ?_
  refine En_iNe _ rfl rfl (fun h1 => ?_) (fun h1 => ?_)
  · refine En_Ps 1 (pc' := 12) (lv' := [(0, .ref 159)]) (st' := [.int ((Int32.ofInt 0))]) rfl ?_
    refine En_top (by decide : (Int32.ofInt 0).toInt = 0) (fun z2 h3 => ?_)
    exact En_ret (v := some (Value.int z2)) rfl rfl (retZ rfl rfl (by first | exact q_55451d0a83 h3 | omega) (by first | exact q_87849c3859 h3 | omega)) ⟨hσ0, hF0, z2, rfl, ⟨by first | exact q_097a37c2ae h3 | omega, by first | exact q_e269517bee h3 | omega, fun _ => by omega, fun _ => by (first | exact q_e74c65d0a8 h1 hl_k | omega)⟩⟩
  · refine En_Ps 2 (pc' := 12) (lv' := [(0, .ref 159)]) (st' := [.int ((Int32.ofInt 1))]) rfl ?_
    refine En_top (by decide : (Int32.ofInt 1).toInt = 1) (fun z4 h5 => ?_)
    exact En_ret (v := some (Value.int z4)) rfl rfl (retZ rfl rfl (by first | exact q_2b07c97645 h5 | omega) (by first | exact q_d9e7cbb253 h5 | omega)) ⟨hσ0, hF0, z4, rfl, ⟨by first | exact q_ad3eee31ca h5 | omega, by first | exact q_81cf297dc4 h5 | omega, fun _ => by (first | exact q_c5d285f1b9 h1 | omega), fun _ => by omega⟩⟩
end
/-! 32.ly.m10 -/
section
/-- DoorSchoolModel.deeds(I)I -/
abbrev P_210 (σ0 : SG) (a : Int32) : PO := fun v σ => WT σ ∧ Fr [(35, 18), (35, 21), (42, 0), (43, 0), (44, 0), (45, 0), (46, 0)] σ0 σ ∧ ∃ ret : Int32, v = some (Value.int ret) ∧ True
set_option maxRecDepth 10000 in
set_option maxHeartbeats 4000000 in
theorem c_210 (σ0 : SG) (hσ0 : WT σ0) (a : Int32) : En 5 112 none mr_210 (P_210 σ0 a) 0 [(0, .ref 159), (1, .int a)] [] σ0 := by
  have hF0 : Fr [(35, 18), (35, 21), (42, 0), (43, 0), (44, 0), (45, 0), (46, 0)] σ0 σ0 := Fr_rfl
  refine En_Ps 2 (pc' := 2) (lv' := [(0, .ref 159), (1, .int a)]) (st' := [.int a, .ref 159]) rfl ?_
  obtain ⟨z2, h1, h3, h4⟩ := WT_peekI hσ0 tgz_160 (by decide +kernel : FT 36 (2 : Int).toNat = (0, 0, 4)) (by decide +kernel)
  refine En_callV rfl rfl rfl rfl rfl rfl rfl rfl tgz_159 (by decide +kernel) rfl (c_254 σ0 hσ0 a z2 h1) (by decide) (by decide) (fun v6 σ7 h5 => ?_)
  obtain ⟨h8, h9, z11, rfl, h10⟩ := h5
  have h12 := Fr_trans hF0 h9 (by decide +kernel)
  refine En_iEq _ rfl rfl (fun h13 => ?_) (fun h13 => ?_)
  · refine En_Ps 1 (pc' := 18) (lv' := [(0, .ref 159), (1, .int a)]) (st' := [.int (((Int8.ofInt (-2)).toInt32))]) rfl ?_
    refine En_top (by decide : ((Int8.ofInt (-2)).toInt32).toInt = -2) (fun z14 h15 => ?_)
    exact En_ret (v := some (Value.int z14)) rfl rfl rfl ⟨h8, h12, z14, rfl, trivial⟩
  · refine En_Ps 2 (pc' := 10) (lv' := [(0, .ref 159), (1, .int a)]) (st' := [.int a, .ref 159]) rfl ?_
    refine En_callV rfl rfl rfl rfl rfl rfl rfl rfl tgz_159 (by decide +kernel) rfl (c_213 σ7 h8 a (geI rfl (by (first | exact q_bf8258001b h10.2.2.1 h13 h10.1 | omega))) (leI rfl (by (first | exact q_88b0c3c731 h10.2.2.1 h13 h10.1 h4 | omega)))) (by decide) (by decide) (fun v17 σ18 h16 => ?_)
    obtain ⟨h19, h20, z22, h23, z24, rfl, h21⟩ := h16
    have h25 := Fr_trans h12 h20 (by decide +kernel)
    refine En_Ps 1 (pc' := 18) (lv' := [(0, .ref 159), (1, .int a)]) (st' := [.int z24]) rfl ?_
    exact En_ret (v := some (Value.int z24)) rfl rfl rfl ⟨h19, h25, z24, rfl, trivial⟩
/-- DoorSchoolModel.deedsByWay(II)I -/
abbrev P_211 (σ0 : SG) (a : Int32) (b : Int32) : PO := fun v σ => WT σ ∧ Fr [(35, 18), (35, 21), (42, 0), (43, 0), (44, 0), (45, 0), (46, 0)] σ0 σ ∧ ∃ ret : Int32, v = some (Value.int ret) ∧ True
set_option maxRecDepth 10000 in
set_option maxHeartbeats 4000000 in
theorem c_211 (σ0 : SG) (hσ0 : WT σ0) (a : Int32) (b : Int32) (hl_a : 0 ≤ a.toInt) (hu_a : a.toInt ≤ 3) : En 4 91 none mr_211 (P_211 σ0 a b) 0 [(0, .ref 159), (1, .int a), (2, .int b)] [] σ0 := by
  have hF0 : Fr [(35, 18), (35, 21), (42, 0), (43, 0), (44, 0), (45, 0), (46, 0)] σ0 σ0 := Fr_rfl
  refine En_Ps 1 (pc' := 1) (lv' := [(0, .ref 159), (1, .int a), (2, .int b)]) (st' := [.ref 159]) rfl ?_
  obtain ⟨z2, h1, h3, h4⟩ := WT_peekI hσ0 tgz_160 (by decide +kernel : FT 36 (0 : Int).toNat = (0, 0, 4)) (by decide +kernel)
  obtain ⟨z6, h5, h7, h8⟩ := WT_peekI hσ0 tgz_160 (by decide +kernel : FT 36 (7 : Int).toNat = (0, 0, 1600)) (by decide +kernel)
  refine En_callV rfl rfl rfl rfl rfl rfl rfl rfl tgz_159 (by decide +kernel) rfl (c_272 σ0 hσ0 z2 h1 z6 h5) (by decide) (by decide) (fun v10 σ11 h9 => ?_)
  obtain ⟨h12, h13, rfl, h14⟩ := h9
  have h15 := Fr_trans hF0 h13 (by decide +kernel)
  refine En_Ps 2 (pc' := 6) (lv' := [(0, .ref 159), (1, .int a), (2, .int b)]) (st' := [.int a, .ref 159]) rfl ?_
  refine En_callV rfl rfl rfl rfl rfl rfl rfl rfl tgz_159 (by decide +kernel) rfl (c_271 σ11 h12 a (geI rfl (by first | exact q_58e6e51dcc hl_a | omega)) (leI rfl (by first | exact q_da5e9b976f hu_a | omega))) (by decide) (by decide) (fun v17 σ18 h16 => ?_)
  obtain ⟨h19, h20, z22, h23, rfl, h21⟩ := h16
  have h24 := Fr_trans h15 h20 (by decide +kernel)
  refine En_Ps 2 (pc' := 11) (lv' := [(0, .ref 159), (1, .int a), (2, .int b)]) (st' := [.int b, .ref 159]) rfl ?_
  refine En_callV rfl rfl rfl rfl rfl rfl rfl rfl tgz_159 (by decide +kernel) rfl (c_274 σ18 h19 b) (by decide) (by decide) (fun v26 σ27 h25 => ?_)
  obtain ⟨h28, h29, z31, rfl, h30⟩ := h25
  have h32 := Fr_trans h24 h29 (by decide +kernel)
  exact En_ret (v := some (Value.int z31)) rfl rfl rfl ⟨h28, h32, z31, rfl, trivial⟩
/-- DoorSchoolModel.deedsWith(III)I -/
abbrev P_214 (σ0 : SG) (a : Int32) (b : Int32) (c : Int32) : PO := fun v σ => WT σ ∧ Fr [(35, 18), (35, 21), (42, 0), (43, 0), (44, 0), (45, 0), (46, 0)] σ0 σ ∧ ∃ ret : Int32, v = some (Value.int ret) ∧ True
set_option maxRecDepth 10000 in
set_option maxHeartbeats 4000000 in
theorem c_214 (σ0 : SG) (hσ0 : WT σ0) (a : Int32) (b : Int32) (c : Int32) (hl_a : 0 ≤ a.toInt) (hu_a : a.toInt ≤ 3) (hl_b : 0 ≤ b.toInt) (hu_b : b.toInt ≤ 15) (hl_c : 0 ≤ c.toInt) (hu_c : c.toInt ≤ 1) : En 5 112 none mr_214 (P_214 σ0 a b c) 0 [(0, .ref 159), (1, .int a), (2, .int b), (3, .int c)] [] σ0 := by
  have hF0 : Fr [(35, 18), (35, 21), (42, 0), (43, 0), (44, 0), (45, 0), (46, 0)] σ0 σ0 := Fr_rfl
  refine En_Ps 2 (pc' := 2) (lv' := [(0, .ref 159), (1, .int a), (2, .int b), (3, .int c)]) (st' := [.int a, .ref 159]) rfl ?_
  refine En_callV rfl rfl rfl rfl rfl rfl rfl rfl tgz_159 (by decide +kernel) rfl (c_213 σ0 hσ0 a (geI rfl (by first | exact q_58e6e51dcc hl_a | omega)) (leI rfl (by first | exact q_da5e9b976f hu_a | omega))) (by decide) (by decide) (fun v2 σ3 h1 => ?_)
  obtain ⟨h4, h5, z7, h8, z9, rfl, h6⟩ := h1
  have h10 := Fr_trans hF0 h5 (by decide +kernel)
  refine En_Ps 3 (pc' := 9) (lv' := [(4, .int z9), (0, .ref 159), (1, .int a), (2, .int b), (3, .int c)]) (st' := [.int a, .ref 159]) rfl ?_
  refine En_callV rfl rfl rfl rfl rfl rfl rfl rfl tgz_159 (by decide +kernel) rfl (c_305 σ3 h4 a (geI rfl (by first | exact q_58e6e51dcc hl_a | omega)) (leI rfl (by first | exact q_da5e9b976f hu_a | omega))) (by decide) (by decide) (fun v12 σ13 h11 => ?_)
  obtain ⟨h14, h15, z17, rfl, h16⟩ := h11
  have h18 := Fr_trans h10 h15 (by decide +kernel)
  refine En_Ps 1 (pc' := 13) (lv' := [(4, .int z9), (0, .ref 159), (1, .int a), (2, .int b), (3, .int c)]) (st' := [.int a, .int z17]) rfl ?_
  refine En_icEq _ rfl rfl rfl (fun h19 => ?_) (fun h19 => ?_)
  · refine En_Ps 3 (pc' := 22) (lv' := [(4, .int z9), (0, .ref 159), (1, .int a), (2, .int b), (3, .int c)]) (st' := [.int c, .int b, .ref 159]) rfl ?_
    refine En_callV rfl rfl rfl rfl rfl rfl rfl rfl tgz_159 (by decide +kernel) rfl (c_188 σ13 h14 b c (geI rfl (by first | exact q_58e6e51dcc hl_b | omega)) (leI rfl (by first | exact q_5a4d8a7e08 hu_b | omega)) (geI rfl (by first | exact q_58e6e51dcc hl_c | omega)) (leI rfl (by first | exact q_9d0c30f9c5 hu_c | omega)) z7 ((h15 _ _ (inW tgz_159 (by decide +kernel))).trans h8) (by first | exact q_3601b11376 h6.2 | omega)) (by decide) (by decide) (fun v21 σ22 h20 => ?_)
    obtain ⟨h23, h24, z26, h27, rfl, h25⟩ := h20
    have h28 := Fr_trans h18 h24 (by decide +kernel)
    refine En_Ps 4 (pc' := 29) (lv' := [(4, .int z9), (0, .ref 159), (1, .int a), (2, .int b), (3, .int c)]) (st' := [.int ((Int32.ofInt 0)), .int a, .ref 159, .ref 159]) rfl ?_
    have := (by decide : ((Int32.ofInt 0)).toInt = 0)
    obtain ⟨z29, h30, h31, h32⟩ := WT_peekJ (J := (4 * a.toInt + ((Int32.ofInt 0)).toInt + 10)) (l := 0) (u := 2) h23 tgz_160 (by decide +kernel) (by (first | exact q_34105aa19f this hl_a | omega)) (lnI (by decide +kernel : LN _ = 226) (by (first | exact q_6ad94aa46b this hu_a | omega))) (FTrow 36 10 4 4 (by decide +kernel) (by (first | exact q_1d7a54019a this hl_a | omega)) (by (first | exact q_32a777686f this hu_a | omega)) (by omega))
    have := (by decide : ((Int32.ofInt 0)).toInt = 0)
    refine En_callV rfl rfl rfl rfl rfl rfl rfl rfl tgz_159 (by decide +kernel) rfl (c_290a σ22 h23 a ((Int32.ofInt 0)) (geI rfl (by first | exact q_58e6e51dcc hl_a | omega)) (leI rfl (by first | exact q_da5e9b976f hu_a | omega)) (geI (by decide : (Int32.ofInt 0).toInt = 0) (by decide)) (leI (by decide : (Int32.ofInt 0).toInt = 0) (by decide)) z29 h30) (by decide) (by decide) (fun v34 σ35 h33 => ?_)
    obtain ⟨h36, h37, z39, rfl, h38⟩ := h33
    have h40 := Fr_trans h28 h37 (by decide +kernel)
    refine En_callV rfl rfl rfl rfl rfl rfl rfl rfl tgz_159 (by decide +kernel) rfl (c_274 σ35 h36 z39) (by decide) (by decide) (fun v42 σ43 h41 => ?_)
    obtain ⟨h44, h45, z47, rfl, h46⟩ := h41
    have h48 := Fr_trans h40 h45 (by decide +kernel)
    exact En_ret (v := some (Value.int z47)) rfl rfl rfl ⟨h44, h48, z47, rfl, trivial⟩
  · refine En_Ps 1 (pc' := 18) (lv' := [(4, .int z9), (0, .ref 159), (1, .int a), (2, .int b), (3, .int c)]) (st' := [.int z9]) rfl ?_
    exact En_ret (v := some (Value.int z9)) rfl rfl rfl ⟨h14, h18, z9, rfl, trivial⟩
/-- DoorSchoolModel.deedsWithout(II)I -/
abbrev P_215 (σ0 : SG) (a : Int32) (b : Int32) : PO := fun v σ => WT σ ∧ Fr [(35, 18), (35, 21), (42, 0), (43, 0), (44, 0), (45, 0), (46, 0)] σ0 σ ∧ ∃ ret : Int32, v = some (Value.int ret) ∧ True
set_option maxRecDepth 10000 in
set_option maxHeartbeats 4000000 in
theorem c_215 (σ0 : SG) (hσ0 : WT σ0) (a : Int32) (b : Int32) (hl_a : 0 ≤ a.toInt) (hu_a : a.toInt ≤ 3) : En 4 91 none mr_215 (P_215 σ0 a b) 0 [(0, .ref 159), (1, .int a), (2, .int b)] [] σ0 := by
  have hF0 : Fr [(35, 18), (35, 21), (42, 0), (43, 0), (44, 0), (45, 0), (46, 0)] σ0 σ0 := Fr_rfl
  refine En_Ps 1 (pc' := 1) (lv' := [(0, .ref 159), (1, .int a), (2, .int b)]) (st' := [.ref 159]) rfl ?_
  obtain ⟨z2, h1, h3, h4⟩ := WT_peekI hσ0 tgz_160 (by decide +kernel : FT 36 (0 : Int).toNat = (0, 0, 4)) (by decide +kernel)
  obtain ⟨z6, h5, h7, h8⟩ := WT_peekI hσ0 tgz_160 (by decide +kernel : FT 36 (7 : Int).toNat = (0, 0, 1600)) (by decide +kernel)
  refine En_callV rfl rfl rfl rfl rfl rfl rfl rfl tgz_159 (by decide +kernel) rfl (c_272 σ0 hσ0 z2 h1 z6 h5) (by decide) (by decide) (fun v10 σ11 h9 => ?_)
  obtain ⟨h12, h13, rfl, h14⟩ := h9
  have h15 := Fr_trans hF0 h13 (by decide +kernel)
  refine En_Ps 2 (pc' := 6) (lv' := [(0, .ref 159), (1, .int a), (2, .int b)]) (st' := [.int ((Int32.ofInt 0)), .ref 159]) rfl ?_
  refine En_put (j := 21) rfl rfl rfl tgz_159 (by decide +kernel) rfl (vI (l := 0) (u := 17) (by decide +kernel) (by decide : (Int32.ofInt 0).toInt = 0) (by decide) (by decide)) h12 h15 (by decide +kernel) (fun σ16 h17 h18 h19 h20 => ?_)
  refine En_Ps 2 (pc' := 11) (lv' := [(3, .int ((Int32.ofInt 0))), (0, .ref 159), (1, .int a), (2, .int b)]) (st' := []) rfl ?_
  have key11 : ∀ (n11 : Nat) (σ23 : SG) (y21 : Int32) (y22 : Int32), WT σ23 → Fr [(35, 18), (35, 21), (42, 0), (43, 0), (44, 0), (45, 0), (46, 0)] σ0 σ23 → (σ23 160)[(0 : Int).toNat]? = some (Value.int z2) → (σ23 160)[(7 : Int).toNat]? = some (Value.int z6) → (σ23 159)[21]? = some (Value.int y22) → 0 ≤ y21.toInt → y21.toInt ≤ 13 → 0 ≤ y22.toInt → y22.toInt ≤ 13 → y22.toInt - y21.toInt ≤ 0 → -y21.toInt + 13 < (n11 : Int) → En 4 91 none mr_215 (P_215 σ0 a b) 11 [(0, .ref 159), (1, .int a), (2, .int b), (3, .int y21)] [] σ23 := by
    intro n11
    induction n11 with
    | zero =>
      intro σ23 y21 y22 h24 h25 h26 h27 h28 h29 h30 h31 h32 h33 h34
      first | exact (q_5583ec5aac h34 h30).elim | (exfalso; omega)
    | succ n11 ih11 =>
      intro σ23 y21 y22 h24 h25 h26 h27 h28 h29 h30 h31 h32 h33 h34
      refine En_Ps 4 (pc' := 15) (lv' := [(0, .ref 159), (1, .int a), (2, .int b), (3, .int y21)]) (st' := [.int ((Int32.ofInt 2)), .int a, .ref 159, .int y21]) rfl ?_
      have := (by decide : ((Int32.ofInt 2)).toInt = 2)
      obtain ⟨z35, h36, h37, h38⟩ := WT_peekJ (J := (4 * a.toInt + ((Int32.ofInt 2)).toInt + 10)) (l := 0) (u := 12) h24 tgz_160 (by decide +kernel) (by (first | exact q_0761fef2f2 this hl_a | omega)) (lnI (by decide +kernel : LN _ = 226) (by (first | exact q_d1089ad428 this hu_a | omega))) (FTrow 36 12 4 4 (by decide +kernel) (by (first | exact q_f2d287688d this hl_a | omega)) (by (first | exact q_0fdbec91b1 this hu_a | omega)) (by omega))
      have := (by decide : ((Int32.ofInt 2)).toInt = 2)
      refine En_callV rfl rfl rfl rfl rfl rfl rfl rfl tgz_159 (by decide +kernel) rfl (c_290c σ23 h24 a ((Int32.ofInt 2)) (geI rfl (by first | exact q_58e6e51dcc hl_a | omega)) (leI rfl (by first | exact q_da5e9b976f hu_a | omega)) (geI (by decide : (Int32.ofInt 2).toInt = 2) (by decide)) (leI (by decide : (Int32.ofInt 2).toInt = 2) (by decide)) z35 h36) (by decide) (by decide) (fun v40 σ41 h39 => ?_)
      obtain ⟨h42, h43, z45, rfl, h44⟩ := h39
      have h46 := Fr_trans h25 h43 (by decide +kernel)
      refine En_icGe _ rfl rfl rfl (fun h47 => ?_) (fun h47 => ?_)
      · refine En_Ps 4 (pc' := 62) (lv' := [(0, .ref 159), (1, .int a), (2, .int b), (3, .int y21)]) (st' := [.int ((Int32.ofInt 0)), .int a, .ref 159, .ref 159]) rfl ?_
        have := (by decide : ((Int32.ofInt 0)).toInt = 0)
        obtain ⟨z48, h49, h50, h51⟩ := WT_peekJ (J := (4 * a.toInt + ((Int32.ofInt 0)).toInt + 10)) (l := 0) (u := 2) h42 tgz_160 (by decide +kernel) (by (first | exact q_34105aa19f this hl_a | omega)) (lnI (by decide +kernel : LN _ = 226) (by (first | exact q_6ad94aa46b this hu_a | omega))) (FTrow 36 10 4 4 (by decide +kernel) (by (first | exact q_1d7a54019a this hl_a | omega)) (by (first | exact q_32a777686f this hu_a | omega)) (by omega))
        have := (by decide : ((Int32.ofInt 0)).toInt = 0)
        refine En_callV rfl rfl rfl rfl rfl rfl rfl rfl tgz_159 (by decide +kernel) rfl (c_290a σ41 h42 a ((Int32.ofInt 0)) (geI rfl (by first | exact q_58e6e51dcc hl_a | omega)) (leI rfl (by first | exact q_da5e9b976f hu_a | omega)) (geI (by decide : (Int32.ofInt 0).toInt = 0) (by decide)) (leI (by decide : (Int32.ofInt 0).toInt = 0) (by decide)) z48 h49) (by decide) (by decide) (fun v53 σ54 h52 => ?_)
        obtain ⟨h55, h56, z58, rfl, h57⟩ := h52
        have h59 := Fr_trans h46 h56 (by decide +kernel)
        refine En_callV rfl rfl rfl rfl rfl rfl rfl rfl tgz_159 (by decide +kernel) rfl (c_274 σ54 h55 z58) (by decide) (by decide) (fun v61 σ62 h60 => ?_)
        obtain ⟨h63, h64, z66, rfl, h65⟩ := h60
        have h67 := Fr_trans h59 h64 (by decide +kernel)
        exact En_ret (v := some (Value.int z66)) rfl rfl rfl ⟨h63, h67, z66, rfl, trivial⟩
      · refine En_Ps 2 (pc' := 23) (lv' := [(0, .ref 159), (1, .int a), (2, .int b), (3, .int y21)]) (st' := [.int b, .int y21]) rfl ?_
        refine En_icEq _ rfl rfl rfl (fun h68 => ?_) (fun h68 => ?_)
        · refine En_Ps 1 (pc' := 55) (lv' := [(3, .int ((y21 + Int32.ofInt 1))), (0, .ref 159), (1, .int a), (2, .int b)]) (st' := []) rfl ?_
          refine En_lv1 (addI rfl (by decide : (Int32.ofInt 1).toInt = 1) (by first | exact q_465ab79ac1 h29 | omega) (by first | exact q_d22f73d43b h30 | omega)) (fun z69 h70 => ?_)
          refine En_Ps 1 (pc' := 11) (lv' := [(3, .int z69), (0, .ref 159), (1, .int a), (2, .int b)]) (st' := []) rfl ?_
          refine En_lv (lv := [(0, .ref 159), (1, .int a), (2, .int b), (3, .int z69)]) ⟨rfl, rfl, rfl, rfl, trivial⟩ ?_
          exact ih11 σ41 z69 y22 h42 h46 ((h43 _ _ (inWa tgz_160 (by decide +kernel))).trans h26) ((h43 _ _ (inWa tgz_160 (by decide +kernel))).trans h27) ((h43 _ _ (inW tgz_159 (by decide +kernel))).trans h28) (by first | exact q_35104ce9d3 h70 h29 | omega) (by first | exact q_f7427ec6b2 h70 h47 h44.2.2.1 h38 | omega) (by first | exact q_58e6e51dcc h31 | omega) (by first | exact q_7991346fe8 h32 | omega) (by first | exact q_3a5e225620 h33 h70 | omega) (by first | exact q_20fedeb4b2 h70 h34 | omega)
        · refine En_Ps 2 (pc' := 28) (lv' := [(0, .ref 159), (1, .int a), (2, .int b), (3, .int y21)]) (st' := [.ref 159, .ref 159]) rfl ?_
          refine En_getU (j := 1) (u := 160) (g' := 36) (q := 0) rfl rfl rfl tgz_159 (by decide +kernel) h42 (by decide +kernel) un_36_160 (fun h71 => ?_)
          refine En_Ps 2 (pc' := 33) (lv' := [(0, .ref 159), (1, .int a), (2, .int b), (3, .int y21)]) (st' := [.int y21, .int a, .ref 160, .ref 159]) rfl ?_
          refine En_callS rfl rfl rfl rfl rfl rfl rfl rfl rfl (c_281 σ41 h42 a y21 (geI rfl (by first | exact q_58e6e51dcc hl_a | omega)) (leI rfl (by first | exact q_da5e9b976f hu_a | omega)) (geI rfl (by first | exact q_58e6e51dcc h29 | omega)) (leI rfl (by first | exact q_d923c6da86 h47 h44.2.1 | omega))) (by decide) (by decide) (fun v74 σ75 h73 => ?_)
          obtain ⟨h76, h77, z79, rfl, h78⟩ := h73
          have h80 := Fr_trans h46 h77 (by decide +kernel)
          refine En_iald (l := 0) (u := 15) rfl rfl tgz_160 (by decide +kernel) h76 (by first | exact q_2c9de765f8 h78.1 | omega) (lnI (by decide +kernel : LN _ = 226) (by first | exact q_0616d82733 h78.2.1 | omega)) (FTrow 36 26 2 48 (by decide +kernel) (by first | exact q_cfcbae6494 h78.1 | omega) (by first | exact q_c04962bf42 h78.2.2.1 hu_a h47 h44.2.1 | omega) (by first | exact q_bfc7928b1f h78.2.2.1 h78.2.2.2 | omega)) (fun z82 h81 h83 h84 => ?_)
          refine En_Ps 1 (pc' := 38) (lv' := [(0, .ref 159), (1, .int a), (2, .int b), (3, .int y21)]) (st' := [.ref 159, .int z82, .ref 159]) rfl ?_
          refine En_getK (j := 1) ((h77 _ _ (inW tgz_159 (by decide +kernel))).trans h71) rfl rfl rfl tgz_159 (by decide +kernel) ?_
          refine En_Ps 2 (pc' := 43) (lv' := [(0, .ref 159), (1, .int a), (2, .int b), (3, .int y21)]) (st' := [.int y21, .int a, .ref 160, .int z82, .ref 159]) rfl ?_
          refine En_callS rfl rfl rfl rfl rfl rfl rfl rfl rfl (c_281 σ75 h76 a y21 (geI rfl (by first | exact q_58e6e51dcc hl_a | omega)) (leI rfl (by first | exact q_da5e9b976f hu_a | omega)) (geI rfl (by first | exact q_58e6e51dcc h29 | omega)) (leI rfl (by first | exact q_d923c6da86 h47 h44.2.1 | omega))) (by decide) (by decide) (fun v86 σ87 h85 => ?_)
          obtain ⟨h88, h89, z91, rfl, h90⟩ := h85
          have h92 := Fr_trans h80 h89 (by decide +kernel)
          refine En_Ps 2 (pc' := 48) (lv' := [(0, .ref 159), (1, .int a), (2, .int b), (3, .int y21)]) (st' := [.int ((z91 + ((Int32.ofInt 1)))), .ref 160, .int z82, .ref 159]) rfl ?_
          refine En_top (addI rfl (by decide : (Int32.ofInt 1).toInt = 1) (by first | exact q_c40141e2b1 h90.1 | omega) (by first | exact q_919014a1f8 h90.2.1 | omega)) (fun z93 h94 => ?_)
          refine En_iald (l := 0) (u := 1) rfl rfl tgz_160 (by decide +kernel) h88 (by first | exact q_f9ae7b6bc1 h94 h90.1 | omega) (lnI (by decide +kernel : LN _ = 226) (by first | exact q_4c6d633468 h94 h90.2.1 | omega)) (FTrow 36 27 2 48 (by decide +kernel) (by first | exact q_af8e3f94d3 h94 h90.1 | omega) (by first | exact q_6cc87f4aa1 h94 h90.2.2.1 hu_a h47 h44.2.1 | omega) (by first | exact q_493b8125c1 h90.2.2.1 h94 h90.2.2.2 | omega)) (fun z96 h95 h97 h98 => ?_)
          refine En_callV rfl rfl rfl rfl rfl rfl rfl rfl tgz_159 (by decide +kernel) rfl (c_188 σ87 h88 z82 z96 (geI rfl (by first | exact q_58e6e51dcc h83 | omega)) (leI rfl (by first | exact q_5a4d8a7e08 h84 | omega)) (geI rfl (by first | exact q_58e6e51dcc h97 | omega)) (leI rfl (by first | exact q_9d0c30f9c5 h98 | omega)) y22 ((h89 _ _ (inW tgz_159 (by decide +kernel))).trans ((h77 _ _ (inW tgz_159 (by decide +kernel))).trans ((h43 _ _ (inW tgz_159 (by decide +kernel))).trans h28))) (by first | exact q_d46f366cdb h32 | omega)) (by decide) (by decide) (fun v100 σ101 h99 => ?_)
          obtain ⟨h102, h103, z105, h106, rfl, h104⟩ := h99
          have h107 := Fr_trans h92 h103 (by decide +kernel)
          refine En_Ps 1 (pc' := 55) (lv' := [(3, .int ((y21 + Int32.ofInt 1))), (0, .ref 159), (1, .int a), (2, .int b)]) (st' := []) rfl ?_
          refine En_lv1 (addI rfl (by decide : (Int32.ofInt 1).toInt = 1) (by first | exact q_465ab79ac1 h29 | omega) (by first | exact q_d22f73d43b h30 | omega)) (fun z108 h109 => ?_)
          refine En_Ps 1 (pc' := 11) (lv' := [(3, .int z108), (0, .ref 159), (1, .int a), (2, .int b)]) (st' := []) rfl ?_
          refine En_lv (lv := [(0, .ref 159), (1, .int a), (2, .int b), (3, .int z108)]) ⟨rfl, rfl, rfl, rfl, trivial⟩ ?_
          exact ih11 σ101 z108 z105 h102 h107 ((h103 _ _ (inWa tgz_160 (by decide +kernel))).trans ((h89 _ _ (inWa tgz_160 (by decide +kernel))).trans ((h77 _ _ (inWa tgz_160 (by decide +kernel))).trans ((h43 _ _ (inWa tgz_160 (by decide +kernel))).trans h26)))) ((h103 _ _ (inWa tgz_160 (by decide +kernel))).trans ((h89 _ _ (inWa tgz_160 (by decide +kernel))).trans ((h77 _ _ (inWa tgz_160 (by decide +kernel))).trans ((h43 _ _ (inWa tgz_160 (by decide +kernel))).trans h27)))) h106 (by first | exact q_35104ce9d3 h109 h29 | omega) (by first | exact q_54f15c7756 h109 h47 h44.2.1 | omega) (by first | exact q_996aa4c518 h104.1 | omega) (by first | exact q_77a00303e0 h104.2.2.2.1 h33 h47 h44.2.1 | omega) (by first | exact q_cbb20cbf38 h104.2.2.2.1 h109 h33 | omega) (by first | exact q_20fedeb4b2 h109 h34 | omega)
  have := (by decide : (Int32.ofInt 0).toInt = 0)
  have := (by decide : (Int32.ofInt 0).toInt = 0)
  refine En_lv (lv := [(0, .ref 159), (1, .int a), (2, .int b), (3, .int ((Int32.ofInt 0)))]) ⟨rfl, rfl, rfl, rfl, trivial⟩ ?_
  exact key11 (Int.toNat (13) + 1) σ16 ((Int32.ofInt 0)) ((Int32.ofInt 0)) h17 h18 ((h20 _ _ (Or.inl (neTG tgz_160 tgz_159 (by decide)))).trans ((h13 _ _ (inWa tgz_160 (by decide +kernel))).trans h1)) ((h20 _ _ (Or.inl (neTG tgz_160 tgz_159 (by decide)))).trans ((h13 _ _ (inWa tgz_160 (by decide +kernel))).trans h5)) h19 (by decide) (by decide) (by decide) (by decide) (by (first | exact q_1bb76abeaf | omega)) (by first | exact toN_lt _ | omega)
/-- DoorSchoolModel.isRule(II)Z -/
abbrev P_263 (σ0 : SG) (a : Int32) (b : Int32) : PO := fun v σ => WT σ ∧ Fr [] σ0 σ ∧ ∃ ret : Int32, v = some (Value.int ret) ∧ -ret.toInt ≤ 0 ∧ ret.toInt - 1 ≤ 0 ∧ (ret.toInt - 1 ≤ 0 ∧ -ret.toInt + 1 ≤ 0 → -a.toInt ≤ 0 ∧ a.toInt - 15 ≤ 0 ∧ -b.toInt ≤ 0 ∧ b.toInt - 15 ≤ 0)
set_option maxRecDepth 10000 in
set_option maxHeartbeats 4000000 in
theorem c_263 (σ0 : SG) (hσ0 : WT σ0) (a : Int32) (b : Int32) : En 3 62 none mr_263 (P_263 σ0 a b) 0 [(0, .ref 159), (1, .int a), (2, .int b)] [] σ0 := by
  have hF0 : Fr [] σ0 σ0 := Fr_rfl
  refine En_Ps 3 (pc' := 3) (lv' := [(0, .ref 159), (1, .int a), (2, .int b)]) (st' := [.long a.toInt64, .ref 159]) rfl ?_
  have : a.toInt64.toInt = a.toInt := (i2lI rfl)
  refine En_callV rfl rfl rfl rfl rfl rfl rfl rfl tgz_159 (by decide +kernel) rfl (c_259 σ0 hσ0 a.toInt64) (by decide) (by decide) (fun v2 σ3 h1 => ?_)
  obtain ⟨h4, h5, z7, rfl, h6⟩ := h1
  have h8 := Fr_trans hF0 h5 (by decide +kernel)
  refine En_iEq _ rfl rfl (fun h9 => ?_) (fun h9 => ?_)
  · refine En_Ps 1 (pc' := 31) (lv' := [(0, .ref 159), (1, .int a), (2, .int b)]) (st' := [.int ((Int32.ofInt 0))]) rfl ?_
    refine En_top (by decide : (Int32.ofInt 0).toInt = 0) (fun z10 h11 => ?_)
    exact En_ret (v := some (Value.int z10)) rfl rfl (retZ rfl rfl (by first | exact q_55451d0a83 h11 | omega) (by first | exact q_87849c3859 h11 | omega)) ⟨h4, h8, z10, rfl, ⟨by first | exact q_097a37c2ae h11 | omega, by first | exact q_e269517bee h11 | omega, fun _ => by omega⟩⟩
  · refine En_Ps 3 (pc' := 12) (lv' := [(0, .ref 159), (1, .int a), (2, .int b)]) (st' := [.long b.toInt64, .ref 159]) rfl ?_
    have : b.toInt64.toInt = b.toInt := (i2lI rfl)
    refine En_callV rfl rfl rfl rfl rfl rfl rfl rfl tgz_159 (by decide +kernel) rfl (c_259 σ3 h4 b.toInt64) (by decide) (by decide) (fun v13 σ14 h12 => ?_)
    obtain ⟨h15, h16, z18, rfl, h17⟩ := h12
    have h19 := Fr_trans h8 h16 (by decide +kernel)
    refine En_iEq _ rfl rfl (fun h20 => ?_) (fun h20 => ?_)
    · refine En_Ps 1 (pc' := 31) (lv' := [(0, .ref 159), (1, .int a), (2, .int b)]) (st' := [.int ((Int32.ofInt 0))]) rfl ?_
      refine En_top (by decide : (Int32.ofInt 0).toInt = 0) (fun z21 h22 => ?_)
      exact En_ret (v := some (Value.int z21)) rfl rfl (retZ rfl rfl (by first | exact q_55451d0a83 h22 | omega) (by first | exact q_87849c3859 h22 | omega)) ⟨h15, h19, z21, rfl, ⟨by first | exact q_097a37c2ae h22 | omega, by first | exact q_e269517bee h22 | omega, fun _ => by omega⟩⟩
    · refine En_Ps 4 (pc' := 22) (lv' := [(0, .ref 159), (1, .int a), (2, .int b)]) (st' := [.int ((a ^^^ ((Int32.ofInt (-1))))), .int b]) rfl ?_
      refine En_nam (fun z23 h24 => ?_)
      refine En_Ps 1 (pc' := 23) (lv' := [(0, .ref 159), (1, .int a), (2, .int b)]) (st' := [.int ((b &&& z23))]) rfl ?_
      refine En_nam (fun z25 h26 => ?_)
      obtain ⟨h27, h28⟩ := andn_rng h26 rfl (by (first | exact q_456bfc6cc0 h17.2.2 h20 h17.1 this | omega)) (by (first | exact q_ff80988181 h17.2.2 h20 h17.1 this | omega) : _ ≤ (15 : Int))
      refine En_iNe _ rfl rfl (fun h29 => ?_) (fun h29 => ?_)
      · refine En_Ps 1 (pc' := 31) (lv' := [(0, .ref 159), (1, .int a), (2, .int b)]) (st' := [.int ((Int32.ofInt 0))]) rfl ?_
        refine En_top (by decide : (Int32.ofInt 0).toInt = 0) (fun z30 h31 => ?_)
        exact En_ret (v := some (Value.int z30)) rfl rfl (retZ rfl rfl (by first | exact q_55451d0a83 h31 | omega) (by first | exact q_87849c3859 h31 | omega)) ⟨h15, h19, z30, rfl, ⟨by first | exact q_097a37c2ae h31 | omega, by first | exact q_e269517bee h31 | omega, fun _ => by (first | exact q_b413991216 h6.2.2 h9 h6.1 (i2lI rfl) this h17.2.2 h20 h17.1 | omega)⟩⟩
      · obtain ⟨h32, h33⟩ := andn_zero h26 h24 h29 rfl rfl (by (first | exact q_456bfc6cc0 h6.2.2 h9 h6.1 (i2lI rfl) | omega))
        refine En_Ps 2 (pc' := 31) (lv' := [(0, .ref 159), (1, .int a), (2, .int b)]) (st' := [.int ((Int32.ofInt 1))]) rfl ?_
        refine En_top (by decide : (Int32.ofInt 1).toInt = 1) (fun z34 h35 => ?_)
        exact En_ret (v := some (Value.int z34)) rfl rfl (retZ rfl rfl (by first | exact q_2b07c97645 h35 | omega) (by first | exact q_d9e7cbb253 h35 | omega)) ⟨h15, h19, z34, rfl, ⟨by first | exact q_ad3eee31ca h35 | omega, by first | exact q_81cf297dc4 h35 | omega, fun _ => by (first | exact q_cfd7e427e4 h33 h32 (i2lI rfl) h6.2.2 h9 h6.1 this h17.2.2 h20 h17.1 | omega)⟩⟩
/-- DoorSchoolModel.does(II)I -/
abbrev P_216 (σ0 : SG) (a : Int32) (b : Int32) : PO := fun v σ => WT σ ∧ Fr [] σ0 σ ∧ ∃ ret : Int32, v = some (Value.int ret) ∧ -ret.toInt - 2 ≤ 0 ∧ ret.toInt - 65535 ≤ 0
set_option maxRecDepth 10000 in
set_option maxHeartbeats 4000000 in
theorem c_216 (σ0 : SG) (hσ0 : WT σ0) (a : Int32) (b : Int32) : En 4 84 none mr_216 (P_216 σ0 a b) 0 [(0, .ref 159), (1, .int a), (2, .int b)] [] σ0 := by
  have hF0 : Fr [] σ0 σ0 := Fr_rfl
  refine En_Ps 3 (pc' := 3) (lv' := [(0, .ref 159), (1, .int a), (2, .int b)]) (st' := [.int b, .int a, .ref 159]) rfl ?_
  refine En_callV rfl rfl rfl rfl rfl rfl rfl rfl tgz_159 (by decide +kernel) rfl (c_263 σ0 hσ0 a b) (by decide) (by decide) (fun v2 σ3 h1 => ?_)
  obtain ⟨h4, h5, z7, rfl, h6⟩ := h1
  have h8 := Fr_trans hF0 h5 (by decide +kernel)
  refine En_iEq _ rfl rfl (fun h9 => ?_) (fun h9 => ?_)
  · refine En_Ps 1 (pc' := 20) (lv' := [(0, .ref 159), (1, .int a), (2, .int b)]) (st' := [.int (((Int8.ofInt (-2)).toInt32))]) rfl ?_
    refine En_top (by decide : ((Int8.ofInt (-2)).toInt32).toInt = -2) (fun z10 h11 => ?_)
    exact En_ret (v := some (Value.int z10)) rfl rfl rfl ⟨h4, h8, z10, rfl, ⟨by first | exact q_f35c5d346c h11 | omega, by first | exact q_7aab8371ca h11 | omega⟩⟩
  · refine En_Ps 3 (pc' := 12) (lv' := [(0, .ref 159), (1, .int a), (2, .int b)]) (st' := [.int b, .int a, .ref 159]) rfl ?_
    refine En_callV rfl rfl rfl rfl rfl rfl rfl rfl tgz_159 (by decide +kernel) rfl (c_212 σ3 h4 a b) (by decide) (by decide) (fun v13 σ14 h12 => ?_)
    obtain ⟨h15, h16, z18, rfl, h17⟩ := h12
    have h19 := Fr_trans h8 h16 (by decide +kernel)
    refine En_Ps 1 (pc' := 20) (lv' := [(0, .ref 159), (1, .int a), (2, .int b)]) (st' := [.int z18]) rfl ?_
    exact En_ret (v := some (Value.int z18)) rfl rfl rfl ⟨h15, h19, z18, rfl, ⟨by first | exact q_70a249c7f8 h17.1 | omega, by first | exact q_ef123ba13c h17.2 | omega⟩⟩
/-- DoorSchoolModel.door(II)I -/
abbrev P_219 (σ0 : SG) (a : Int32) (b : Int32) : PO := fun v σ => WT σ ∧ Fr [] σ0 σ ∧ ∃ ret : Int32, v = some (Value.int ret) ∧ -ret.toInt - 2 ≤ 0 ∧ ret.toInt - 50 ≤ 0
set_option maxRecDepth 10000 in
set_option maxHeartbeats 4000000 in
theorem c_219 (σ0 : SG) (hσ0 : WT σ0) (a : Int32) (b : Int32) : En 2 46 none mr_219 (P_219 σ0 a b) 0 [(0, .ref 159), (1, .int a), (2, .int b)] [] σ0 := by
  have hF0 : Fr [] σ0 σ0 := Fr_rfl
  refine En_Ps 2 (pc' := 2) (lv' := [(0, .ref 159), (1, .int a), (2, .int b)]) (st' := [.int a, .ref 159]) rfl ?_
  obtain ⟨z2, h1, h3, h4⟩ := WT_peekI hσ0 tgz_160 (by decide +kernel : FT 36 (2 : Int).toNat = (0, 0, 4)) (by decide +kernel)
  refine En_callV rfl rfl rfl rfl rfl rfl rfl rfl tgz_159 (by decide +kernel) rfl (c_254 σ0 hσ0 a z2 h1) (by decide) (by decide) (fun v6 σ7 h5 => ?_)
  obtain ⟨h8, h9, z11, rfl, h10⟩ := h5
  have h12 := Fr_trans hF0 h9 (by decide +kernel)
  refine En_iEq _ rfl rfl (fun h13 => ?_) (fun h13 => ?_)
  · refine En_Ps 1 (pc' := 31) (lv' := [(0, .ref 159), (1, .int a), (2, .int b)]) (st' := [.int (((Int8.ofInt (-2)).toInt32))]) rfl ?_
    refine En_top (by decide : ((Int8.ofInt (-2)).toInt32).toInt = -2) (fun z14 h15 => ?_)
    exact En_ret (v := some (Value.int z14)) rfl rfl rfl ⟨h8, h12, z14, rfl, ⟨by first | exact q_f35c5d346c h15 | omega, by first | exact q_307520f238 h15 | omega⟩⟩
  · refine En_Ps 4 (pc' := 14) (lv' := [(0, .ref 159), (1, .int a), (2, .int b)]) (st' := [.long ((3 : Int64)), .long ((Int64.ofNat 0)), .long b.toInt64]) rfl ?_
    have : b.toInt64.toInt = b.toInt := (i2lI rfl)
    have := (by decide : ((Int64.ofNat 0)).toInt = 0)
    have := (by decide : ((3 : Int64)).toInt = 3)
    refine En_callS rfl rfl rfl rfl rfl rfl rfl rfl rfl (c_249 σ7 h8 b.toInt64 ((Int64.ofNat 0)) ((3 : Int64))) (by decide) (by decide) (fun v17 σ18 h16 => ?_)
    obtain ⟨h19, h20, z22, rfl, h21⟩ := h16
    have h23 := Fr_trans h12 h20 (by decide +kernel)
    refine En_iEq _ rfl rfl (fun h24 => ?_) (fun h24 => ?_)
    · refine En_Ps 1 (pc' := 31) (lv' := [(0, .ref 159), (1, .int a), (2, .int b)]) (st' := [.int (((Int8.ofInt (-2)).toInt32))]) rfl ?_
      refine En_top (by decide : ((Int8.ofInt (-2)).toInt32).toInt = -2) (fun z25 h26 => ?_)
      exact En_ret (v := some (Value.int z25)) rfl rfl rfl ⟨h19, h23, z25, rfl, ⟨by first | exact q_f35c5d346c h26 | omega, by first | exact q_307520f238 h26 | omega⟩⟩
    · refine En_Ps 3 (pc' := 23) (lv' := [(0, .ref 159), (1, .int a), (2, .int b)]) (st' := [.int b, .int a, .ref 159]) rfl ?_
      refine En_callV rfl rfl rfl rfl rfl rfl rfl rfl tgz_159 (by decide +kernel) rfl (c_290e σ18 h19 a b (geI rfl (by (first | exact q_bf8258001b h10.2.2.1 h13 h10.1 | omega))) (leI rfl (by (first | exact q_88b0c3c731 h10.2.2.1 h13 h10.1 h4 | omega))) (geI rfl (by (first | exact q_bf5288a390 (i2lI rfl) h21.2.2.1 h24 h21.1 (by decide) | omega))) (leI rfl (by (first | exact q_8130a48c79 (i2lI rfl) h21.2.2.1 h24 h21.1 this | omega)))) (by decide) (by decide) (fun v28 σ29 h27 => ?_)
      obtain ⟨h30, h31, z33, rfl, h32⟩ := h27
      have h34 := Fr_trans h23 h31 (by decide +kernel)
      refine En_Ps 1 (pc' := 31) (lv' := [(0, .ref 159), (1, .int a), (2, .int b)]) (st' := [.int z33]) rfl ?_
      exact En_ret (v := some (Value.int z33)) rfl rfl rfl ⟨h30, h34, z33, rfl, ⟨by first | exact q_108dc72d76 h32.1 | omega, by first | exact q_ff529c7430 h32.2 | omega⟩⟩
/-- DoorSchoolModel.easiest(I)I -/
abbrev P_220 (σ0 : SG) (a : Int32) : PO := fun v σ => WT σ ∧ Fr [(35, 18), (35, 21), (42, 0), (43, 0), (44, 0), (45, 0), (46, 0)] σ0 σ ∧ ∃ ret : Int32, v = some (Value.int ret) ∧ -ret.toInt - 2 ≤ 0 ∧ ret.toInt - 2 ≤ 0
set_option maxRecDepth 10000 in
set_option maxHeartbeats 4000000 in
theorem c_220 (σ0 : SG) (hσ0 : WT σ0) (a : Int32) : En 6 139 none mr_220 (P_220 σ0 a) 0 [(0, .ref 159), (1, .int a)] [] σ0 := by
  have hF0 : Fr [(35, 18), (35, 21), (42, 0), (43, 0), (44, 0), (45, 0), (46, 0)] σ0 σ0 := Fr_rfl
  refine En_Ps 2 (pc' := 2) (lv' := [(0, .ref 159), (1, .int a)]) (st' := [.int a, .ref 159]) rfl ?_
  refine En_callV rfl rfl rfl rfl rfl rfl rfl rfl tgz_159 (by decide +kernel) rfl (c_195 σ0 hσ0 a) (by decide) (by decide) (fun v2 σ3 h1 => ?_)
  obtain ⟨h4, h5, z7, rfl, h6⟩ := h1
  have h8 := Fr_trans hF0 h5 (by decide +kernel)
  refine En_iNe _ rfl rfl (fun h9 => ?_) (fun h9 => ?_)
  · refine En_Ps 6 (pc' := 20) (lv' := [(4, .int ((Int32.ofInt 0))), (3, .int ((1000000 : Int32))), (2, .int ((Int32.ofInt (-1)))), (0, .ref 159), (1, .int a)]) (st' := []) rfl ?_
    have key20 : ∀ (n20 : Nat) (σ13 : SG) (y10 : Int32) (y11 : Int32) (y12 : Int32), WT σ13 → Fr [(35, 18), (35, 21), (42, 0), (43, 0), (44, 0), (45, 0), (46, 0)] σ0 σ13 → (-1) ≤ y10.toInt → y10.toInt ≤ 2 → 0 ≤ y12.toInt → y12.toInt ≤ 3 → y10.toInt - y12.toInt + 1 ≤ 0 → -y12.toInt + 3 < (n20 : Int) → En 6 139 none mr_220 (P_220 σ0 a) 20 [(0, .ref 159), (1, .int a), (2, .int y10), (3, .int y11), (4, .int y12)] [] σ13 := by
      intro n20
      induction n20 with
      | zero =>
        intro σ13 y10 y11 y12 h14 h15 h16 h17 h18 h19 h20 h21
        first | exact (q_9f1e7068c9 h21 h19).elim | (exfalso; omega)
      | succ n20 ih20 =>
        intro σ13 y10 y11 y12 h14 h15 h16 h17 h18 h19 h20 h21
        refine En_Ps 2 (pc' := 23) (lv' := [(0, .ref 159), (1, .int a), (2, .int y10), (3, .int y11), (4, .int y12)]) (st' := [.int ((Int32.ofInt 3)), .int y12]) rfl ?_
        refine En_icGe _ rfl (by decide : (Int32.ofInt 3).toInt = 3) rfl (fun h22 => ?_) (fun h22 => ?_)
        · refine En_Ps 1 (pc' := 69) (lv' := [(0, .ref 159), (1, .int a), (2, .int y10), (3, .int y11), (4, .int y12)]) (st' := [.int y10]) rfl ?_
          exact En_ret (v := some (Value.int y10)) rfl rfl rfl ⟨h14, h15, y10, rfl, ⟨by first | exact q_fe58cd40d0 h16 | omega, by first | exact q_316dab1512 h17 | omega⟩⟩
        · refine En_Ps 3 (pc' := 30) (lv' := [(0, .ref 159), (1, .int a), (2, .int y10), (3, .int y11), (4, .int y12)]) (st' := [.int a, .int y12, .ref 159]) rfl ?_
          refine En_callV rfl rfl rfl rfl rfl rfl rfl rfl tgz_159 (by decide +kernel) rfl (c_228 σ13 h14 y12 a) (by decide) (by decide) (fun v24 σ25 h23 => ?_)
          obtain ⟨h26, h27, z29, rfl, h28⟩ := h23
          have h30 := Fr_trans h15 h27 (by decide +kernel)
          refine En_Ps 3 (pc' := 38) (lv' := [(5, .int z29), (0, .ref 159), (1, .int a), (2, .int y10), (3, .int y11), (4, .int y12)]) (st' := [.int ((Int32.ofInt (-1))), .int z29]) rfl ?_
          refine En_icEq _ rfl (by decide : (Int32.ofInt (-1)).toInt = -1) rfl (fun h31 => ?_) (fun h31 => ?_)
          · refine En_Ps 1 (pc' := 65) (lv' := [(4, .int ((y12 + Int32.ofInt 1))), (5, .int z29), (0, .ref 159), (1, .int a), (2, .int y10), (3, .int y11)]) (st' := []) rfl ?_
            refine En_lv1 (addI rfl (by decide : (Int32.ofInt 1).toInt = 1) (by first | exact q_465ab79ac1 h18 | omega) (by first | exact q_6ae830b01d h22 | omega)) (fun z32 h33 => ?_)
            refine En_Ps 1 (pc' := 20) (lv' := [(4, .int z32), (5, .int z29), (0, .ref 159), (1, .int a), (2, .int y10), (3, .int y11)]) (st' := []) rfl ?_
            refine En_lv (lv := [(0, .ref 159), (1, .int a), (2, .int y10), (3, .int y11), (4, .int z32)]) ⟨rfl, rfl, rfl, rfl, rfl, trivial⟩ ?_
            exact ih20 σ25 y10 y11 z32 h26 h30 (by first | exact q_77b189e83d h16 | omega) (by first | exact q_a85463bd0d h17 | omega) (by first | exact q_35104ce9d3 h33 h18 | omega) (by first | exact q_84805d5d8e h33 h22 | omega) (by first | exact q_6591527e3e h20 h33 | omega) (by first | exact q_6272716eb4 h33 h21 | omega)
          · refine En_Ps 1 (pc' := 43) (lv' := [(5, .int z29), (0, .ref 159), (1, .int a), (2, .int y10), (3, .int y11), (4, .int y12)]) (st' := [.int z29]) rfl ?_
            refine En_callS rfl rfl rfl rfl rfl rfl rfl rfl rfl (c_203b σ25 h26 z29) (by decide) (by decide) (fun v35 σ36 h34 => ?_)
            obtain ⟨h37, h38, z40, rfl, h39⟩ := h34
            have h41 := Fr_trans h30 h38 (by decide +kernel)
            refine En_Ps 1 (pc' := 47) (lv' := [(5, .int z29), (0, .ref 159), (1, .int a), (2, .int y10), (3, .int y11), (4, .int y12)]) (st' := [.int y11, .int z40]) rfl ?_
            refine En_icLt _ rfl rfl rfl (fun h42 => ?_) (fun h42 => ?_)
            · refine En_Ps 1 (pc' := 55) (lv' := [(5, .int z29), (0, .ref 159), (1, .int a), (2, .int y10), (3, .int y11), (4, .int y12)]) (st' := [.int z29]) rfl ?_
              refine En_callS rfl rfl rfl rfl rfl rfl rfl rfl rfl (c_203b σ36 h37 z29) (by decide) (by decide) (fun v44 σ45 h43 => ?_)
              obtain ⟨h46, h47, z49, rfl, h48⟩ := h43
              have h50 := Fr_trans h41 h47 (by decide +kernel)
              refine En_Ps 4 (pc' := 65) (lv' := [(4, .int ((y12 + Int32.ofInt 1))), (2, .int y12), (3, .int z49), (5, .int z29), (0, .ref 159), (1, .int a)]) (st' := []) rfl ?_
              refine En_lv1 (addI rfl (by decide : (Int32.ofInt 1).toInt = 1) (by first | exact q_465ab79ac1 h18 | omega) (by first | exact q_6ae830b01d h22 | omega)) (fun z51 h52 => ?_)
              refine En_Ps 1 (pc' := 20) (lv' := [(4, .int z51), (2, .int y12), (3, .int z49), (5, .int z29), (0, .ref 159), (1, .int a)]) (st' := []) rfl ?_
              refine En_lv (lv := [(0, .ref 159), (1, .int a), (2, .int y12), (3, .int z49), (4, .int z51)]) ⟨rfl, rfl, rfl, rfl, rfl, trivial⟩ ?_
              exact ih20 σ45 y12 z49 z51 h46 h50 (by first | exact q_5b439548fc h18 | omega) (by first | exact q_f1519f12c0 h22 | omega) (by first | exact q_35104ce9d3 h52 h18 | omega) (by first | exact q_84805d5d8e h52 h22 | omega) (by first | exact q_2fedec469a h52 | omega) (by first | exact q_6272716eb4 h52 h21 | omega)
            · refine En_Ps 2 (pc' := 65) (lv' := [(4, .int ((y12 + Int32.ofInt 1))), (5, .int z29), (0, .ref 159), (1, .int a), (2, .int y10), (3, .int y11)]) (st' := []) rfl ?_
              refine En_lv1 (addI rfl (by decide : (Int32.ofInt 1).toInt = 1) (by first | exact q_465ab79ac1 h18 | omega) (by first | exact q_6ae830b01d h22 | omega)) (fun z53 h54 => ?_)
              refine En_Ps 1 (pc' := 20) (lv' := [(4, .int z53), (5, .int z29), (0, .ref 159), (1, .int a), (2, .int y10), (3, .int y11)]) (st' := []) rfl ?_
              refine En_lv (lv := [(0, .ref 159), (1, .int a), (2, .int y10), (3, .int y11), (4, .int z53)]) ⟨rfl, rfl, rfl, rfl, rfl, trivial⟩ ?_
              exact ih20 σ36 y10 y11 z53 h37 h41 (by first | exact q_77b189e83d h16 | omega) (by first | exact q_a85463bd0d h17 | omega) (by first | exact q_35104ce9d3 h54 h18 | omega) (by first | exact q_84805d5d8e h54 h22 | omega) (by first | exact q_6591527e3e h20 h54 | omega) (by first | exact q_6272716eb4 h54 h21 | omega)
    have := (by decide : (Int32.ofInt (-1)).toInt = -1)
    have := (by decide : (1000000 : Int32).toInt = 1000000)
    have := (by decide : (Int32.ofInt 0).toInt = 0)
    refine En_lv (lv := [(0, .ref 159), (1, .int a), (2, .int ((Int32.ofInt (-1)))), (3, .int ((1000000 : Int32))), (4, .int ((Int32.ofInt 0)))]) ⟨rfl, rfl, rfl, rfl, rfl, trivial⟩ ?_
    exact key20 (Int.toNat (3) + 1) σ3 ((Int32.ofInt (-1))) ((1000000 : Int32)) ((Int32.ofInt 0)) h4 h8 (by decide) (by decide) (by decide) (by decide) (by (first | exact q_2e3352c2b4 this (by decide) | omega)) (by first | exact toN_lt _ | omega)
  · refine En_Ps 1 (pc' := 10) (lv' := [(0, .ref 159), (1, .int a)]) (st' := [.int (((Int8.ofInt (-2)).toInt32))]) rfl ?_
    refine En_top (by decide : ((Int8.ofInt (-2)).toInt32).toInt = -2) (fun z55 h56 => ?_)
    exact En_ret (v := some (Value.int z55)) rfl rfl rfl ⟨h4, h8, z55, rfl, ⟨by first | exact q_f35c5d346c h56 | omega, by first | exact q_53fa448498 h56 | omega⟩⟩
/-- DoorSchoolModel.teachAll(II)V -/
abbrev P_321 (σ0 : SG) (a : Int32) (b : Int32) : PO := fun v σ => WT σ ∧ Fr [(35, 18), (35, 21), (35, 22), (35, 23), (42, 0), (43, 0), (44, 0), (45, 0), (46, 0)] σ0 σ ∧ v = none ∧ True
set_option maxRecDepth 10000 in
set_option maxHeartbeats 4000000 in
theorem c_321 (σ0 : SG) (hσ0 : WT σ0) (a : Int32) (b : Int32) : En 4 91 none mr_321 (P_321 σ0 a b) 0 [(0, .ref 159), (1, .int a), (2, .int b)] [] σ0 := by
  have hF0 : Fr [(35, 18), (35, 21), (35, 22), (35, 23), (42, 0), (43, 0), (44, 0), (45, 0), (46, 0)] σ0 σ0 := Fr_rfl
  refine En_Ps 1 (pc' := 1) (lv' := [(0, .ref 159), (1, .int a), (2, .int b)]) (st' := [.ref 159]) rfl ?_
  obtain ⟨z2, h1, h3, h4⟩ := WT_peekI hσ0 tgz_160 (by decide +kernel : FT 36 (0 : Int).toNat = (0, 0, 4)) (by decide +kernel)
  obtain ⟨z6, h5, h7, h8⟩ := WT_peekI hσ0 tgz_160 (by decide +kernel : FT 36 (7 : Int).toNat = (0, 0, 1600)) (by decide +kernel)
  refine En_callV rfl rfl rfl rfl rfl rfl rfl rfl tgz_159 (by decide +kernel) rfl (c_272 σ0 hσ0 z2 h1 z6 h5) (by decide) (by decide) (fun v10 σ11 h9 => ?_)
  obtain ⟨h12, h13, rfl, h14⟩ := h9
  have h15 := Fr_trans hF0 h13 (by decide +kernel)
  refine En_Ps 2 (pc' := 6) (lv' := [(0, .ref 159), (1, .int a), (2, .int b)]) (st' := [.int ((Int32.ofInt 0)), .ref 159]) rfl ?_
  refine En_put (j := 22) rfl rfl rfl tgz_159 (by decide +kernel) rfl (vF (by decide +kernel)) h12 h15 (by decide +kernel) (fun σ16 h17 h18 h19 h20 => ?_)
  refine En_Ps 2 (pc' := 11) (lv' := [(0, .ref 159), (1, .int a), (2, .int b)]) (st' := [.int ((Int32.ofInt 0)), .ref 159]) rfl ?_
  refine En_put (j := 23) rfl rfl rfl tgz_159 (by decide +kernel) rfl (vF (by decide +kernel)) h17 h18 (by decide +kernel) (fun σ21 h22 h23 h24 h25 => ?_)
  refine En_Ps 2 (pc' := 16) (lv' := [(3, .int ((Int32.ofInt 0))), (0, .ref 159), (1, .int a), (2, .int b)]) (st' := []) rfl ?_
  have key16 : ∀ (n16 : Nat) (σ29 : SG) (y26 : Int32) (y27 : Int32) (y28 : Int32), WT σ29 → Fr [(35, 18), (35, 21), (35, 22), (35, 23), (42, 0), (43, 0), (44, 0), (45, 0), (46, 0)] σ0 σ29 → (σ29 160)[(0 : Int).toNat]? = some (Value.int z2) → (σ29 160)[(7 : Int).toNat]? = some (Value.int z6) → (σ29 159)[22]? = some (Value.int y27) → (σ29 159)[23]? = some (Value.int y28) → 0 ≤ y26.toInt → y26.toInt ≤ 81 → 0 ≤ y28.toInt → y28.toInt ≤ 81 → y28.toInt - y26.toInt ≤ 0 → -y26.toInt + 81 < (n16 : Int) → En 4 91 none mr_321 (P_321 σ0 a b) 16 [(0, .ref 159), (1, .int a), (2, .int b), (3, .int y26)] [] σ29 := by
    intro n16
    induction n16 with
    | zero =>
      intro σ29 y26 y27 y28 h30 h31 h32 h33 h34 h35 h36 h37 h38 h39 h40 h41
      first | exact (q_ffef14d449 h41 h37).elim | (exfalso; omega)
    | succ n16 ih16 =>
      intro σ29 y26 y27 y28 h30 h31 h32 h33 h34 h35 h36 h37 h38 h39 h40 h41
      refine En_Ps 2 (pc' := 18) (lv' := [(0, .ref 159), (1, .int a), (2, .int b), (3, .int y26)]) (st' := [.ref 159, .int y26]) rfl ?_
      refine En_getI (j := 18) (l := 0) (u := 81) rfl rfl rfl tgz_159 (by decide +kernel) h30 (by decide +kernel) (fun z43 h42 h44 h45 => ?_)
      refine En_icGe _ rfl rfl rfl (fun h46 => ?_) (fun h46 => ?_)
      · exact En_ret (v := none) rfl rfl rfl ⟨h30, h31, rfl, trivial⟩
      · refine En_Ps 3 (pc' := 27) (lv' := [(0, .ref 159), (1, .int a), (2, .int b), (3, .int y26)]) (st' := [.ref 159, .int b, .ref 159]) rfl ?_
        refine En_getU (j := 17) (u := 168) (g' := 44) (q := 0) rfl rfl rfl tgz_159 (by decide +kernel) h30 (by decide +kernel) un_44_168 (fun h47 => ?_)
        refine En_Ps 1 (pc' := 31) (lv' := [(0, .ref 159), (1, .int a), (2, .int b), (3, .int y26)]) (st' := [.int y26, .ref 168, .int b, .ref 159]) rfl ?_
        refine En_iald (l := (-2147483648)) (u := 2147483647) rfl rfl tgz_168 (by decide +kernel) h30 (by first | exact q_58e6e51dcc h36 | omega) (lnI (by decide +kernel : LN _ = 81) (by first | exact q_a0e855914a h46 h45 | omega)) (FTsgl (by decide +kernel)) (fun z50 h49 h51 h52 => ?_)
        refine En_callV rfl rfl rfl rfl rfl rfl rfl rfl tgz_159 (by decide +kernel) rfl (c_273 σ29 h30 b z50) (by decide) (by decide) (fun v54 σ55 h53 => ?_)
        obtain ⟨h56, h57, rfl, h58⟩ := h53
        have h59 := Fr_trans h31 h57 (by decide +kernel)
        refine En_Ps 2 (pc' := 37) (lv' := [(0, .ref 159), (1, .int a), (2, .int b), (3, .int y26)]) (st' := [.int a, .ref 159]) rfl ?_
        refine En_callV rfl rfl rfl rfl rfl rfl rfl rfl tgz_159 (by decide +kernel) rfl (c_274 σ55 h56 a) (by decide) (by decide) (fun v61 σ62 h60 => ?_)
        obtain ⟨h63, h64, z66, rfl, h65⟩ := h60
        have h67 := Fr_trans h59 h64 (by decide +kernel)
        refine En_Ps 1 (pc' := 41) (lv' := [(0, .ref 159), (1, .int a), (2, .int b), (3, .int y26)]) (st' := [.ref 159, .int z66]) rfl ?_
        refine En_getK (j := 17) ((h64 _ _ (inW tgz_159 (by decide +kernel))).trans ((h57 _ _ (inW tgz_159 (by decide +kernel))).trans h47)) rfl rfl rfl tgz_159 (by decide +kernel) ?_
        refine En_Ps 1 (pc' := 45) (lv' := [(0, .ref 159), (1, .int a), (2, .int b), (3, .int y26)]) (st' := [.int y26, .ref 168, .int z66]) rfl ?_
        refine En_ialdK ((h64 _ _ (inWa tgz_168 (by decide +kernel))).trans ((h57 _ _ (inWa tgz_168 (by decide +kernel))).trans h49)) rfl rfl tgz_168 (by decide +kernel) h63 (by first | exact q_58e6e51dcc h36 | omega) (lnI (by decide +kernel : LN _ = 81) (by first | exact q_a0e855914a h46 h45 | omega)) ?_
        refine En_Ps 1 (pc' := 47) (lv' := [(0, .ref 159), (1, .int a), (2, .int b), (3, .int y26)]) (st' := [.int ((z66 ^^^ z50))]) rfl ?_
        refine En_hav (fun z69 => ?_)
        refine En_callS rfl rfl rfl rfl rfl rfl rfl rfl rfl (c_203b σ62 h63 z69) (by decide) (by decide) (fun v71 σ72 h70 => ?_)
        obtain ⟨h73, h74, z76, rfl, h75⟩ := h70
        have h77 := Fr_trans h67 h74 (by decide +kernel)
        refine En_Ps 3 (pc' := 54) (lv' := [(4, .int z76), (0, .ref 159), (1, .int a), (2, .int b), (3, .int y26)]) (st' := [.ref 159, .ref 159]) rfl ?_
        refine En_getK (j := 22) ((h74 _ _ (inW tgz_159 (by decide +kernel))).trans ((h64 _ _ (inW tgz_159 (by decide +kernel))).trans ((h57 _ _ (inW tgz_159 (by decide +kernel))).trans h34))) rfl rfl rfl tgz_159 (by decide +kernel) ?_
        refine En_Ps 2 (pc' := 60) (lv' := [(4, .int z76), (0, .ref 159), (1, .int a), (2, .int b), (3, .int y26)]) (st' := [.int ((y27 + z76)), .ref 159]) rfl ?_
        refine En_hav (fun z78 => ?_)
        refine En_put (j := 22) rfl rfl rfl tgz_159 (by decide +kernel) rfl (vF (by decide +kernel)) h73 h77 (by decide +kernel) (fun σ79 h80 h81 h82 h83 => ?_)
        refine En_Ps 2 (pc' := 65) (lv' := [(4, .int z76), (0, .ref 159), (1, .int a), (2, .int b), (3, .int y26)]) (st' := [.ref 159, .ref 159]) rfl ?_
        refine En_getK (j := 23) ((h83 _ _ (Or.inr (by decide))).trans ((h74 _ _ (inW tgz_159 (by decide +kernel))).trans ((h64 _ _ (inW tgz_159 (by decide +kernel))).trans ((h57 _ _ (inW tgz_159 (by decide +kernel))).trans h35)))) rfl rfl rfl tgz_159 (by decide +kernel) ?_
        refine En_Ps 1 (pc' := 70) (lv' := [(4, .int z76), (0, .ref 159), (1, .int a), (2, .int b), (3, .int y26)]) (st' := [.int z76, .int y28, .ref 159]) rfl ?_
        refine En_iNe _ rfl rfl (fun h84 => ?_) (fun h84 => ?_)
        · refine En_Ps 2 (pc' := 79) (lv' := [(4, .int z76), (0, .ref 159), (1, .int a), (2, .int b), (3, .int y26)]) (st' := [.int ((y28 + ((Int32.ofInt 0)))), .ref 159]) rfl ?_
          refine En_top (addI rfl (by decide : (Int32.ofInt 0).toInt = 0) (by first | exact q_2f569dfca1 h38 | omega) (by first | exact q_a21129f50f h39 | omega)) (fun z85 h86 => ?_)
          refine En_put (j := 23) rfl rfl rfl tgz_159 (by decide +kernel) rfl (vF (by decide +kernel)) h80 h81 (by decide +kernel) (fun σ87 h88 h89 h90 h91 => ?_)
          refine En_Ps 1 (pc' := 85) (lv' := [(3, .int ((y26 + Int32.ofInt 1))), (4, .int z76), (0, .ref 159), (1, .int a), (2, .int b)]) (st' := []) rfl ?_
          refine En_lv1 (addI rfl (by decide : (Int32.ofInt 1).toInt = 1) (by first | exact q_465ab79ac1 h36 | omega) (by first | exact q_d778ff18c8 h37 | omega)) (fun z92 h93 => ?_)
          refine En_Ps 1 (pc' := 16) (lv' := [(3, .int z92), (4, .int z76), (0, .ref 159), (1, .int a), (2, .int b)]) (st' := []) rfl ?_
          refine En_lv (lv := [(0, .ref 159), (1, .int a), (2, .int b), (3, .int z92)]) ⟨rfl, rfl, rfl, rfl, trivial⟩ ?_
          exact ih16 σ87 z92 z78 z85 h88 h89 ((h91 _ _ (Or.inl (neTG tgz_160 tgz_159 (by decide)))).trans ((h83 _ _ (Or.inl (neTG tgz_160 tgz_159 (by decide)))).trans ((h74 _ _ (inWa tgz_160 (by decide +kernel))).trans ((h64 _ _ (inWa tgz_160 (by decide +kernel))).trans ((h57 _ _ (inWa tgz_160 (by decide +kernel))).trans h32))))) ((h91 _ _ (Or.inl (neTG tgz_160 tgz_159 (by decide)))).trans ((h83 _ _ (Or.inl (neTG tgz_160 tgz_159 (by decide)))).trans ((h74 _ _ (inWa tgz_160 (by decide +kernel))).trans ((h64 _ _ (inWa tgz_160 (by decide +kernel))).trans ((h57 _ _ (inWa tgz_160 (by decide +kernel))).trans h33))))) ((h91 _ _ (Or.inr (by decide))).trans h82) h90 (by first | exact q_35104ce9d3 h93 h36 | omega) (by first | exact q_798b104d48 h93 h46 h45 | omega) (by first | exact q_771c4e5138 h86 h38 | omega) (by first | exact q_18b5268c76 h86 h39 | omega) (by first | exact q_969c4fd5e6 h86 h93 h40 | omega) (by first | exact q_4ff790945b h93 h41 | omega)
        · refine En_Ps 3 (pc' := 79) (lv' := [(4, .int z76), (0, .ref 159), (1, .int a), (2, .int b), (3, .int y26)]) (st' := [.int ((y28 + ((Int32.ofInt 1)))), .ref 159]) rfl ?_
          refine En_top (addI rfl (by decide : (Int32.ofInt 1).toInt = 1) (by first | exact q_465ab79ac1 h38 | omega) (by first | exact q_d778ff18c8 h39 | omega)) (fun z94 h95 => ?_)
          refine En_put (j := 23) rfl rfl rfl tgz_159 (by decide +kernel) rfl (vF (by decide +kernel)) h80 h81 (by decide +kernel) (fun σ96 h97 h98 h99 h100 => ?_)
          refine En_Ps 1 (pc' := 85) (lv' := [(3, .int ((y26 + Int32.ofInt 1))), (4, .int z76), (0, .ref 159), (1, .int a), (2, .int b)]) (st' := []) rfl ?_
          refine En_lv1 (addI rfl (by decide : (Int32.ofInt 1).toInt = 1) (by first | exact q_465ab79ac1 h36 | omega) (by first | exact q_d778ff18c8 h37 | omega)) (fun z101 h102 => ?_)
          refine En_Ps 1 (pc' := 16) (lv' := [(3, .int z101), (4, .int z76), (0, .ref 159), (1, .int a), (2, .int b)]) (st' := []) rfl ?_
          refine En_lv (lv := [(0, .ref 159), (1, .int a), (2, .int b), (3, .int z101)]) ⟨rfl, rfl, rfl, rfl, trivial⟩ ?_
          exact ih16 σ96 z101 z78 z94 h97 h98 ((h100 _ _ (Or.inl (neTG tgz_160 tgz_159 (by decide)))).trans ((h83 _ _ (Or.inl (neTG tgz_160 tgz_159 (by decide)))).trans ((h74 _ _ (inWa tgz_160 (by decide +kernel))).trans ((h64 _ _ (inWa tgz_160 (by decide +kernel))).trans ((h57 _ _ (inWa tgz_160 (by decide +kernel))).trans h32))))) ((h100 _ _ (Or.inl (neTG tgz_160 tgz_159 (by decide)))).trans ((h83 _ _ (Or.inl (neTG tgz_160 tgz_159 (by decide)))).trans ((h74 _ _ (inWa tgz_160 (by decide +kernel))).trans ((h64 _ _ (inWa tgz_160 (by decide +kernel))).trans ((h57 _ _ (inWa tgz_160 (by decide +kernel))).trans h33))))) ((h100 _ _ (Or.inr (by decide))).trans h82) h99 (by first | exact q_35104ce9d3 h102 h36 | omega) (by first | exact q_798b104d48 h102 h46 h45 | omega) (by first | exact q_35104ce9d3 h95 h38 | omega) (by first | exact q_d53ed2728c h95 h40 h46 h45 | omega) (by first | exact q_1ff421e7a2 h95 h102 h40 | omega) (by first | exact q_4ff790945b h102 h41 | omega)
  have := (by decide : (Int32.ofInt 0).toInt = 0)
  have := (by decide : (Int32.ofInt 0).toInt = 0)
  have := (by decide : (Int32.ofInt 0).toInt = 0)
  refine En_lv (lv := [(0, .ref 159), (1, .int a), (2, .int b), (3, .int ((Int32.ofInt 0)))]) ⟨rfl, rfl, rfl, rfl, trivial⟩ ?_
  exact key16 (Int.toNat (81) + 1) σ21 ((Int32.ofInt 0)) ((Int32.ofInt 0)) ((Int32.ofInt 0)) h22 h23 ((h25 _ _ (Or.inl (neTG tgz_160 tgz_159 (by decide)))).trans ((h20 _ _ (Or.inl (neTG tgz_160 tgz_159 (by decide)))).trans ((h13 _ _ (inWa tgz_160 (by decide +kernel))).trans h1))) ((h25 _ _ (Or.inl (neTG tgz_160 tgz_159 (by decide)))).trans ((h20 _ _ (Or.inl (neTG tgz_160 tgz_159 (by decide)))).trans ((h13 _ _ (inWa tgz_160 (by decide +kernel))).trans h5))) ((h25 _ _ (Or.inr (by decide))).trans h19) h24 (by decide) (by decide) (by decide) (by decide) (by (first | exact q_1bb76abeaf | omega)) (by first | exact toN_lt _ | omega)
/-- DoorSchoolModel.errors(II)I -/
abbrev P_222 (σ0 : SG) (a : Int32) (b : Int32) : PO := fun v σ => WT σ ∧ Fr [(35, 18), (35, 21), (35, 22), (35, 23), (42, 0), (43, 0), (44, 0), (45, 0), (46, 0)] σ0 σ ∧ ∃ ret : Int32, v = some (Value.int ret) ∧ True
set_option maxRecDepth 10000 in
set_option maxHeartbeats 4000000 in
theorem c_222 (σ0 : SG) (hσ0 : WT σ0) (a : Int32) (b : Int32) : En 5 115 none mr_222 (P_222 σ0 a b) 0 [(0, .ref 159), (1, .int a), (2, .int b)] [] σ0 := by
  have hF0 : Fr [(35, 18), (35, 21), (35, 22), (35, 23), (42, 0), (43, 0), (44, 0), (45, 0), (46, 0)] σ0 σ0 := Fr_rfl
  refine En_Ps 1 (pc' := 1) (lv' := [(0, .ref 159), (1, .int a), (2, .int b)]) (st' := [.int a]) rfl ?_
  refine En_callS rfl rfl rfl rfl rfl rfl rfl rfl rfl (c_268 σ0 hσ0 a) (by decide) (by decide) (fun v2 σ3 h1 => ?_)
  obtain ⟨h4, h5, z7, rfl, h6⟩ := h1
  have h8 := Fr_trans hF0 h5 (by decide +kernel)
  refine En_iEq _ rfl rfl (fun h9 => ?_) (fun h9 => ?_)
  · refine En_Ps 1 (pc' := 17) (lv' := [(0, .ref 159), (1, .int a), (2, .int b)]) (st' := [.int (((Int8.ofInt (-2)).toInt32))]) rfl ?_
    refine En_top (by decide : ((Int8.ofInt (-2)).toInt32).toInt = -2) (fun z10 h11 => ?_)
    exact En_ret (v := some (Value.int z10)) rfl rfl rfl ⟨h4, h8, z10, rfl, trivial⟩
  · refine En_Ps 2 (pc' := 9) (lv' := [(0, .ref 159), (1, .int a), (2, .int b)]) (st' := [.int b, .ref 159]) rfl ?_
    refine En_callV rfl rfl rfl rfl rfl rfl rfl rfl tgz_159 (by decide +kernel) rfl (c_195 σ3 h4 b) (by decide) (by decide) (fun v13 σ14 h12 => ?_)
    obtain ⟨h15, h16, z18, rfl, h17⟩ := h12
    have h19 := Fr_trans h8 h16 (by decide +kernel)
    refine En_iNe _ rfl rfl (fun h20 => ?_) (fun h20 => ?_)
    · refine En_Ps 3 (pc' := 21) (lv' := [(0, .ref 159), (1, .int a), (2, .int b)]) (st' := [.int b, .int a, .ref 159]) rfl ?_
      refine En_callV rfl rfl rfl rfl rfl rfl rfl rfl tgz_159 (by decide +kernel) rfl (c_321 σ14 h15 a b) (by decide) (by decide) (fun v22 σ23 h21 => ?_)
      obtain ⟨h24, h25, rfl, h26⟩ := h21
      have h27 := Fr_trans h19 h25 (by decide +kernel)
      refine En_Ps 1 (pc' := 25) (lv' := [(0, .ref 159), (1, .int a), (2, .int b)]) (st' := [.ref 159]) rfl ?_
      refine En_getI (j := 22) (l := (-2147483648)) (u := 2147483647) rfl rfl rfl tgz_159 (by decide +kernel) h24 (by decide +kernel) (fun z29 h28 h30 h31 => ?_)
      exact En_ret (v := some (Value.int z29)) rfl rfl rfl ⟨h24, h27, z29, rfl, trivial⟩
    · refine En_Ps 1 (pc' := 17) (lv' := [(0, .ref 159), (1, .int a), (2, .int b)]) (st' := [.int (((Int8.ofInt (-2)).toInt32))]) rfl ?_
      refine En_top (by decide : ((Int8.ofInt (-2)).toInt32).toInt = -2) (fun z32 h33 => ?_)
      exact En_ret (v := some (Value.int z32)) rfl rfl rfl ⟨h15, h19, z32, rfl, trivial⟩
/-- DoorSchoolModel.isExam(I)Z -/
abbrev P_255 (σ0 : SG) (a : Int32) : PO := fun v σ => WT σ ∧ Fr [] σ0 σ ∧ ∃ ret : Int32, v = some (Value.int ret) ∧ -ret.toInt ≤ 0 ∧ ret.toInt - 1 ≤ 0 ∧ (ret.toInt - 1 ≤ 0 ∧ -ret.toInt + 1 ≤ 0 → -a.toInt ≤ 0 ∧ a.toInt - 11 ≤ 0)
set_option maxRecDepth 10000 in
set_option maxHeartbeats 4000000 in
theorem c_255 (σ0 : SG) (hσ0 : WT σ0) (a : Int32) : En 1 25 none mr_255 (P_255 σ0 a) 0 [(0, .ref 159), (1, .int a)] [] σ0 := by
  have hF0 : Fr [] σ0 σ0 := Fr_rfl
  refine En_Ps 4 (pc' := 4) (lv' := [(0, .ref 159), (1, .int a)]) (st' := [.ref 159, .long ((Int64.ofNat 0)), .long a.toInt64]) rfl ?_
  refine En_getU (j := 1) (u := 160) (g' := 36) (q := 0) rfl rfl rfl tgz_159 (by decide +kernel) hσ0 (by decide +kernel) un_36_160 (fun h1 => ?_)
  refine En_Ps 1 (pc' := 8) (lv' := [(0, .ref 159), (1, .int a)]) (st' := [.int ((Int32.ofInt 3)), .ref 160, .long ((Int64.ofNat 0)), .long a.toInt64]) rfl ?_
  refine En_iald (l := 0) (u := 12) rfl (by decide : (Int32.ofInt 3).toInt = 3) tgz_160 (by decide +kernel) hσ0 (by decide) (lnI (by decide +kernel : LN _ = 226) (by decide)) (by decide +kernel) (fun z4 h3 h5 h6 => ?_)
  refine En_Ps 2 (pc' := 11) (lv' := [(0, .ref 159), (1, .int a)]) (st' := [.int ((z4 - ((Int32.ofInt 1)))), .long ((Int64.ofNat 0)), .long a.toInt64]) rfl ?_
  refine En_top (subI rfl (by decide : (Int32.ofInt 1).toInt = 1) (by first | exact q_93f9478bef h5 | omega) (by first | exact q_5f4a85dce3 h6 | omega)) (fun z7 h8 => ?_)
  refine En_Ps 1 (pc' := 12) (lv' := [(0, .ref 159), (1, .int a)]) (st' := [.long z7.toInt64, .long ((Int64.ofNat 0)), .long a.toInt64]) rfl ?_
  have : a.toInt64.toInt = a.toInt := (i2lI rfl)
  have := (by decide : ((Int64.ofNat 0)).toInt = 0)
  have : z7.toInt64.toInt = z7.toInt := (i2lI rfl)
  refine En_callS rfl rfl rfl rfl rfl rfl rfl rfl rfl (c_249 σ0 hσ0 a.toInt64 ((Int64.ofNat 0)) z7.toInt64) (by decide) (by decide) (fun v10 σ11 h9 => ?_)
  obtain ⟨h12, h13, z15, rfl, h14⟩ := h9
  have h16 := Fr_trans hF0 h13 (by decide +kernel)
  exact En_ret (v := some (Value.int z15)) rfl rfl (retZ rfl rfl (by first | exact q_ef1e8e38bf h14.1 | omega) (by first | exact q_733c8bfbae h14.2.1 | omega)) ⟨h12, h16, z15, rfl, ⟨by first | exact q_a555021d16 h14.1 | omega, by first | exact q_ad5b726bf8 h14.2.1 | omega, fun _ => by omega⟩⟩
/-- DoorSchoolModel.exam(II)I -/
abbrev P_224 (σ0 : SG) (a : Int32) (b : Int32) : PO := fun v σ => WT σ ∧ Fr [] σ0 σ ∧ ∃ ret : Int32, v = some (Value.int ret) ∧ -ret.toInt - 2 ≤ 0 ∧ ret.toInt - 15 ≤ 0
set_option maxRecDepth 10000 in
set_option maxHeartbeats 4000000 in
theorem c_224 (σ0 : SG) (hσ0 : WT σ0) (a : Int32) (b : Int32) : En 2 46 none mr_224 (P_224 σ0 a b) 0 [(0, .ref 159), (1, .int a), (2, .int b)] [] σ0 := by
  have hF0 : Fr [] σ0 σ0 := Fr_rfl
  refine En_Ps 2 (pc' := 2) (lv' := [(0, .ref 159), (1, .int a), (2, .int b)]) (st' := [.int a, .ref 159]) rfl ?_
  refine En_callV rfl rfl rfl rfl rfl rfl rfl rfl tgz_159 (by decide +kernel) rfl (c_255 σ0 hσ0 a) (by decide) (by decide) (fun v2 σ3 h1 => ?_)
  obtain ⟨h4, h5, z7, rfl, h6⟩ := h1
  have h8 := Fr_trans hF0 h5 (by decide +kernel)
  refine En_iEq _ rfl rfl (fun h9 => ?_) (fun h9 => ?_)
  · refine En_Ps 1 (pc' := 36) (lv' := [(0, .ref 159), (1, .int a), (2, .int b)]) (st' := [.int (((Int8.ofInt (-2)).toInt32))]) rfl ?_
    refine En_top (by decide : ((Int8.ofInt (-2)).toInt32).toInt = -2) (fun z10 h11 => ?_)
    exact En_ret (v := some (Value.int z10)) rfl rfl rfl ⟨h4, h8, z10, rfl, ⟨by first | exact q_f35c5d346c h11 | omega, by first | exact q_12a74e12a3 h11 | omega⟩⟩
  · refine En_Ps 4 (pc' := 12) (lv' := [(0, .ref 159), (1, .int a), (2, .int b)]) (st' := [.long ((Int64.ofNat 1)), .long ((Int64.ofNat 0)), .long b.toInt64]) rfl ?_
    have : b.toInt64.toInt = b.toInt := (i2lI rfl)
    have := (by decide : ((Int64.ofNat 0)).toInt = 0)
    have := (by decide : ((Int64.ofNat 1)).toInt = 1)
    refine En_callS rfl rfl rfl rfl rfl rfl rfl rfl rfl (c_249 σ3 h4 b.toInt64 ((Int64.ofNat 0)) ((Int64.ofNat 1))) (by decide) (by decide) (fun v13 σ14 h12 => ?_)
    obtain ⟨h15, h16, z18, rfl, h17⟩ := h12
    have h19 := Fr_trans h8 h16 (by decide +kernel)
    refine En_iEq _ rfl rfl (fun h20 => ?_) (fun h20 => ?_)
    · refine En_Ps 1 (pc' := 36) (lv' := [(0, .ref 159), (1, .int a), (2, .int b)]) (st' := [.int (((Int8.ofInt (-2)).toInt32))]) rfl ?_
      refine En_top (by decide : ((Int8.ofInt (-2)).toInt32).toInt = -2) (fun z21 h22 => ?_)
      exact En_ret (v := some (Value.int z21)) rfl rfl rfl ⟨h15, h19, z21, rfl, ⟨by first | exact q_f35c5d346c h22 | omega, by first | exact q_12a74e12a3 h22 | omega⟩⟩
    · refine En_Ps 1 (pc' := 19) (lv' := [(0, .ref 159), (1, .int a), (2, .int b)]) (st' := [.ref 159]) rfl ?_
      refine En_getU (j := 1) (u := 160) (g' := 36) (q := 0) rfl rfl rfl tgz_159 (by decide +kernel) h15 (by decide +kernel) un_36_160 (fun h23 => ?_)
      refine En_Ps 4 (pc' := 27) (lv' := [(0, .ref 159), (1, .int a), (2, .int b)]) (st' := [.int ((((Int32.ofInt 2)) * a)), .int (((Int8.ofInt 122).toInt32)), .ref 160]) rfl ?_
      refine En_top (mulI (by decide : (Int32.ofInt 2).toInt = 2) rfl (Z := 2 * a.toInt) (by first | exact q_9c4c04fc55 | omega) (by (first | exact q_e2007a945f h6.2.2 h6.2.1 h9 h6.1 | omega)) (by (first | exact q_a77a79fe7a h6.2.2 h6.2.1 h9 h6.1 | omega))) (fun z25 h26 => ?_)
      refine En_Ps 1 (pc' := 28) (lv' := [(0, .ref 159), (1, .int a), (2, .int b)]) (st' := [.int (((((Int8.ofInt 122).toInt32)) + z25)), .ref 160]) rfl ?_
      refine En_top (addI (by decide : ((Int8.ofInt 122).toInt32).toInt = 122) rfl (by (first | exact q_2dbc7ee18e h26 h6.2.2 h6.2.1 h9 h6.1 | omega)) (by (first | exact q_7299470a6b h26 h6.2.2 h6.2.1 h9 h6.1 | omega))) (fun z27 h28 => ?_)
      refine En_Ps 2 (pc' := 30) (lv' := [(0, .ref 159), (1, .int a), (2, .int b)]) (st' := [.int ((z27 + b)), .ref 160]) rfl ?_
      refine En_top (addI rfl rfl (by omega) (by omega)) (fun z29 h30 => ?_)
      rcases (show z29.toInt = 122 ∨ z29.toInt = 123 ∨ z29.toInt = 124 ∨ z29.toInt = 125 ∨ z29.toInt = 126 ∨ z29.toInt = 127 ∨ z29.toInt = 128 ∨ z29.toInt = 129 ∨ z29.toInt = 130 ∨ z29.toInt = 131 ∨ z29.toInt = 132 ∨ z29.toInt = 133 ∨ z29.toInt = 134 ∨ z29.toInt = 135 ∨ z29.toInt = 136 ∨ z29.toInt = 137 ∨ z29.toInt = 138 ∨ z29.toInt = 139 ∨ z29.toInt = 140 ∨ z29.toInt = 141 ∨ z29.toInt = 142 ∨ z29.toInt = 143 ∨ z29.toInt = 144 ∨ z29.toInt = 145 by omega) with h31 | h31 | h31 | h31 | h31 | h31 | h31 | h31 | h31 | h31 | h31 | h31 | h31 | h31 | h31 | h31 | h31 | h31 | h31 | h31 | h31 | h31 | h31 | h31
      · refine En_iald (l := 0) (u := 15) rfl h31 tgz_160 (by decide +kernel) h15 (by decide) (lnI (by decide +kernel : LN _ = 226) (by decide)) (by decide +kernel) (fun z33 h32 h34 h35 => ?_)
        refine En_Ps 1 (pc' := 36) (lv' := [(0, .ref 159), (1, .int a), (2, .int b)]) (st' := [.int z33]) rfl ?_
        exact En_ret (v := some (Value.int z33)) rfl rfl rfl ⟨h15, h19, z33, rfl, ⟨by first | exact q_ea7f0ffdb1 h34 | omega, by first | exact q_867a9ac627 h35 | omega⟩⟩
      · refine En_iald (l := 0) (u := 1) rfl h31 tgz_160 (by decide +kernel) h15 (by decide) (lnI (by decide +kernel : LN _ = 226) (by decide)) (by decide +kernel) (fun z37 h36 h38 h39 => ?_)
        refine En_Ps 1 (pc' := 36) (lv' := [(0, .ref 159), (1, .int a), (2, .int b)]) (st' := [.int z37]) rfl ?_
        exact En_ret (v := some (Value.int z37)) rfl rfl rfl ⟨h15, h19, z37, rfl, ⟨by first | exact q_ea7f0ffdb1 h38 | omega, by first | exact q_31525ae3c9 h39 | omega⟩⟩
      · refine En_iald (l := 0) (u := 15) rfl h31 tgz_160 (by decide +kernel) h15 (by decide) (lnI (by decide +kernel : LN _ = 226) (by decide)) (by decide +kernel) (fun z41 h40 h42 h43 => ?_)
        refine En_Ps 1 (pc' := 36) (lv' := [(0, .ref 159), (1, .int a), (2, .int b)]) (st' := [.int z41]) rfl ?_
        exact En_ret (v := some (Value.int z41)) rfl rfl rfl ⟨h15, h19, z41, rfl, ⟨by first | exact q_ea7f0ffdb1 h42 | omega, by first | exact q_867a9ac627 h43 | omega⟩⟩
      · refine En_iald (l := 0) (u := 1) rfl h31 tgz_160 (by decide +kernel) h15 (by decide) (lnI (by decide +kernel : LN _ = 226) (by decide)) (by decide +kernel) (fun z45 h44 h46 h47 => ?_)
        refine En_Ps 1 (pc' := 36) (lv' := [(0, .ref 159), (1, .int a), (2, .int b)]) (st' := [.int z45]) rfl ?_
        exact En_ret (v := some (Value.int z45)) rfl rfl rfl ⟨h15, h19, z45, rfl, ⟨by first | exact q_ea7f0ffdb1 h46 | omega, by first | exact q_31525ae3c9 h47 | omega⟩⟩
      · refine En_iald (l := 0) (u := 15) rfl h31 tgz_160 (by decide +kernel) h15 (by decide) (lnI (by decide +kernel : LN _ = 226) (by decide)) (by decide +kernel) (fun z49 h48 h50 h51 => ?_)
        refine En_Ps 1 (pc' := 36) (lv' := [(0, .ref 159), (1, .int a), (2, .int b)]) (st' := [.int z49]) rfl ?_
        exact En_ret (v := some (Value.int z49)) rfl rfl rfl ⟨h15, h19, z49, rfl, ⟨by first | exact q_ea7f0ffdb1 h50 | omega, by first | exact q_867a9ac627 h51 | omega⟩⟩
      · refine En_iald (l := 0) (u := 1) rfl h31 tgz_160 (by decide +kernel) h15 (by decide) (lnI (by decide +kernel : LN _ = 226) (by decide)) (by decide +kernel) (fun z53 h52 h54 h55 => ?_)
        refine En_Ps 1 (pc' := 36) (lv' := [(0, .ref 159), (1, .int a), (2, .int b)]) (st' := [.int z53]) rfl ?_
        exact En_ret (v := some (Value.int z53)) rfl rfl rfl ⟨h15, h19, z53, rfl, ⟨by first | exact q_ea7f0ffdb1 h54 | omega, by first | exact q_31525ae3c9 h55 | omega⟩⟩
      · refine En_iald (l := 0) (u := 15) rfl h31 tgz_160 (by decide +kernel) h15 (by decide) (lnI (by decide +kernel : LN _ = 226) (by decide)) (by decide +kernel) (fun z57 h56 h58 h59 => ?_)
        refine En_Ps 1 (pc' := 36) (lv' := [(0, .ref 159), (1, .int a), (2, .int b)]) (st' := [.int z57]) rfl ?_
        exact En_ret (v := some (Value.int z57)) rfl rfl rfl ⟨h15, h19, z57, rfl, ⟨by first | exact q_ea7f0ffdb1 h58 | omega, by first | exact q_867a9ac627 h59 | omega⟩⟩
      · refine En_iald (l := 0) (u := 1) rfl h31 tgz_160 (by decide +kernel) h15 (by decide) (lnI (by decide +kernel : LN _ = 226) (by decide)) (by decide +kernel) (fun z61 h60 h62 h63 => ?_)
        refine En_Ps 1 (pc' := 36) (lv' := [(0, .ref 159), (1, .int a), (2, .int b)]) (st' := [.int z61]) rfl ?_
        exact En_ret (v := some (Value.int z61)) rfl rfl rfl ⟨h15, h19, z61, rfl, ⟨by first | exact q_ea7f0ffdb1 h62 | omega, by first | exact q_31525ae3c9 h63 | omega⟩⟩
      · refine En_iald (l := 0) (u := 15) rfl h31 tgz_160 (by decide +kernel) h15 (by decide) (lnI (by decide +kernel : LN _ = 226) (by decide)) (by decide +kernel) (fun z65 h64 h66 h67 => ?_)
        refine En_Ps 1 (pc' := 36) (lv' := [(0, .ref 159), (1, .int a), (2, .int b)]) (st' := [.int z65]) rfl ?_
        exact En_ret (v := some (Value.int z65)) rfl rfl rfl ⟨h15, h19, z65, rfl, ⟨by first | exact q_ea7f0ffdb1 h66 | omega, by first | exact q_867a9ac627 h67 | omega⟩⟩
      · refine En_iald (l := 0) (u := 1) rfl h31 tgz_160 (by decide +kernel) h15 (by decide) (lnI (by decide +kernel : LN _ = 226) (by decide)) (by decide +kernel) (fun z69 h68 h70 h71 => ?_)
        refine En_Ps 1 (pc' := 36) (lv' := [(0, .ref 159), (1, .int a), (2, .int b)]) (st' := [.int z69]) rfl ?_
        exact En_ret (v := some (Value.int z69)) rfl rfl rfl ⟨h15, h19, z69, rfl, ⟨by first | exact q_ea7f0ffdb1 h70 | omega, by first | exact q_31525ae3c9 h71 | omega⟩⟩
      · refine En_iald (l := 0) (u := 15) rfl h31 tgz_160 (by decide +kernel) h15 (by decide) (lnI (by decide +kernel : LN _ = 226) (by decide)) (by decide +kernel) (fun z73 h72 h74 h75 => ?_)
        refine En_Ps 1 (pc' := 36) (lv' := [(0, .ref 159), (1, .int a), (2, .int b)]) (st' := [.int z73]) rfl ?_
        exact En_ret (v := some (Value.int z73)) rfl rfl rfl ⟨h15, h19, z73, rfl, ⟨by first | exact q_ea7f0ffdb1 h74 | omega, by first | exact q_867a9ac627 h75 | omega⟩⟩
      · refine En_iald (l := 0) (u := 1) rfl h31 tgz_160 (by decide +kernel) h15 (by decide) (lnI (by decide +kernel : LN _ = 226) (by decide)) (by decide +kernel) (fun z77 h76 h78 h79 => ?_)
        refine En_Ps 1 (pc' := 36) (lv' := [(0, .ref 159), (1, .int a), (2, .int b)]) (st' := [.int z77]) rfl ?_
        exact En_ret (v := some (Value.int z77)) rfl rfl rfl ⟨h15, h19, z77, rfl, ⟨by first | exact q_ea7f0ffdb1 h78 | omega, by first | exact q_31525ae3c9 h79 | omega⟩⟩
      · refine En_iald (l := 0) (u := 15) rfl h31 tgz_160 (by decide +kernel) h15 (by decide) (lnI (by decide +kernel : LN _ = 226) (by decide)) (by decide +kernel) (fun z81 h80 h82 h83 => ?_)
        refine En_Ps 1 (pc' := 36) (lv' := [(0, .ref 159), (1, .int a), (2, .int b)]) (st' := [.int z81]) rfl ?_
        exact En_ret (v := some (Value.int z81)) rfl rfl rfl ⟨h15, h19, z81, rfl, ⟨by first | exact q_ea7f0ffdb1 h82 | omega, by first | exact q_867a9ac627 h83 | omega⟩⟩
      · refine En_iald (l := 0) (u := 1) rfl h31 tgz_160 (by decide +kernel) h15 (by decide) (lnI (by decide +kernel : LN _ = 226) (by decide)) (by decide +kernel) (fun z85 h84 h86 h87 => ?_)
        refine En_Ps 1 (pc' := 36) (lv' := [(0, .ref 159), (1, .int a), (2, .int b)]) (st' := [.int z85]) rfl ?_
        exact En_ret (v := some (Value.int z85)) rfl rfl rfl ⟨h15, h19, z85, rfl, ⟨by first | exact q_ea7f0ffdb1 h86 | omega, by first | exact q_31525ae3c9 h87 | omega⟩⟩
      · refine En_iald (l := 0) (u := 15) rfl h31 tgz_160 (by decide +kernel) h15 (by decide) (lnI (by decide +kernel : LN _ = 226) (by decide)) (by decide +kernel) (fun z89 h88 h90 h91 => ?_)
        refine En_Ps 1 (pc' := 36) (lv' := [(0, .ref 159), (1, .int a), (2, .int b)]) (st' := [.int z89]) rfl ?_
        exact En_ret (v := some (Value.int z89)) rfl rfl rfl ⟨h15, h19, z89, rfl, ⟨by first | exact q_ea7f0ffdb1 h90 | omega, by first | exact q_867a9ac627 h91 | omega⟩⟩
      · refine En_iald (l := 0) (u := 1) rfl h31 tgz_160 (by decide +kernel) h15 (by decide) (lnI (by decide +kernel : LN _ = 226) (by decide)) (by decide +kernel) (fun z93 h92 h94 h95 => ?_)
        refine En_Ps 1 (pc' := 36) (lv' := [(0, .ref 159), (1, .int a), (2, .int b)]) (st' := [.int z93]) rfl ?_
        exact En_ret (v := some (Value.int z93)) rfl rfl rfl ⟨h15, h19, z93, rfl, ⟨by first | exact q_ea7f0ffdb1 h94 | omega, by first | exact q_31525ae3c9 h95 | omega⟩⟩
      · refine En_iald (l := 0) (u := 15) rfl h31 tgz_160 (by decide +kernel) h15 (by decide) (lnI (by decide +kernel : LN _ = 226) (by decide)) (by decide +kernel) (fun z97 h96 h98 h99 => ?_)
        refine En_Ps 1 (pc' := 36) (lv' := [(0, .ref 159), (1, .int a), (2, .int b)]) (st' := [.int z97]) rfl ?_
        exact En_ret (v := some (Value.int z97)) rfl rfl rfl ⟨h15, h19, z97, rfl, ⟨by first | exact q_ea7f0ffdb1 h98 | omega, by first | exact q_867a9ac627 h99 | omega⟩⟩
      · refine En_iald (l := 0) (u := 1) rfl h31 tgz_160 (by decide +kernel) h15 (by decide) (lnI (by decide +kernel : LN _ = 226) (by decide)) (by decide +kernel) (fun z101 h100 h102 h103 => ?_)
        refine En_Ps 1 (pc' := 36) (lv' := [(0, .ref 159), (1, .int a), (2, .int b)]) (st' := [.int z101]) rfl ?_
        exact En_ret (v := some (Value.int z101)) rfl rfl rfl ⟨h15, h19, z101, rfl, ⟨by first | exact q_ea7f0ffdb1 h102 | omega, by first | exact q_31525ae3c9 h103 | omega⟩⟩
      · refine En_iald (l := 0) (u := 15) rfl h31 tgz_160 (by decide +kernel) h15 (by decide) (lnI (by decide +kernel : LN _ = 226) (by decide)) (by decide +kernel) (fun z105 h104 h106 h107 => ?_)
        refine En_Ps 1 (pc' := 36) (lv' := [(0, .ref 159), (1, .int a), (2, .int b)]) (st' := [.int z105]) rfl ?_
        exact En_ret (v := some (Value.int z105)) rfl rfl rfl ⟨h15, h19, z105, rfl, ⟨by first | exact q_ea7f0ffdb1 h106 | omega, by first | exact q_867a9ac627 h107 | omega⟩⟩
      · refine En_iald (l := 0) (u := 1) rfl h31 tgz_160 (by decide +kernel) h15 (by decide) (lnI (by decide +kernel : LN _ = 226) (by decide)) (by decide +kernel) (fun z109 h108 h110 h111 => ?_)
        refine En_Ps 1 (pc' := 36) (lv' := [(0, .ref 159), (1, .int a), (2, .int b)]) (st' := [.int z109]) rfl ?_
        exact En_ret (v := some (Value.int z109)) rfl rfl rfl ⟨h15, h19, z109, rfl, ⟨by first | exact q_ea7f0ffdb1 h110 | omega, by first | exact q_31525ae3c9 h111 | omega⟩⟩
      · refine En_iald (l := 0) (u := 15) rfl h31 tgz_160 (by decide +kernel) h15 (by decide) (lnI (by decide +kernel : LN _ = 226) (by decide)) (by decide +kernel) (fun z113 h112 h114 h115 => ?_)
        refine En_Ps 1 (pc' := 36) (lv' := [(0, .ref 159), (1, .int a), (2, .int b)]) (st' := [.int z113]) rfl ?_
        exact En_ret (v := some (Value.int z113)) rfl rfl rfl ⟨h15, h19, z113, rfl, ⟨by first | exact q_ea7f0ffdb1 h114 | omega, by first | exact q_867a9ac627 h115 | omega⟩⟩
      · refine En_iald (l := 0) (u := 1) rfl h31 tgz_160 (by decide +kernel) h15 (by decide) (lnI (by decide +kernel : LN _ = 226) (by decide)) (by decide +kernel) (fun z117 h116 h118 h119 => ?_)
        refine En_Ps 1 (pc' := 36) (lv' := [(0, .ref 159), (1, .int a), (2, .int b)]) (st' := [.int z117]) rfl ?_
        exact En_ret (v := some (Value.int z117)) rfl rfl rfl ⟨h15, h19, z117, rfl, ⟨by first | exact q_ea7f0ffdb1 h118 | omega, by first | exact q_31525ae3c9 h119 | omega⟩⟩
      · refine En_iald (l := 0) (u := 15) rfl h31 tgz_160 (by decide +kernel) h15 (by decide) (lnI (by decide +kernel : LN _ = 226) (by decide)) (by decide +kernel) (fun z121 h120 h122 h123 => ?_)
        refine En_Ps 1 (pc' := 36) (lv' := [(0, .ref 159), (1, .int a), (2, .int b)]) (st' := [.int z121]) rfl ?_
        exact En_ret (v := some (Value.int z121)) rfl rfl rfl ⟨h15, h19, z121, rfl, ⟨by first | exact q_ea7f0ffdb1 h122 | omega, by first | exact q_867a9ac627 h123 | omega⟩⟩
      · refine En_iald (l := 0) (u := 1) rfl h31 tgz_160 (by decide +kernel) h15 (by decide) (lnI (by decide +kernel : LN _ = 226) (by decide)) (by decide +kernel) (fun z125 h124 h126 h127 => ?_)
        refine En_Ps 1 (pc' := 36) (lv' := [(0, .ref 159), (1, .int a), (2, .int b)]) (st' := [.int z125]) rfl ?_
        exact En_ret (v := some (Value.int z125)) rfl rfl rfl ⟨h15, h19, z125, rfl, ⟨by first | exact q_ea7f0ffdb1 h126 | omega, by first | exact q_31525ae3c9 h127 | omega⟩⟩
end
/-! 32.ly.m11 -/
section
/-- DoorSchoolModel.fewest(II)I -/
abbrev P_227 (σ0 : SG) (a : Int32) (b : Int32) : PO := fun v σ => WT σ ∧ Fr [(35, 18), (35, 21), (42, 0), (43, 0), (44, 0), (45, 0), (46, 0)] σ0 σ ∧ ∃ ret : Int32, v = some (Value.int ret) ∧ True
set_option maxRecDepth 10000 in
set_option maxHeartbeats 4000000 in
theorem c_227 (σ0 : SG) (hσ0 : WT σ0) (a : Int32) (b : Int32) : En 6 139 none mr_227 (P_227 σ0 a b) 0 [(0, .ref 159), (1, .int a), (2, .int b)] [] σ0 := by
  have hF0 : Fr [(35, 18), (35, 21), (42, 0), (43, 0), (44, 0), (45, 0), (46, 0)] σ0 σ0 := Fr_rfl
  refine En_Ps 1 (pc' := 1) (lv' := [(0, .ref 159), (1, .int a), (2, .int b)]) (st' := [.int a]) rfl ?_
  refine En_callS rfl rfl rfl rfl rfl rfl rfl rfl rfl (c_268 σ0 hσ0 a) (by decide) (by decide) (fun v2 σ3 h1 => ?_)
  obtain ⟨h4, h5, z7, rfl, h6⟩ := h1
  have h8 := Fr_trans hF0 h5 (by decide +kernel)
  refine En_iEq _ rfl rfl (fun h9 => ?_) (fun h9 => ?_)
  · refine En_Ps 1 (pc' := 17) (lv' := [(0, .ref 159), (1, .int a), (2, .int b)]) (st' := [.int (((Int8.ofInt (-2)).toInt32))]) rfl ?_
    refine En_top (by decide : ((Int8.ofInt (-2)).toInt32).toInt = -2) (fun z10 h11 => ?_)
    exact En_ret (v := some (Value.int z10)) rfl rfl rfl ⟨h4, h8, z10, rfl, trivial⟩
  · refine En_Ps 2 (pc' := 9) (lv' := [(0, .ref 159), (1, .int a), (2, .int b)]) (st' := [.int b, .ref 159]) rfl ?_
    refine En_callV rfl rfl rfl rfl rfl rfl rfl rfl tgz_159 (by decide +kernel) rfl (c_195 σ3 h4 b) (by decide) (by decide) (fun v13 σ14 h12 => ?_)
    obtain ⟨h15, h16, z18, rfl, h17⟩ := h12
    have h19 := Fr_trans h8 h16 (by decide +kernel)
    refine En_iNe _ rfl rfl (fun h20 => ?_) (fun h20 => ?_)
    · refine En_Ps 3 (pc' := 21) (lv' := [(0, .ref 159), (1, .int a), (2, .int b)]) (st' := [.int b, .int a, .ref 159]) rfl ?_
      refine En_callV rfl rfl rfl rfl rfl rfl rfl rfl tgz_159 (by decide +kernel) rfl (c_228 σ14 h15 a b) (by decide) (by decide) (fun v22 σ23 h21 => ?_)
      obtain ⟨h24, h25, z27, rfl, h26⟩ := h21
      have h28 := Fr_trans h19 h25 (by decide +kernel)
      refine En_Ps 3 (pc' := 27) (lv' := [(3, .int z27), (0, .ref 159), (1, .int a), (2, .int b)]) (st' := [.int ((Int32.ofInt (-1))), .int z27]) rfl ?_
      refine En_icNe _ rfl (by decide : (Int32.ofInt (-1)).toInt = -1) rfl (fun h29 => ?_) (fun h29 => ?_)
      · refine En_Ps 1 (pc' := 35) (lv' := [(3, .int z27), (0, .ref 159), (1, .int a), (2, .int b)]) (st' := [.int z27]) rfl ?_
        refine En_callS rfl rfl rfl rfl rfl rfl rfl rfl rfl (c_203b σ23 h24 z27) (by decide) (by decide) (fun v31 σ32 h30 => ?_)
        obtain ⟨h33, h34, z36, rfl, h35⟩ := h30
        have h37 := Fr_trans h28 h34 (by decide +kernel)
        exact En_ret (v := some (Value.int z36)) rfl rfl rfl ⟨h33, h37, z36, rfl, trivial⟩
      · refine En_Ps 2 (pc' := 38) (lv' := [(3, .int z27), (0, .ref 159), (1, .int a), (2, .int b)]) (st' := [.int ((Int32.ofInt (-1)))]) rfl ?_
        refine En_top (by decide : (Int32.ofInt (-1)).toInt = -1) (fun z38 h39 => ?_)
        exact En_ret (v := some (Value.int z38)) rfl rfl rfl ⟨h24, h28, z38, rfl, trivial⟩
    · refine En_Ps 1 (pc' := 17) (lv' := [(0, .ref 159), (1, .int a), (2, .int b)]) (st' := [.int (((Int8.ofInt (-2)).toInt32))]) rfl ?_
      refine En_top (by decide : ((Int8.ofInt (-2)).toInt32).toInt = -2) (fun z40 h41 => ?_)
      exact En_ret (v := some (Value.int z40)) rfl rfl rfl ⟨h15, h19, z40, rfl, trivial⟩
/-- DoorSchoolModel.fits(I)I -/
abbrev P_230 (σ0 : SG) (a : Int32) : PO := fun v σ => WT σ ∧ Fr [(35, 18), (42, 0), (43, 0), (44, 0)] σ0 σ ∧ ∃ ret : Int32, v = some (Value.int ret) ∧ -ret.toInt - 6 ≤ 0 ∧ ret.toInt - 81 ≤ 0
set_option maxRecDepth 10000 in
set_option maxHeartbeats 4000000 in
theorem c_230 (σ0 : SG) (hσ0 : WT σ0) (a : Int32) : En 5 110 none mr_230 (P_230 σ0 a) 0 [(0, .ref 159), (1, .int a)] [] σ0 := by
  have hF0 : Fr [(35, 18), (42, 0), (43, 0), (44, 0)] σ0 σ0 := Fr_rfl
  refine En_Ps 3 (pc' := 3) (lv' := [(0, .ref 159), (1, .int a)]) (st' := [.int ((Int32.ofInt 1)), .int a, .ref 159]) rfl ?_
  have := (by decide : ((Int32.ofInt 1)).toInt = 1)
  refine En_callV rfl rfl rfl rfl rfl rfl rfl rfl tgz_159 (by decide +kernel) rfl (c_198 σ0 hσ0 a ((Int32.ofInt 1)) (geI (by decide : (Int32.ofInt 1).toInt = 1) (by decide)) (leI (by decide : (Int32.ofInt 1).toInt = 1) (by decide))) (by decide) (by decide) (fun v2 σ3 h1 => ?_)
  obtain ⟨h4, h5, z7, rfl, h6⟩ := h1
  have h8 := Fr_trans hF0 h5 (by decide +kernel)
  refine En_Ps 2 (pc' := 8) (lv' := [(2, .int z7), (0, .ref 159), (1, .int a)]) (st' := [.int z7]) rfl ?_
  refine En_iGe _ rfl rfl (fun h9 => ?_) (fun h9 => ?_)
  · refine En_Ps 2 (pc' := 17) (lv' := [(2, .int z7), (0, .ref 159), (1, .int a)]) (st' := [.int a, .ref 159]) rfl ?_
    refine En_callV rfl rfl rfl rfl rfl rfl rfl rfl tgz_159 (by decide +kernel) rfl (c_231 σ3 h4 a (geI rfl (by (first | exact q_b875be19a0 h6.2.2 h9 | omega))) (leI rfl (by (first | exact q_91631f135a h6.2.2 h9 | omega)))) (by decide) (by decide) (fun v11 σ12 h10 => ?_)
    obtain ⟨h13, h14, z16, rfl, h15⟩ := h10
    have h17 := Fr_trans h8 h14 (by decide +kernel)
    exact En_ret (v := some (Value.int z16)) rfl rfl rfl ⟨h13, h17, z16, rfl, ⟨by first | exact q_8061444f0d h15.1 | omega, by first | exact q_62172f5eca h15.2 | omega⟩⟩
  · refine En_Ps 2 (pc' := 20) (lv' := [(2, .int z7), (0, .ref 159), (1, .int a)]) (st' := [.int z7]) rfl ?_
    exact En_ret (v := some (Value.int z7)) rfl rfl rfl ⟨h4, h8, z7, rfl, ⟨by first | exact q_629d629181 h6.1 | omega, by first | exact q_5b73750df0 h9 | omega⟩⟩
/-- DoorSchoolModel.ownDeeds()I -/
abbrev P_295 (σ0 : SG) : PO := fun v σ => WT σ ∧ Fr [] σ0 σ ∧ ∃ ret : Int32, v = some (Value.int ret) ∧ -ret.toInt ≤ 0 ∧ ret.toInt - 65535 ≤ 0
set_option maxRecDepth 10000 in
set_option maxHeartbeats 4000000 in
theorem c_295 (σ0 : SG) (hσ0 : WT σ0) : En 3 64 none mr_295 (P_295 σ0) 0 [(0, .ref 159)] [] σ0 := by
  have hF0 : Fr [] σ0 σ0 := Fr_rfl
  refine En_Ps 2 (pc' := 2) (lv' := [(0, .ref 159)]) (st' := [.ref 159, .ref 159]) rfl ?_
  refine En_getU (j := 1) (u := 160) (g' := 36) (q := 0) rfl rfl rfl tgz_159 (by decide +kernel) hσ0 (by decide +kernel) un_36_160 (fun h1 => ?_)
  refine En_Ps 1 (pc' := 7) (lv' := [(0, .ref 159)]) (st' := [.int (((Int8.ofInt 8).toInt32)), .ref 160, .ref 159]) rfl ?_
  refine En_iald (l := 0) (u := 15) rfl (by decide : ((Int8.ofInt 8).toInt32).toInt = 8) tgz_160 (by decide +kernel) hσ0 (by decide) (lnI (by decide +kernel : LN _ = 226) (by decide)) (by decide +kernel) (fun z4 h3 h5 h6 => ?_)
  refine En_Ps 1 (pc' := 9) (lv' := [(0, .ref 159)]) (st' := [.ref 159, .int z4, .ref 159]) rfl ?_
  refine En_getK (j := 1) h1 rfl rfl rfl tgz_159 (by decide +kernel) ?_
  refine En_Ps 1 (pc' := 14) (lv' := [(0, .ref 159)]) (st' := [.int (((Int8.ofInt 9).toInt32)), .ref 160, .int z4, .ref 159]) rfl ?_
  refine En_iald (l := 0) (u := 15) rfl (by decide : ((Int8.ofInt 9).toInt32).toInt = 9) tgz_160 (by decide +kernel) hσ0 (by decide) (lnI (by decide +kernel : LN _ = 226) (by decide)) (by decide +kernel) (fun z8 h7 h9 h10 => ?_)
  refine En_callV rfl rfl rfl rfl rfl rfl rfl rfl tgz_159 (by decide +kernel) rfl (c_212 σ0 hσ0 z4 z8) (by decide) (by decide) (fun v12 σ13 h11 => ?_)
  obtain ⟨h14, h15, z17, rfl, h16⟩ := h11
  have h18 := Fr_trans hF0 h15 (by decide +kernel)
  exact En_ret (v := some (Value.int z17)) rfl rfl rfl ⟨h14, h18, z17, rfl, ⟨by first | exact q_a555021d16 h16.1 | omega, by first | exact q_ef123ba13c h16.2 | omega⟩⟩
/-- DoorSchoolModel.fooled(II)I -/
abbrev P_232 (σ0 : SG) (a : Int32) (b : Int32) : PO := fun v σ => WT σ ∧ Fr [(35, 18), (35, 21), (42, 0), (43, 0), (44, 0), (45, 0), (46, 0)] σ0 σ ∧ ∃ ret : Int32, v = some (Value.int ret) ∧ True
set_option maxRecDepth 10000 in
set_option maxHeartbeats 4000000 in
theorem c_232 (σ0 : SG) (hσ0 : WT σ0) (a : Int32) (b : Int32) : En 5 112 none mr_232 (P_232 σ0 a b) 0 [(0, .ref 159), (1, .int a), (2, .int b)] [] σ0 := by
  have hF0 : Fr [(35, 18), (35, 21), (42, 0), (43, 0), (44, 0), (45, 0), (46, 0)] σ0 σ0 := Fr_rfl
  refine En_Ps 2 (pc' := 2) (lv' := [(0, .ref 159), (1, .int a), (2, .int b)]) (st' := [.int a, .ref 159]) rfl ?_
  obtain ⟨z2, h1, h3, h4⟩ := WT_peekI hσ0 tgz_160 (by decide +kernel : FT 36 (2 : Int).toNat = (0, 0, 4)) (by decide +kernel)
  refine En_callV rfl rfl rfl rfl rfl rfl rfl rfl tgz_159 (by decide +kernel) rfl (c_254 σ0 hσ0 a z2 h1) (by decide) (by decide) (fun v6 σ7 h5 => ?_)
  obtain ⟨h8, h9, z11, rfl, h10⟩ := h5
  have h12 := Fr_trans hF0 h9 (by decide +kernel)
  refine En_iEq _ rfl rfl (fun h13 => ?_) (fun h13 => ?_)
  · refine En_Ps 1 (pc' := 20) (lv' := [(0, .ref 159), (1, .int a), (2, .int b)]) (st' := [.int (((Int8.ofInt (-2)).toInt32))]) rfl ?_
    refine En_top (by decide : ((Int8.ofInt (-2)).toInt32).toInt = -2) (fun z14 h15 => ?_)
    exact En_ret (v := some (Value.int z14)) rfl rfl rfl ⟨h8, h12, z14, rfl, trivial⟩
  · refine En_Ps 4 (pc' := 12) (lv' := [(0, .ref 159), (1, .int a), (2, .int b)]) (st' := [.long ((Int64.ofNat 1)), .long ((Int64.ofNat 0)), .long b.toInt64]) rfl ?_
    have : b.toInt64.toInt = b.toInt := (i2lI rfl)
    have := (by decide : ((Int64.ofNat 0)).toInt = 0)
    have := (by decide : ((Int64.ofNat 1)).toInt = 1)
    refine En_callS rfl rfl rfl rfl rfl rfl rfl rfl rfl (c_249 σ7 h8 b.toInt64 ((Int64.ofNat 0)) ((Int64.ofNat 1))) (by decide) (by decide) (fun v17 σ18 h16 => ?_)
    obtain ⟨h19, h20, z22, rfl, h21⟩ := h16
    have h23 := Fr_trans h12 h20 (by decide +kernel)
    refine En_iNe _ rfl rfl (fun h24 => ?_) (fun h24 => ?_)
    · refine En_Ps 2 (pc' := 23) (lv' := [(0, .ref 159), (1, .int a), (2, .int b)]) (st' := [.int a, .ref 159]) rfl ?_
      refine En_callV rfl rfl rfl rfl rfl rfl rfl rfl tgz_159 (by decide +kernel) rfl (c_213 σ18 h19 a (geI rfl (by (first | exact q_bf8258001b h10.2.2.1 h13 h10.1 | omega))) (leI rfl (by (first | exact q_88b0c3c731 h10.2.2.1 h13 h10.1 h4 | omega)))) (by decide) (by decide) (fun v26 σ27 h25 => ?_)
      obtain ⟨h28, h29, z31, h32, z33, rfl, h30⟩ := h25
      have h34 := Fr_trans h23 h29 (by decide +kernel)
      refine En_Ps 2 (pc' := 28) (lv' := [(3, .int z33), (0, .ref 159), (1, .int a), (2, .int b)]) (st' := [.int b]) rfl ?_
      refine En_iNe _ rfl rfl (fun h35 => ?_) (fun h35 => ?_)
      · refine En_Ps 1 (pc' := 43) (lv' := [(3, .int z33), (0, .ref 159), (1, .int a), (2, .int b)]) (st' := [.ref 159]) rfl ?_
        refine En_callV rfl rfl rfl rfl rfl rfl rfl rfl tgz_159 (by decide +kernel) rfl (c_295 σ27 h28) (by decide) (by decide) (fun v37 σ38 h36 => ?_)
        obtain ⟨h39, h40, z42, rfl, h41⟩ := h36
        have h43 := Fr_trans h34 h40 (by decide +kernel)
        refine En_Ps 3 (pc' := 49) (lv' := [(3, .int z33), (0, .ref 159), (1, .int a), (2, .int b)]) (st' := [.int ((z33 ^^^ ((Int32.ofInt (-1))))), .int z42]) rfl ?_
        refine En_nam (fun z44 h45 => ?_)
        refine En_Ps 1 (pc' := 50) (lv' := [(3, .int z33), (0, .ref 159), (1, .int a), (2, .int b)]) (st' := [.int ((z42 &&& z44))]) rfl ?_
        refine En_nam (fun z46 h47 => ?_)
        obtain ⟨h48, h49⟩ := andn_rng h47 rfl (by (first | exact q_ef1e8e38bf h41.1 | omega)) (by (first | exact q_62355f097f h41.2 | omega) : _ ≤ (65535 : Int))
        exact En_ret (v := some (Value.int z46)) rfl rfl rfl ⟨h39, h43, z46, rfl, trivial⟩
      · refine En_Ps 2 (pc' := 33) (lv' := [(3, .int z33), (0, .ref 159), (1, .int a), (2, .int b)]) (st' := [.ref 159, .int z33]) rfl ?_
        refine En_callV rfl rfl rfl rfl rfl rfl rfl rfl tgz_159 (by decide +kernel) rfl (c_295 σ27 h28) (by decide) (by decide) (fun v51 σ52 h50 => ?_)
        obtain ⟨h53, h54, z56, rfl, h55⟩ := h50
        have h57 := Fr_trans h34 h54 (by decide +kernel)
        refine En_Ps 2 (pc' := 38) (lv' := [(3, .int z33), (0, .ref 159), (1, .int a), (2, .int b)]) (st' := [.int ((z56 ^^^ ((Int32.ofInt (-1))))), .int z33]) rfl ?_
        refine En_nam (fun z58 h59 => ?_)
        refine En_Ps 1 (pc' := 39) (lv' := [(3, .int z33), (0, .ref 159), (1, .int a), (2, .int b)]) (st' := [.int ((z33 &&& z58))]) rfl ?_
        refine En_nam (fun z60 h61 => ?_)
        refine En_Ps 1 (pc' := 50) (lv' := [(3, .int z33), (0, .ref 159), (1, .int a), (2, .int b)]) (st' := [.int z60]) rfl ?_
        exact En_ret (v := some (Value.int z60)) rfl rfl rfl ⟨h53, h57, z60, rfl, trivial⟩
    · refine En_Ps 1 (pc' := 20) (lv' := [(0, .ref 159), (1, .int a), (2, .int b)]) (st' := [.int (((Int8.ofInt (-2)).toInt32))]) rfl ?_
      refine En_top (by decide : ((Int8.ofInt (-2)).toInt32).toInt = -2) (fun z62 h63 => ?_)
      exact En_ret (v := some (Value.int z62)) rfl rfl rfl ⟨h19, h23, z62, rfl, trivial⟩
/-- DoorSchoolModel.fooledBy(I)I -/
abbrev P_233 (σ0 : SG) (a : Int32) : PO := fun v σ => WT σ ∧ Fr [] σ0 σ ∧ ∃ ret : Int32, v = some (Value.int ret) ∧ True
set_option maxRecDepth 10000 in
set_option maxHeartbeats 4000000 in
theorem c_233 (σ0 : SG) (hσ0 : WT σ0) (a : Int32) : En 4 84 none mr_233 (P_233 σ0 a) 0 [(0, .ref 159), (1, .int a)] [] σ0 := by
  have hF0 : Fr [] σ0 σ0 := Fr_rfl
  refine En_Ps 2 (pc' := 2) (lv' := [(0, .ref 159), (1, .int a)]) (st' := [.ref 159, .int a]) rfl ?_
  refine En_callV rfl rfl rfl rfl rfl rfl rfl rfl tgz_159 (by decide +kernel) rfl (c_295 σ0 hσ0) (by decide) (by decide) (fun v2 σ3 h1 => ?_)
  obtain ⟨h4, h5, z7, rfl, h6⟩ := h1
  have h8 := Fr_trans hF0 h5 (by decide +kernel)
  refine En_Ps 2 (pc' := 7) (lv' := [(0, .ref 159), (1, .int a)]) (st' := [.int ((z7 ^^^ ((Int32.ofInt (-1))))), .int a]) rfl ?_
  refine En_nam (fun z9 h10 => ?_)
  refine En_Ps 1 (pc' := 8) (lv' := [(0, .ref 159), (1, .int a)]) (st' := [.int ((a &&& z9))]) rfl ?_
  refine En_nam (fun z11 h12 => ?_)
  refine En_callS rfl rfl rfl rfl rfl rfl rfl rfl rfl (c_203b σ3 h4 z11) (by decide) (by decide) (fun v14 σ15 h13 => ?_)
  obtain ⟨h16, h17, z19, rfl, h18⟩ := h13
  have h20 := Fr_trans h8 h17 (by decide +kernel)
  exact En_ret (v := some (Value.int z19)) rfl rfl rfl ⟨h16, h20, z19, rfl, trivial⟩
/-- DoorSchoolModel.gains(III)I -/
abbrev P_235 (σ0 : SG) (a : Int32) (b : Int32) (c : Int32) : PO := fun v σ => WT σ ∧ Fr [(35, 18), (35, 21), (42, 0), (43, 0), (44, 0), (45, 0), (46, 0)] σ0 σ ∧ ∃ ret : Int32, v = some (Value.int ret) ∧ -ret.toInt - 1000 ≤ 0 ∧ ret.toInt - 13 ≤ 0
set_option maxRecDepth 10000 in
set_option maxHeartbeats 4000000 in
theorem c_235 (σ0 : SG) (hσ0 : WT σ0) (a : Int32) (b : Int32) (c : Int32) : En 6 136 none mr_235 (P_235 σ0 a b c) 0 [(0, .ref 159), (1, .int a), (2, .int b), (3, .int c)] [] σ0 := by
  have hF0 : Fr [(35, 18), (35, 21), (42, 0), (43, 0), (44, 0), (45, 0), (46, 0)] σ0 σ0 := Fr_rfl
  refine En_Ps 2 (pc' := 2) (lv' := [(0, .ref 159), (1, .int a), (2, .int b), (3, .int c)]) (st' := [.int a, .ref 159]) rfl ?_
  obtain ⟨z2, h1, h3, h4⟩ := WT_peekI hσ0 tgz_160 (by decide +kernel : FT 36 (2 : Int).toNat = (0, 0, 4)) (by decide +kernel)
  refine En_callV rfl rfl rfl rfl rfl rfl rfl rfl tgz_159 (by decide +kernel) rfl (c_254 σ0 hσ0 a z2 h1) (by decide) (by decide) (fun v6 σ7 h5 => ?_)
  obtain ⟨h8, h9, z11, rfl, h10⟩ := h5
  have h12 := Fr_trans hF0 h9 (by decide +kernel)
  refine En_iEq _ rfl rfl (fun h13 => ?_) (fun h13 => ?_)
  · refine En_Ps 1 (pc' := 30) (lv' := [(0, .ref 159), (1, .int a), (2, .int b), (3, .int c)]) (st' := [.int (((Int16.ofInt (-1000)).toInt32))]) rfl ?_
    refine En_top (by decide : ((Int16.ofInt (-1000)).toInt32).toInt = -1000) (fun z14 h15 => ?_)
    exact En_ret (v := some (Value.int z14)) rfl rfl rfl ⟨h8, h12, z14, rfl, ⟨by first | exact q_44e84994b9 h15 | omega, by first | exact q_2026640327 h15 | omega⟩⟩
  · refine En_Ps 3 (pc' := 11) (lv' := [(0, .ref 159), (1, .int a), (2, .int b), (3, .int c)]) (st' := [.long b.toInt64, .ref 159]) rfl ?_
    have : b.toInt64.toInt = b.toInt := (i2lI rfl)
    refine En_callV rfl rfl rfl rfl rfl rfl rfl rfl tgz_159 (by decide +kernel) rfl (c_259 σ7 h8 b.toInt64) (by decide) (by decide) (fun v17 σ18 h16 => ?_)
    obtain ⟨h19, h20, z22, rfl, h21⟩ := h16
    have h23 := Fr_trans h12 h20 (by decide +kernel)
    refine En_iEq _ rfl rfl (fun h24 => ?_) (fun h24 => ?_)
    · refine En_Ps 1 (pc' := 30) (lv' := [(0, .ref 159), (1, .int a), (2, .int b), (3, .int c)]) (st' := [.int (((Int16.ofInt (-1000)).toInt32))]) rfl ?_
      refine En_top (by decide : ((Int16.ofInt (-1000)).toInt32).toInt = -1000) (fun z25 h26 => ?_)
      exact En_ret (v := some (Value.int z25)) rfl rfl rfl ⟨h19, h23, z25, rfl, ⟨by first | exact q_44e84994b9 h26 | omega, by first | exact q_2026640327 h26 | omega⟩⟩
    · refine En_Ps 4 (pc' := 21) (lv' := [(0, .ref 159), (1, .int a), (2, .int b), (3, .int c)]) (st' := [.long ((Int64.ofNat 1)), .long ((Int64.ofNat 0)), .long c.toInt64]) rfl ?_
      have : c.toInt64.toInt = c.toInt := (i2lI rfl)
      have := (by decide : ((Int64.ofNat 0)).toInt = 0)
      have := (by decide : ((Int64.ofNat 1)).toInt = 1)
      refine En_callS rfl rfl rfl rfl rfl rfl rfl rfl rfl (c_249 σ18 h19 c.toInt64 ((Int64.ofNat 0)) ((Int64.ofNat 1))) (by decide) (by decide) (fun v28 σ29 h27 => ?_)
      obtain ⟨h30, h31, z33, rfl, h32⟩ := h27
      have h34 := Fr_trans h23 h31 (by decide +kernel)
      refine En_iNe _ rfl rfl (fun h35 => ?_) (fun h35 => ?_)
      · refine En_Ps 5 (pc' := 36) (lv' := [(0, .ref 159), (1, .int a), (2, .int b), (3, .int c)]) (st' := [.int c, .int b, .int a, .ref 159, .ref 159]) rfl ?_
        refine En_callV rfl rfl rfl rfl rfl rfl rfl rfl tgz_159 (by decide +kernel) rfl (c_214 σ29 h30 a b c (geI rfl (by (first | exact q_bf8258001b h10.2.2.1 h13 h10.1 | omega))) (leI rfl (by (first | exact q_88b0c3c731 h10.2.2.1 h13 h10.1 h4 | omega))) (geI rfl (by (first | exact q_456bfc6cc0 h21.2.2 h24 h21.1 (i2lI rfl) | omega))) (leI rfl (by (first | exact q_ff80988181 h21.2.2 h24 h21.1 (i2lI rfl) | omega))) (geI rfl (by (first | exact q_bf5288a390 (i2lI rfl) h32.2.2.1 h35 h32.1 (by decide) | omega))) (leI rfl (by (first | exact q_9535a3cdd5 (i2lI rfl) h32.2.2.1 h35 h32.1 this | omega)))) (by decide) (by decide) (fun v37 σ38 h36 => ?_)
        obtain ⟨h39, h40, z42, rfl, h41⟩ := h36
        have h43 := Fr_trans h34 h40 (by decide +kernel)
        refine En_callV rfl rfl rfl rfl rfl rfl rfl rfl tgz_159 (by decide +kernel) rfl (c_283 σ38 h39 z42) (by decide) (by decide) (fun v45 σ46 h44 => ?_)
        obtain ⟨h47, h48, z50, rfl, h49⟩ := h44
        have h51 := Fr_trans h43 h48 (by decide +kernel)
        refine En_Ps 3 (pc' := 45) (lv' := [(0, .ref 159), (1, .int a), (2, .int b), (3, .int c)]) (st' := [.int a, .ref 159, .ref 159, .int z50]) rfl ?_
        refine En_callV rfl rfl rfl rfl rfl rfl rfl rfl tgz_159 (by decide +kernel) rfl (c_213 σ46 h47 a (geI rfl (by (first | exact q_bf8258001b h10.2.2.1 h13 h10.1 | omega))) (leI rfl (by (first | exact q_88b0c3c731 h10.2.2.1 h13 h10.1 h4 | omega)))) (by decide) (by decide) (fun v53 σ54 h52 => ?_)
        obtain ⟨h55, h56, z58, h59, z60, rfl, h57⟩ := h52
        have h61 := Fr_trans h51 h56 (by decide +kernel)
        refine En_callV rfl rfl rfl rfl rfl rfl rfl rfl tgz_159 (by decide +kernel) rfl (c_283 σ54 h55 z60) (by decide) (by decide) (fun v63 σ64 h62 => ?_)
        obtain ⟨h65, h66, z68, rfl, h67⟩ := h62
        have h69 := Fr_trans h61 h66 (by decide +kernel)
        refine En_Ps 1 (pc' := 52) (lv' := [(0, .ref 159), (1, .int a), (2, .int b), (3, .int c)]) (st' := [.int ((z50 - z68))]) rfl ?_
        refine En_top (subI rfl rfl (by first | exact q_1a616088d0 h49.1 h67.2 | omega) (by first | exact q_177aef1ae6 h49.2 h67.1 | omega)) (fun z70 h71 => ?_)
        exact En_ret (v := some (Value.int z70)) rfl rfl rfl ⟨h65, h69, z70, rfl, ⟨by first | exact q_bbe8c2391a h71 h49.1 h67.2 | omega, by first | exact q_7ede35fe3b h71 h49.2 h67.1 | omega⟩⟩
      · refine En_Ps 1 (pc' := 30) (lv' := [(0, .ref 159), (1, .int a), (2, .int b), (3, .int c)]) (st' := [.int (((Int16.ofInt (-1000)).toInt32))]) rfl ?_
        refine En_top (by decide : ((Int16.ofInt (-1000)).toInt32).toInt = -1000) (fun z72 h73 => ?_)
        exact En_ret (v := some (Value.int z72)) rfl rfl rfl ⟨h30, h34, z72, rfl, ⟨by first | exact q_44e84994b9 h73 | omega, by first | exact q_2026640327 h73 | omega⟩⟩
/-- DoorSchoolModel.isStrange(I)Z -/
abbrev P_267 (σ0 : SG) (a : Int32) : PO := fun v σ => WT σ ∧ Fr [] σ0 σ ∧ ∃ ret : Int32, v = some (Value.int ret) ∧ -ret.toInt ≤ 0 ∧ ret.toInt - 1 ≤ 0 ∧ (ret.toInt - 1 ≤ 0 ∧ -ret.toInt + 1 ≤ 0 → -a.toInt ≤ 0 ∧ a.toInt - 15 ≤ 0)
set_option maxRecDepth 10000 in
set_option maxHeartbeats 4000000 in
theorem c_267 (σ0 : SG) (hσ0 : WT σ0) (a : Int32) : En 4 84 none mr_267 (P_267 σ0 a) 0 [(0, .ref 159), (1, .int a)] [] σ0 := by
  have hF0 : Fr [] σ0 σ0 := Fr_rfl
  refine En_Ps 3 (pc' := 3) (lv' := [(0, .ref 159), (1, .int a)]) (st' := [.long a.toInt64, .ref 159]) rfl ?_
  have : a.toInt64.toInt = a.toInt := (i2lI rfl)
  refine En_callV rfl rfl rfl rfl rfl rfl rfl rfl tgz_159 (by decide +kernel) rfl (c_259 σ0 hσ0 a.toInt64) (by decide) (by decide) (fun v2 σ3 h1 => ?_)
  obtain ⟨h4, h5, z7, rfl, h6⟩ := h1
  have h8 := Fr_trans hF0 h5 (by decide +kernel)
  refine En_iEq _ rfl rfl (fun h9 => ?_) (fun h9 => ?_)
  · refine En_Ps 1 (pc' := 25) (lv' := [(0, .ref 159), (1, .int a)]) (st' := [.int ((Int32.ofInt 0))]) rfl ?_
    refine En_top (by decide : (Int32.ofInt 0).toInt = 0) (fun z10 h11 => ?_)
    exact En_ret (v := some (Value.int z10)) rfl rfl (retZ rfl rfl (by first | exact q_55451d0a83 h11 | omega) (by first | exact q_87849c3859 h11 | omega)) ⟨h4, h8, z10, rfl, ⟨by first | exact q_097a37c2ae h11 | omega, by first | exact q_e269517bee h11 | omega, fun _ => by omega⟩⟩
  · refine En_Ps 1 (pc' := 10) (lv' := [(0, .ref 159), (1, .int a)]) (st' := [.ref 159]) rfl ?_
    refine En_callV rfl rfl rfl rfl rfl rfl rfl rfl tgz_159 (by decide +kernel) rfl (c_295 σ3 h4) (by decide) (by decide) (fun v13 σ14 h12 => ?_)
    obtain ⟨h15, h16, z18, rfl, h17⟩ := h12
    have h19 := Fr_trans h8 h16 (by decide +kernel)
    refine En_Ps 1 (pc' := 14) (lv' := [(0, .ref 159), (1, .int a)]) (st' := [.int a, .int z18]) rfl ?_
    refine En_callS rfl rfl rfl rfl rfl rfl rfl rfl rfl (c_202b σ14 h15 z18 a) (by decide) (by decide) (fun v21 σ22 h20 => ?_)
    obtain ⟨h23, h24, z26, rfl, h25⟩ := h20
    have h27 := Fr_trans h19 h24 (by decide +kernel)
    refine En_iNe _ rfl rfl (fun h28 => ?_) (fun h28 => ?_)
    · refine En_Ps 1 (pc' := 25) (lv' := [(0, .ref 159), (1, .int a)]) (st' := [.int ((Int32.ofInt 0))]) rfl ?_
      refine En_top (by decide : (Int32.ofInt 0).toInt = 0) (fun z29 h30 => ?_)
      exact En_ret (v := some (Value.int z29)) rfl rfl (retZ rfl rfl (by first | exact q_55451d0a83 h30 | omega) (by first | exact q_87849c3859 h30 | omega)) ⟨h23, h27, z29, rfl, ⟨by first | exact q_097a37c2ae h30 | omega, by first | exact q_e269517bee h30 | omega, fun _ => by (first | exact q_6f14343613 h6.2.2 h9 h6.1 this | omega)⟩⟩
    · refine En_Ps 2 (pc' := 25) (lv' := [(0, .ref 159), (1, .int a)]) (st' := [.int ((Int32.ofInt 1))]) rfl ?_
      refine En_top (by decide : (Int32.ofInt 1).toInt = 1) (fun z31 h32 => ?_)
      exact En_ret (v := some (Value.int z31)) rfl rfl (retZ rfl rfl (by first | exact q_2b07c97645 h32 | omega) (by first | exact q_d9e7cbb253 h32 | omega)) ⟨h23, h27, z31, rfl, ⟨by first | exact q_ad3eee31ca h32 | omega, by first | exact q_81cf297dc4 h32 | omega, fun _ => by (first | exact q_6f14343613 h6.2.2 h9 h6.1 this | omega)⟩⟩
/-- DoorSchoolModel.game(III)I -/
abbrev P_236 (σ0 : SG) (a : Int32) (b : Int32) (c : Int32) : PO := fun v σ => WT σ ∧ Fr [(35, 18), (35, 21), (42, 0), (43, 0), (44, 0), (45, 0), (46, 0)] σ0 σ ∧ ∃ ret : Int32, v = some (Value.int ret) ∧ -ret.toInt - 2 ≤ 0 ∧ ret.toInt - 1 ≤ 0
set_option maxRecDepth 10000 in
set_option maxHeartbeats 4000000 in
theorem c_236 (σ0 : SG) (hσ0 : WT σ0) (a : Int32) (b : Int32) (c : Int32) : En 5 113 none mr_236 (P_236 σ0 a b c) 0 [(0, .ref 159), (1, .int a), (2, .int b), (3, .int c)] [] σ0 := by
  have hF0 : Fr [(35, 18), (35, 21), (42, 0), (43, 0), (44, 0), (45, 0), (46, 0)] σ0 σ0 := Fr_rfl
  refine En_Ps 2 (pc' := 2) (lv' := [(0, .ref 159), (1, .int a), (2, .int b), (3, .int c)]) (st' := [.int a, .ref 159]) rfl ?_
  obtain ⟨z2, h1, h3, h4⟩ := WT_peekI hσ0 tgz_160 (by decide +kernel : FT 36 (2 : Int).toNat = (0, 0, 4)) (by decide +kernel)
  refine En_callV rfl rfl rfl rfl rfl rfl rfl rfl tgz_159 (by decide +kernel) rfl (c_254 σ0 hσ0 a z2 h1) (by decide) (by decide) (fun v6 σ7 h5 => ?_)
  obtain ⟨h8, h9, z11, rfl, h10⟩ := h5
  have h12 := Fr_trans hF0 h9 (by decide +kernel)
  refine En_iEq _ rfl rfl (fun h13 => ?_) (fun h13 => ?_)
  · refine En_Ps 1 (pc' := 38) (lv' := [(0, .ref 159), (1, .int a), (2, .int b), (3, .int c)]) (st' := [.int (((Int8.ofInt (-2)).toInt32))]) rfl ?_
    refine En_top (by decide : ((Int8.ofInt (-2)).toInt32).toInt = -2) (fun z14 h15 => ?_)
    exact En_ret (v := some (Value.int z14)) rfl rfl rfl ⟨h8, h12, z14, rfl, ⟨by first | exact q_f35c5d346c h15 | omega, by first | exact q_680688d8e6 h15 | omega⟩⟩
  · refine En_Ps 1 (pc' := 9) (lv' := [(0, .ref 159), (1, .int a), (2, .int b), (3, .int c)]) (st' := [.int b]) rfl ?_
    refine En_callS rfl rfl rfl rfl rfl rfl rfl rfl rfl (c_268 σ7 h8 b) (by decide) (by decide) (fun v17 σ18 h16 => ?_)
    obtain ⟨h19, h20, z22, rfl, h21⟩ := h16
    have h23 := Fr_trans h12 h20 (by decide +kernel)
    refine En_iEq _ rfl rfl (fun h24 => ?_) (fun h24 => ?_)
    · refine En_Ps 1 (pc' := 38) (lv' := [(0, .ref 159), (1, .int a), (2, .int b), (3, .int c)]) (st' := [.int (((Int8.ofInt (-2)).toInt32))]) rfl ?_
      refine En_top (by decide : ((Int8.ofInt (-2)).toInt32).toInt = -2) (fun z25 h26 => ?_)
      exact En_ret (v := some (Value.int z25)) rfl rfl rfl ⟨h19, h23, z25, rfl, ⟨by first | exact q_f35c5d346c h26 | omega, by first | exact q_680688d8e6 h26 | omega⟩⟩
    · refine En_Ps 2 (pc' := 17) (lv' := [(0, .ref 159), (1, .int a), (2, .int b), (3, .int c)]) (st' := [.int c, .ref 159]) rfl ?_
      refine En_callV rfl rfl rfl rfl rfl rfl rfl rfl tgz_159 (by decide +kernel) rfl (c_267 σ18 h19 c) (by decide) (by decide) (fun v28 σ29 h27 => ?_)
      obtain ⟨h30, h31, z33, rfl, h32⟩ := h27
      have h34 := Fr_trans h23 h31 (by decide +kernel)
      refine En_iEq _ rfl rfl (fun h35 => ?_) (fun h35 => ?_)
      · refine En_Ps 1 (pc' := 38) (lv' := [(0, .ref 159), (1, .int a), (2, .int b), (3, .int c)]) (st' := [.int (((Int8.ofInt (-2)).toInt32))]) rfl ?_
        refine En_top (by decide : ((Int8.ofInt (-2)).toInt32).toInt = -2) (fun z36 h37 => ?_)
        exact En_ret (v := some (Value.int z36)) rfl rfl rfl ⟨h30, h34, z36, rfl, ⟨by first | exact q_f35c5d346c h37 | omega, by first | exact q_680688d8e6 h37 | omega⟩⟩
      · refine En_Ps 3 (pc' := 26) (lv' := [(0, .ref 159), (1, .int a), (2, .int b), (3, .int c)]) (st' := [.int b, .int a, .ref 159]) rfl ?_
        refine En_callV rfl rfl rfl rfl rfl rfl rfl rfl tgz_159 (by decide +kernel) rfl (c_211 σ29 h30 a b (geI rfl (by (first | exact q_bf8258001b h10.2.2.1 h13 h10.1 | omega))) (leI rfl (by (first | exact q_88b0c3c731 h10.2.2.1 h13 h10.1 h4 | omega)))) (by decide) (by decide) (fun v39 σ40 h38 => ?_)
        obtain ⟨h41, h42, z44, rfl, h43⟩ := h38
        have h45 := Fr_trans h34 h42 (by decide +kernel)
        refine En_Ps 1 (pc' := 30) (lv' := [(0, .ref 159), (1, .int a), (2, .int b), (3, .int c)]) (st' := [.int c, .int z44]) rfl ?_
        refine En_callS rfl rfl rfl rfl rfl rfl rfl rfl rfl (c_202b σ40 h41 z44 c) (by decide) (by decide) (fun v47 σ48 h46 => ?_)
        obtain ⟨h49, h50, z52, rfl, h51⟩ := h46
        have h53 := Fr_trans h45 h50 (by decide +kernel)
        refine En_Ps 1 (pc' := 38) (lv' := [(0, .ref 159), (1, .int a), (2, .int b), (3, .int c)]) (st' := [.int z52]) rfl ?_
        exact En_ret (v := some (Value.int z52)) rfl rfl rfl ⟨h49, h53, z52, rfl, ⟨by first | exact q_70a249c7f8 h51.1 | omega, by first | exact q_ad5b726bf8 h51.2 | omega⟩⟩
/-- DoorSchoolModel.hard()I -/
abbrev P_240 (σ0 : SG) : PO := fun v σ => WT σ ∧ Fr [(35, 18), (35, 21), (42, 0), (43, 0), (44, 0), (45, 0), (46, 0)] σ0 σ ∧ ∃ ret : Int32, v = some (Value.int ret) ∧ -ret.toInt - 2 ≤ 0 ∧ ret.toInt - 4095 ≤ 0
set_option maxRecDepth 10000 in
set_option maxHeartbeats 4000000 in
theorem c_240 (σ0 : SG) (hσ0 : WT σ0) : En 5 112 none mr_240 (P_240 σ0) 0 [(0, .ref 159)] [] σ0 := by
  have hF0 : Fr [(35, 18), (35, 21), (42, 0), (43, 0), (44, 0), (45, 0), (46, 0)] σ0 σ0 := Fr_rfl
  refine En_Ps 1 (pc' := 1) (lv' := [(0, .ref 159)]) (st' := [.ref 159]) rfl ?_
  obtain ⟨z2, h1, h3, h4⟩ := WT_peekI hσ0 tgz_160 (by decide +kernel : FT 36 (7 : Int).toNat = (0, 0, 1600)) (by decide +kernel)
  refine En_callV rfl rfl rfl rfl rfl rfl rfl rfl tgz_159 (by decide +kernel) rfl (c_264 σ0 hσ0 z2 h1) (by decide) (by decide) (fun v6 σ7 h5 => ?_)
  obtain ⟨h8, h9, z11, rfl, h10⟩ := h5
  have h12 := Fr_trans hF0 h9 (by decide +kernel)
  refine En_iNe _ rfl rfl (fun h13 => ?_) (fun h13 => ?_)
  · refine En_Ps 2 (pc' := 12) (lv' := [(0, .ref 159)]) (st' := [.ref 159, .int ((Int32.ofInt 1))]) rfl ?_
    refine En_getU (j := 1) (u := 160) (g' := 36) (q := 0) rfl rfl rfl tgz_159 (by decide +kernel) h8 (by decide +kernel) un_36_160 (fun h14 => ?_)
    refine En_Ps 1 (pc' := 16) (lv' := [(0, .ref 159)]) (st' := [.int ((Int32.ofInt 3)), .ref 160, .int ((Int32.ofInt 1))]) rfl ?_
    refine En_iald (l := 0) (u := 12) rfl (by decide : (Int32.ofInt 3).toInt = 3) tgz_160 (by decide +kernel) h8 (by decide) (lnI (by decide +kernel : LN _ = 226) (by decide)) (by decide +kernel) (fun z17 h16 h18 h19 => ?_)
    refine En_Ps 1 (pc' := 18) (lv' := [(0, .ref 159)]) (st' := [.int ((((Int32.ofInt 1)) <<< (z17 &&& 31)))]) rfl ?_
    refine En_rng (shl1_p 12 rfl (by (first | exact q_58e6e51dcc h18 | omega)) (by (first | exact q_20851d1faf h19 | omega)) (by decide)) (fun z20 h21 h22 => ?_)
    refine En_Ps 2 (pc' := 20) (lv' := [(0, .ref 159)]) (st' := [.int ((z20 - ((Int32.ofInt 1))))]) rfl ?_
    refine En_top (subI rfl (by decide : (Int32.ofInt 1).toInt = 1) (by first | exact q_96dadfce4b h21 | omega) (by first | exact q_7669048e69 h22 | omega)) (fun z23 h24 => ?_)
    refine En_Ps 3 (pc' := 23) (lv' := [(2, .int ((Int32.ofInt 0))), (1, .int z23), (0, .ref 159)]) (st' := []) rfl ?_
    have key23 : ∀ (n23 : Nat) (σ27 : SG) (y25 : Int32) (y26 : Int32), WT σ27 → Fr [(35, 18), (35, 21), (42, 0), (43, 0), (44, 0), (45, 0), (46, 0)] σ0 σ27 → (σ27 160)[(7 : Int).toNat]? = some (Value.int z2) → (σ27 159)[1]? = some (Value.ref 160) → (σ27 160)[(3 : Int).toNat]? = some (Value.int z17) → 0 ≤ y25.toInt → y25.toInt ≤ 4095 → 0 ≤ y26.toInt → y26.toInt ≤ 4 → -y26.toInt + 4 < (n23 : Int) → En 5 112 none mr_240 (P_240 σ0) 23 [(0, .ref 159), (1, .int y25), (2, .int y26)] [] σ27 := by
      intro n23
      induction n23 with
      | zero =>
        intro σ27 y25 y26 h28 h29 h30 h31 h32 h33 h34 h35 h36 h37
        first | exact (q_20d6385c6f h37 h36).elim | (exfalso; omega)
      | succ n23 ih23 =>
        intro σ27 y25 y26 h28 h29 h30 h31 h32 h33 h34 h35 h36 h37
        refine En_Ps 2 (pc' := 25) (lv' := [(0, .ref 159), (1, .int y25), (2, .int y26)]) (st' := [.ref 159, .int y26]) rfl ?_
        refine En_getK (j := 1) h31 rfl rfl rfl tgz_159 (by decide +kernel) ?_
        refine En_Ps 1 (pc' := 29) (lv' := [(0, .ref 159), (1, .int y25), (2, .int y26)]) (st' := [.int ((Int32.ofInt 2)), .ref 160, .int y26]) rfl ?_
        refine En_iald (l := 0) (u := 4) rfl (by decide : (Int32.ofInt 2).toInt = 2) tgz_160 (by decide +kernel) h28 (by decide) (lnI (by decide +kernel : LN _ = 226) (by decide)) (by decide +kernel) (fun z39 h38 h40 h41 => ?_)
        refine En_icGe _ rfl rfl rfl (fun h42 => ?_) (fun h42 => ?_)
        · refine En_Ps 1 (pc' := 85) (lv' := [(0, .ref 159), (1, .int y25), (2, .int y26)]) (st' := [.int y25]) rfl ?_
          exact En_ret (v := some (Value.int y25)) rfl rfl rfl ⟨h28, h29, y25, rfl, ⟨by first | exact q_ea7f0ffdb1 h33 | omega, by first | exact q_cc7f194c2c h34 | omega⟩⟩
        · refine En_Ps 2 (pc' := 35) (lv' := [(0, .ref 159), (1, .int y25), (2, .int y26)]) (st' := [.int y26, .ref 159]) rfl ?_
          refine En_callV rfl rfl rfl rfl rfl rfl rfl rfl tgz_159 (by decide +kernel) rfl (c_213 σ27 h28 y26 (geI rfl (by first | exact q_58e6e51dcc h35 | omega)) (leI rfl (by first | exact q_5ab2e90ecc h42 h41 | omega))) (by decide) (by decide) (fun v44 σ45 h43 => ?_)
          obtain ⟨h46, h47, z49, h50, z51, rfl, h48⟩ := h43
          have h52 := Fr_trans h29 h47 (by decide +kernel)
          refine En_Ps 3 (pc' := 42) (lv' := [(4, .int ((Int32.ofInt 0))), (3, .int z51), (0, .ref 159), (1, .int y25), (2, .int y26)]) (st' := []) rfl ?_
          have key42 : ∀ (n42 : Nat) (σ55 : SG) (y53 : Int32) (y54 : Int32), WT σ55 → Fr [(35, 18), (35, 21), (42, 0), (43, 0), (44, 0), (45, 0), (46, 0)] σ0 σ55 → (σ55 160)[(7 : Int).toNat]? = some (Value.int z2) → (σ55 159)[1]? = some (Value.ref 160) → (σ55 160)[(3 : Int).toNat]? = some (Value.int z17) → (σ55 160)[(2 : Int).toNat]? = some (Value.int z39) → (σ55 159)[21]? = some (Value.int z49) → 0 ≤ y53.toInt → y53.toInt ≤ 4095 → 0 ≤ y54.toInt → y54.toInt ≤ 12 → y54.toInt - z17.toInt ≤ 0 → z17.toInt - y54.toInt < (n42 : Int) → En 5 112 none mr_240 (P_240 σ0) 42 [(0, .ref 159), (1, .int y53), (2, .int y26), (3, .int z51), (4, .int y54)] [] σ55 := by
            intro n42
            induction n42 with
            | zero =>
              intro σ55 y53 y54 h56 h57 h58 h59 h60 h61 h62 h63 h64 h65 h66 h67 h68
              first | exact (q_14257feae7 h67 h68).elim | (exfalso; omega)
            | succ n42 ih42 =>
              intro σ55 y53 y54 h56 h57 h58 h59 h60 h61 h62 h63 h64 h65 h66 h67 h68
              refine En_Ps 2 (pc' := 45) (lv' := [(0, .ref 159), (1, .int y53), (2, .int y26), (3, .int z51), (4, .int y54)]) (st' := [.ref 159, .int y54]) rfl ?_
              refine En_getK (j := 1) h59 rfl rfl rfl tgz_159 (by decide +kernel) ?_
              refine En_Ps 1 (pc' := 49) (lv' := [(0, .ref 159), (1, .int y53), (2, .int y26), (3, .int z51), (4, .int y54)]) (st' := [.int ((Int32.ofInt 3)), .ref 160, .int y54]) rfl ?_
              refine En_ialdK h60 rfl (by decide : (Int32.ofInt 3).toInt = 3) tgz_160 (by decide +kernel) h56 (by decide) (lnI (by decide +kernel : LN _ = 226) (by decide)) ?_
              refine En_icGe _ rfl rfl rfl (fun h70 => ?_) (fun h70 => ?_)
              · refine En_Ps 1 (pc' := 81) (lv' := [(2, .int ((y26 + Int32.ofInt 1))), (0, .ref 159), (1, .int y53), (3, .int z51), (4, .int y54)]) (st' := []) rfl ?_
                refine En_lv1 (addI rfl (by decide : (Int32.ofInt 1).toInt = 1) (by first | exact q_465ab79ac1 h35 | omega) (by first | exact q_f7282962fd h36 | omega)) (fun z71 h72 => ?_)
                refine En_Ps 1 (pc' := 23) (lv' := [(2, .int z71), (0, .ref 159), (1, .int y53), (3, .int z51), (4, .int y54)]) (st' := []) rfl ?_
                refine En_lv (lv := [(0, .ref 159), (1, .int y53), (2, .int z71)]) ⟨rfl, rfl, rfl, trivial⟩ ?_
                exact ih23 σ55 y53 z71 h56 h57 h58 h59 h60 (by first | exact q_58e6e51dcc h63 | omega) (by first | exact q_1eb66afe45 h64 | omega) (by first | exact q_35104ce9d3 h72 h35 | omega) (by first | exact q_de42116b63 h72 h42 h41 | omega) (by first | exact q_3d8d70ace2 h72 h37 | omega)
              · refine En_Ps 3 (pc' := 57) (lv' := [(0, .ref 159), (1, .int y53), (2, .int y26), (3, .int z51), (4, .int y54)]) (st' := [.int y54, .int z51, .ref 159]) rfl ?_
                refine En_callV rfl rfl rfl rfl rfl rfl rfl rfl tgz_159 (by decide +kernel) rfl (c_262 σ55 h56 z51 y54 (geI rfl (by first | exact q_58e6e51dcc h65 | omega)) (leI rfl (by first | exact q_a30ae353ab h70 h19 | omega))) (by decide) (by decide) (fun v74 σ75 h73 => ?_)
                obtain ⟨h76, h77, z79, rfl, h78⟩ := h73
                have h80 := Fr_trans h57 h77 (by decide +kernel)
                refine En_iEq _ rfl rfl (fun h81 => ?_) (fun h81 => ?_)
                · refine En_Ps 1 (pc' := 75) (lv' := [(4, .int ((y54 + Int32.ofInt 1))), (0, .ref 159), (1, .int y53), (2, .int y26), (3, .int z51)]) (st' := []) rfl ?_
                  refine En_lv1 (addI rfl (by decide : (Int32.ofInt 1).toInt = 1) (by first | exact q_465ab79ac1 h65 | omega) (by first | exact q_1fdc13c345 h66 | omega)) (fun z82 h83 => ?_)
                  refine En_Ps 1 (pc' := 42) (lv' := [(4, .int z82), (0, .ref 159), (1, .int y53), (2, .int y26), (3, .int z51)]) (st' := []) rfl ?_
                  refine En_lv (lv := [(0, .ref 159), (1, .int y53), (2, .int y26), (3, .int z51), (4, .int z82)]) ⟨rfl, rfl, rfl, rfl, rfl, trivial⟩ ?_
                  exact ih42 σ75 y53 z82 h76 h80 ((h77 _ _ (inWa tgz_160 (by decide +kernel))).trans h58) ((h77 _ _ (inW tgz_159 (by decide +kernel))).trans h59) ((h77 _ _ (inWa tgz_160 (by decide +kernel))).trans h60) ((h77 _ _ (inWa tgz_160 (by decide +kernel))).trans h61) ((h77 _ _ (inW tgz_159 (by decide +kernel))).trans h62) (by first | exact q_58e6e51dcc h63 | omega) (by first | exact q_1eb66afe45 h64 | omega) (by first | exact q_35104ce9d3 h83 h65 | omega) (by first | exact q_a2b7b6f4bb h83 h70 h19 | omega) (by first | exact q_ae2dbf4292 h70 h83 | omega) (by first | exact q_8d03a5a7cb h83 h68 | omega)
                · refine En_Ps 4 (pc' := 68) (lv' := [(0, .ref 159), (1, .int y53), (2, .int y26), (3, .int z51), (4, .int y54)]) (st' := [.int ((((Int32.ofInt 1)) <<< (y54 &&& 31))), .int y53]) rfl ?_
                  refine En_rng (shl1_p 11 rfl (by (first | exact q_58e6e51dcc h65 | omega)) (by (first | exact q_34fd7002e7 h70 h19 | omega)) (by decide)) (fun z84 h85 h86 => ?_)
                  refine En_Ps 2 (pc' := 70) (lv' := [(0, .ref 159), (1, .int y53), (2, .int y26), (3, .int z51), (4, .int y54)]) (st' := [.int ((z84 ^^^ ((Int32.ofInt (-1))))), .int y53]) rfl ?_
                  refine En_nam (fun z87 h88 => ?_)
                  refine En_Ps 1 (pc' := 71) (lv' := [(0, .ref 159), (1, .int y53), (2, .int y26), (3, .int z51), (4, .int y54)]) (st' := [.int ((y53 &&& z87))]) rfl ?_
                  refine En_nam (fun z89 h90 => ?_)
                  obtain ⟨h91, h92⟩ := andn_rng h90 rfl (by (first | exact q_58e6e51dcc h63 | omega)) (by (first | exact q_1eb66afe45 h64 | omega) : _ ≤ (4095 : Int))
                  refine En_Ps 2 (pc' := 75) (lv' := [(4, .int ((y54 + Int32.ofInt 1))), (1, .int z89), (0, .ref 159), (2, .int y26), (3, .int z51)]) (st' := []) rfl ?_
                  refine En_lv1 (addI rfl (by decide : (Int32.ofInt 1).toInt = 1) (by first | exact q_465ab79ac1 h65 | omega) (by first | exact q_1fdc13c345 h66 | omega)) (fun z93 h94 => ?_)
                  refine En_Ps 1 (pc' := 42) (lv' := [(4, .int z93), (1, .int z89), (0, .ref 159), (2, .int y26), (3, .int z51)]) (st' := []) rfl ?_
                  refine En_lv (lv := [(0, .ref 159), (1, .int z89), (2, .int y26), (3, .int z51), (4, .int z93)]) ⟨rfl, rfl, rfl, rfl, rfl, trivial⟩ ?_
                  exact ih42 σ75 z89 z93 h76 h80 ((h77 _ _ (inWa tgz_160 (by decide +kernel))).trans h58) ((h77 _ _ (inW tgz_159 (by decide +kernel))).trans h59) ((h77 _ _ (inWa tgz_160 (by decide +kernel))).trans h60) ((h77 _ _ (inWa tgz_160 (by decide +kernel))).trans h61) ((h77 _ _ (inW tgz_159 (by decide +kernel))).trans h62) (by (first | exact q_58e6e51dcc h91 | omega)) (by (first | exact q_1eb66afe45 h92 | omega)) (by first | exact q_35104ce9d3 h94 h65 | omega) (by first | exact q_a2b7b6f4bb h94 h70 h19 | omega) (by first | exact q_ae2dbf4292 h70 h94 | omega) (by first | exact q_8d03a5a7cb h94 h68 | omega)
          have := (by decide : (Int32.ofInt 0).toInt = 0)
          refine En_lv (lv := [(0, .ref 159), (1, .int y25), (2, .int y26), (3, .int z51), (4, .int ((Int32.ofInt 0)))]) ⟨rfl, rfl, rfl, rfl, rfl, trivial⟩ ?_
          exact key42 (Int.toNat (z17.toInt) + 1) σ45 y25 ((Int32.ofInt 0)) h46 h52 ((h47 _ _ (inWa tgz_160 (by decide +kernel))).trans h30) ((h47 _ _ (inW tgz_159 (by decide +kernel))).trans h31) ((h47 _ _ (inWa tgz_160 (by decide +kernel))).trans h32) ((h47 _ _ (inWa tgz_160 (by decide +kernel))).trans h38) h50 (by first | exact q_58e6e51dcc h33 | omega) (by first | exact q_1eb66afe45 h34 | omega) (by decide) (by decide) (by (first | exact q_d69f448e8e this h18 | omega)) (by first | exact toN_lt _ | omega)
    have := (by decide : (Int32.ofInt 0).toInt = 0)
    refine En_lv (lv := [(0, .ref 159), (1, .int z23), (2, .int ((Int32.ofInt 0)))]) ⟨rfl, rfl, rfl, trivial⟩ ?_
    exact key23 (Int.toNat (4) + 1) σ7 z23 ((Int32.ofInt 0)) h8 h12 ((h9 _ _ (inWa tgz_160 (by decide +kernel))).trans h1) h14 h16 (by first | exact q_00529e3716 h24 h21 | omega) (by first | exact q_9bcae40bf2 h24 h22 | omega) (by decide) (by decide) (by first | exact toN_lt _ | omega)
  · refine En_Ps 1 (pc' := 9) (lv' := [(0, .ref 159)]) (st' := [.int (((Int8.ofInt (-2)).toInt32))]) rfl ?_
    refine En_top (by decide : ((Int8.ofInt (-2)).toInt32).toInt = -2) (fun z95 h96 => ?_)
    exact En_ret (v := some (Value.int z95)) rfl rfl rfl ⟨h8, h12, z95, rfl, ⟨by first | exact q_f35c5d346c h96 | omega, by first | exact q_6f5286b946 h96 | omega⟩⟩
/-- DoorSchoolModel.hardened(II)I -/
abbrev P_242 (σ0 : SG) (a : Int32) (b : Int32) : PO := fun v σ => WT σ ∧ Fr [(35, 18), (35, 21), (42, 0), (43, 0), (44, 0), (45, 0), (46, 0)] σ0 σ ∧ ∃ ret : Int32, v = some (Value.int ret) ∧ True
set_option maxRecDepth 10000 in
set_option maxHeartbeats 4000000 in
theorem c_242 (σ0 : SG) (hσ0 : WT σ0) (a : Int32) (b : Int32) (hl_a : 0 ≤ a.toInt) (hu_a : a.toInt ≤ 3) (hl_b : 0 ≤ b.toInt) (hu_b : b.toInt ≤ 15) : En 6 136 none mr_242 (P_242 σ0 a b) 0 [(0, .ref 159), (1, .int a), (2, .int b)] [] σ0 := by
  have hF0 : Fr [(35, 18), (35, 21), (42, 0), (43, 0), (44, 0), (45, 0), (46, 0)] σ0 σ0 := Fr_rfl
  refine En_Ps 5 (pc' := 5) (lv' := [(0, .ref 159), (1, .int a), (2, .int b)]) (st' := [.ref 159, .int b, .int a, .ref 159, .ref 159]) rfl ?_
  refine En_callV rfl rfl rfl rfl rfl rfl rfl rfl tgz_159 (by decide +kernel) rfl (c_295 σ0 hσ0) (by decide) (by decide) (fun v2 σ3 h1 => ?_)
  obtain ⟨h4, h5, z7, rfl, h6⟩ := h1
  have h8 := Fr_trans hF0 h5 (by decide +kernel)
  refine En_Ps 1 (pc' := 9) (lv' := [(0, .ref 159), (1, .int a), (2, .int b)]) (st' := [.int b, .int z7, .int b, .int a, .ref 159, .ref 159]) rfl ?_
  refine En_callS rfl rfl rfl rfl rfl rfl rfl rfl rfl (c_202b σ3 h4 z7 b) (by decide) (by decide) (fun v10 σ11 h9 => ?_)
  obtain ⟨h12, h13, z15, rfl, h14⟩ := h9
  have h16 := Fr_trans h8 h13 (by decide +kernel)
  refine En_callV rfl rfl rfl rfl rfl rfl rfl rfl tgz_159 (by decide +kernel) rfl (c_214 σ11 h12 a b z15 (geI rfl (by first | exact q_58e6e51dcc hl_a | omega)) (leI rfl (by first | exact q_da5e9b976f hu_a | omega)) (geI rfl (by first | exact q_58e6e51dcc hl_b | omega)) (leI rfl (by first | exact q_5a4d8a7e08 hu_b | omega)) (geI rfl (by first | exact q_ef1e8e38bf h14.1 | omega)) (leI rfl (by first | exact q_733c8bfbae h14.2 | omega))) (by decide) (by decide) (fun v18 σ19 h17 => ?_)
  obtain ⟨h20, h21, z23, rfl, h22⟩ := h17
  have h24 := Fr_trans h16 h21 (by decide +kernel)
  refine En_callV rfl rfl rfl rfl rfl rfl rfl rfl tgz_159 (by decide +kernel) rfl (c_233 σ19 h20 z23) (by decide) (by decide) (fun v26 σ27 h25 => ?_)
  obtain ⟨h28, h29, z31, rfl, h30⟩ := h25
  have h32 := Fr_trans h24 h29 (by decide +kernel)
  exact En_ret (v := some (Value.int z31)) rfl rfl rfl ⟨h28, h32, z31, rfl, trivial⟩
/-- DoorSchoolModel.harden(I)I -/
abbrev P_241 (σ0 : SG) (a : Int32) (nd : Int32) : PO := fun v σ => WT σ ∧ Fr [(35, 18), (35, 21), (42, 0), (43, 0), (44, 0), (45, 0), (46, 0)] σ0 σ ∧ ∃ ret : Int32, v = some (Value.int ret) ∧ -ret.toInt - 2 ≤ 0 ∧ ret.toInt - 15 ≤ 0 ∧ (-ret.toInt - 1 ≤ 0 → -a.toInt ≤ 0 ∧ a.toInt - 3 ≤ 0) ∧ (-ret.toInt ≤ 0 → ret.toInt - 15 ≤ 0) ∧ (-a.toInt ≤ 0 ∧ a.toInt - nd.toInt + 1 ≤ 0 → -ret.toInt - 1 ≤ 0)
set_option maxRecDepth 10000 in
set_option maxHeartbeats 4000000 in
theorem c_241 (σ0 : SG) (hσ0 : WT σ0) (a : Int32) (nd : Int32) (h_nd : (σ0 160)[(2 : Int).toNat]? = some (Value.int nd)) : En 7 158 none mr_241 (P_241 σ0 a nd) 0 [(0, .ref 159), (1, .int a)] [] σ0 := by
  obtain ⟨hl_nd, hu_nd⟩ := WT_int hσ0 (g := 36) (by decide +kernel) (by decide +kernel) (l := 0) (u := 4) (by decide +kernel) h_nd
  have hF0 : Fr [(35, 18), (35, 21), (42, 0), (43, 0), (44, 0), (45, 0), (46, 0)] σ0 σ0 := Fr_rfl
  refine En_Ps 2 (pc' := 2) (lv' := [(0, .ref 159), (1, .int a)]) (st' := [.int a, .ref 159]) rfl ?_
  refine En_callV rfl rfl rfl rfl rfl rfl rfl rfl tgz_159 (by decide +kernel) rfl (c_254 σ0 hσ0 a nd h_nd) (by decide) (by decide) (fun v2 σ3 h1 => ?_)
  obtain ⟨h4, h5, z7, rfl, h6⟩ := h1
  have h8 := Fr_trans hF0 h5 (by decide +kernel)
  refine En_iNe _ rfl rfl (fun h9 => ?_) (fun h9 => ?_)
  · refine En_Ps 3 (pc' := 14) (lv' := [(0, .ref 159), (1, .int a)]) (st' := [.int a, .ref 159, .ref 159]) rfl ?_
    refine En_callV rfl rfl rfl rfl rfl rfl rfl rfl tgz_159 (by decide +kernel) rfl (c_213 σ3 h4 a (geI rfl (by (first | exact q_bf8258001b h6.2.2.1 h9 h6.1 | omega))) (leI rfl (by (first | exact q_88b0c3c731 h6.2.2.1 h9 h6.1 hu_nd | omega)))) (by decide) (by decide) (fun v11 σ12 h10 => ?_)
    obtain ⟨h13, h14, z16, h17, z18, rfl, h15⟩ := h10
    have h19 := Fr_trans h8 h14 (by decide +kernel)
    refine En_callV rfl rfl rfl rfl rfl rfl rfl rfl tgz_159 (by decide +kernel) rfl (c_233 σ12 h13 z18) (by decide) (by decide) (fun v21 σ22 h20 => ?_)
    obtain ⟨h23, h24, z26, rfl, h25⟩ := h20
    have h27 := Fr_trans h19 h24 (by decide +kernel)
    refine En_Ps 5 (pc' := 26) (lv' := [(4, .int ((Int32.ofInt 0))), (3, .int ((Int32.ofInt (-1)))), (2, .int z26), (0, .ref 159), (1, .int a)]) (st' := []) rfl ?_
    have key26 : ∀ (n26 : Nat) (σ31 : SG) (y28 : Int32) (y29 : Int32) (y30 : Int32), WT σ31 → Fr [(35, 18), (35, 21), (42, 0), (43, 0), (44, 0), (45, 0), (46, 0)] σ0 σ31 → (σ31 160)[(2 : Int).toNat]? = some (Value.int nd) → (-1) ≤ y29.toInt → y29.toInt ≤ 15 → 0 ≤ y30.toInt → y30.toInt ≤ 16 → y29.toInt - y30.toInt + 1 ≤ 0 → -y30.toInt + 16 < (n26 : Int) → En 7 158 none mr_241 (P_241 σ0 a nd) 26 [(0, .ref 159), (1, .int a), (2, .int y28), (3, .int y29), (4, .int y30)] [] σ31 := by
      intro n26
      induction n26 with
      | zero =>
        intro σ31 y28 y29 y30 h32 h33 h34 h35 h36 h37 h38 h39 h40
        first | exact (q_511f6d33ac h40 h38).elim | (exfalso; omega)
      | succ n26 ih26 =>
        intro σ31 y28 y29 y30 h32 h33 h34 h35 h36 h37 h38 h39 h40
        refine En_Ps 2 (pc' := 29) (lv' := [(0, .ref 159), (1, .int a), (2, .int y28), (3, .int y29), (4, .int y30)]) (st' := [.ref 159, .int y30]) rfl ?_
        obtain ⟨z42, h41, h43, h44⟩ := WT_peekI h32 tgz_160 (by decide +kernel : FT 36 (0 : Int).toNat = (0, 0, 4)) (by decide +kernel)
        obtain ⟨z46, h45, h47, h48⟩ := WT_peekI h32 tgz_160 (by decide +kernel : FT 36 (7 : Int).toNat = (0, 0, 1600)) (by decide +kernel)
        refine En_callV rfl rfl rfl rfl rfl rfl rfl rfl tgz_159 (by decide +kernel) rfl (c_269 σ31 h32 z42 h41 z46 h45) (by decide) (by decide) (fun v50 σ51 h49 => ?_)
        obtain ⟨h52, h53, z55, rfl, h54⟩ := h49
        have h56 := h54.2.2
        have h57 := Fr_trans h33 h53 (by decide +kernel)
        refine En_icGe _ rfl rfl rfl (fun h58 => ?_) (fun h58 => ?_)
        · refine En_Ps 1 (pc' := 66) (lv' := [(0, .ref 159), (1, .int a), (2, .int y28), (3, .int y29), (4, .int y30)]) (st' := [.int y29]) rfl ?_
          exact En_ret (v := some (Value.int y29)) rfl rfl rfl ⟨h52, h57, y29, rfl, ⟨by first | exact q_fe58cd40d0 h35 | omega, by first | exact q_867a9ac627 h36 | omega, fun _ => by (first | exact q_93a2129c9a h6.2.2.1 h9 h6.1 hu_nd | omega), fun _ => by (first | exact q_867a9ac627 h36 | omega), fun _ => by (first | exact q_d938601d8c h35 | omega)⟩⟩
        · refine En_Ps 3 (pc' := 39) (lv' := [(0, .ref 159), (1, .int a), (2, .int y28), (3, .int y29), (4, .int y30)]) (st' := [.int y30, .int a, .ref 159]) rfl ?_
          refine En_callV rfl rfl rfl rfl rfl rfl rfl rfl tgz_159 (by decide +kernel) rfl (c_242 σ51 h52 a y30 (geI rfl (by (first | exact q_bf8258001b h6.2.2.1 h9 h6.1 | omega))) (leI rfl (by (first | exact q_88b0c3c731 h6.2.2.1 h9 h6.1 hu_nd | omega))) (geI rfl (by first | exact q_58e6e51dcc h37 | omega)) (leI rfl (by first | exact q_c15b485600 h58 h54.2.1 | omega))) (by decide) (by decide) (fun v60 σ61 h59 => ?_)
          obtain ⟨h62, h63, z65, rfl, h64⟩ := h59
          have h66 := Fr_trans h57 h63 (by decide +kernel)
          refine En_Ps 3 (pc' := 47) (lv' := [(5, .int z65), (0, .ref 159), (1, .int a), (2, .int y28), (3, .int y29), (4, .int y30)]) (st' := [.int y28, .int z65]) rfl ?_
          refine En_icLt _ rfl rfl rfl (fun h67 => ?_) (fun h67 => ?_)
          · refine En_Ps 5 (pc' := 62) (lv' := [(4, .int ((y30 + Int32.ofInt 1))), (3, .int y30), (2, .int z65), (5, .int z65), (0, .ref 159), (1, .int a)]) (st' := []) rfl ?_
            refine En_lv1 (addI rfl (by decide : (Int32.ofInt 1).toInt = 1) (by first | exact q_465ab79ac1 h37 | omega) (by first | exact q_f3f8e04381 h38 | omega)) (fun z68 h69 => ?_)
            refine En_Ps 1 (pc' := 26) (lv' := [(4, .int z68), (3, .int y30), (2, .int z65), (5, .int z65), (0, .ref 159), (1, .int a)]) (st' := []) rfl ?_
            refine En_lv (lv := [(0, .ref 159), (1, .int a), (2, .int z65), (3, .int y30), (4, .int z68)]) ⟨rfl, rfl, rfl, rfl, rfl, trivial⟩ ?_
            exact ih26 σ61 z65 y30 z68 h62 h66 ((h63 _ _ (inWa tgz_160 (by decide +kernel))).trans ((h53 _ _ (inWa tgz_160 (by decide +kernel))).trans h34)) (by first | exact q_5b439548fc h37 | omega) (by first | exact q_c15b485600 h58 h54.2.1 | omega) (by first | exact q_35104ce9d3 h69 h37 | omega) (by first | exact q_34dc714687 h69 h58 h54.2.1 | omega) (by first | exact q_2fedec469a h69 | omega) (by first | exact q_c5d740bdff h69 h40 | omega)
          · refine En_Ps 2 (pc' := 62) (lv' := [(4, .int ((y30 + Int32.ofInt 1))), (5, .int z65), (0, .ref 159), (1, .int a), (2, .int y28), (3, .int y29)]) (st' := []) rfl ?_
            refine En_lv1 (addI rfl (by decide : (Int32.ofInt 1).toInt = 1) (by first | exact q_465ab79ac1 h37 | omega) (by first | exact q_f3f8e04381 h38 | omega)) (fun z70 h71 => ?_)
            refine En_Ps 1 (pc' := 26) (lv' := [(4, .int z70), (5, .int z65), (0, .ref 159), (1, .int a), (2, .int y28), (3, .int y29)]) (st' := []) rfl ?_
            refine En_lv (lv := [(0, .ref 159), (1, .int a), (2, .int y28), (3, .int y29), (4, .int z70)]) ⟨rfl, rfl, rfl, rfl, rfl, trivial⟩ ?_
            exact ih26 σ61 y28 y29 z70 h62 h66 ((h63 _ _ (inWa tgz_160 (by decide +kernel))).trans ((h53 _ _ (inWa tgz_160 (by decide +kernel))).trans h34)) (by first | exact q_77b189e83d h35 | omega) (by first | exact q_5a4d8a7e08 h36 | omega) (by first | exact q_35104ce9d3 h71 h37 | omega) (by first | exact q_34dc714687 h71 h58 h54.2.1 | omega) (by first | exact q_6591527e3e h39 h71 | omega) (by first | exact q_c5d740bdff h71 h40 | omega)
    have := (by decide : (Int32.ofInt (-1)).toInt = -1)
    have := (by decide : (Int32.ofInt 0).toInt = 0)
    refine En_lv (lv := [(0, .ref 159), (1, .int a), (2, .int z26), (3, .int ((Int32.ofInt (-1)))), (4, .int ((Int32.ofInt 0)))]) ⟨rfl, rfl, rfl, rfl, rfl, trivial⟩ ?_
    exact key26 (Int.toNat (16) + 1) σ22 z26 ((Int32.ofInt (-1))) ((Int32.ofInt 0)) h23 h27 ((h24 _ _ (inWa tgz_160 (by decide +kernel))).trans ((h14 _ _ (inWa tgz_160 (by decide +kernel))).trans ((h5 _ _ (inWa tgz_160 (by decide +kernel))).trans h_nd))) (by decide) (by decide) (by decide) (by decide) (by (first | exact q_2e3352c2b4 this (by decide) | omega)) (by first | exact toN_lt _ | omega)
  · refine En_Ps 1 (pc' := 10) (lv' := [(0, .ref 159), (1, .int a)]) (st' := [.int (((Int8.ofInt (-2)).toInt32))]) rfl ?_
    refine En_top (by decide : ((Int8.ofInt (-2)).toInt32).toInt = -2) (fun z72 h73 => ?_)
    exact En_ret (v := some (Value.int z72)) rfl rfl rfl ⟨h4, h8, z72, rfl, ⟨by first | exact q_f35c5d346c h73 | omega, by first | exact q_12a74e12a3 h73 | omega, fun _ => by omega, fun _ => by (first | exact q_012cea7c5e h73 | omega), fun _ => by omega⟩⟩
end
/-! 32.ly.m12 -/
section
/-- DoorSchoolModel.help(I)I -/
abbrev P_243 (σ0 : SG) (a : Int32) : PO := fun v σ => WT σ ∧ Fr [(35, 18), (35, 21), (42, 0), (43, 0), (44, 0), (45, 0), (46, 0)] σ0 σ ∧ ∃ ret : Int32, v = some (Value.int ret) ∧ -ret.toInt - 2 ≤ 0 ∧ ret.toInt - 49 ≤ 0
set_option maxRecDepth 10000 in
set_option maxHeartbeats 4000000 in
theorem c_243 (σ0 : SG) (hσ0 : WT σ0) (a : Int32) : En 6 136 none mr_243 (P_243 σ0 a) 0 [(0, .ref 159), (1, .int a)] [] σ0 := by
  have hF0 : Fr [(35, 18), (35, 21), (42, 0), (43, 0), (44, 0), (45, 0), (46, 0)] σ0 σ0 := Fr_rfl
  refine En_Ps 2 (pc' := 2) (lv' := [(0, .ref 159), (1, .int a)]) (st' := [.int a, .ref 159]) rfl ?_
  obtain ⟨z2, h1, h3, h4⟩ := WT_peekI hσ0 tgz_160 (by decide +kernel : FT 36 (2 : Int).toNat = (0, 0, 4)) (by decide +kernel)
  refine En_callV rfl rfl rfl rfl rfl rfl rfl rfl tgz_159 (by decide +kernel) rfl (c_254 σ0 hσ0 a z2 h1) (by decide) (by decide) (fun v6 σ7 h5 => ?_)
  obtain ⟨h8, h9, z11, rfl, h10⟩ := h5
  have h12 := Fr_trans hF0 h9 (by decide +kernel)
  refine En_iNe _ rfl rfl (fun h13 => ?_) (fun h13 => ?_)
  · refine En_Ps 3 (pc' := 14) (lv' := [(0, .ref 159), (1, .int a)]) (st' := [.int a, .ref 159, .ref 159]) rfl ?_
    refine En_callV rfl rfl rfl rfl rfl rfl rfl rfl tgz_159 (by decide +kernel) rfl (c_213 σ7 h8 a (geI rfl (by (first | exact q_bf8258001b h10.2.2.1 h13 h10.1 | omega))) (leI rfl (by (first | exact q_88b0c3c731 h10.2.2.1 h13 h10.1 h4 | omega)))) (by decide) (by decide) (fun v15 σ16 h14 => ?_)
    obtain ⟨h17, h18, z20, h21, z22, rfl, h19⟩ := h14
    have h23 := Fr_trans h12 h18 (by decide +kernel)
    refine En_callV rfl rfl rfl rfl rfl rfl rfl rfl tgz_159 (by decide +kernel) rfl (c_283 σ16 h17 z22) (by decide) (by decide) (fun v25 σ26 h24 => ?_)
    obtain ⟨h27, h28, z30, rfl, h29⟩ := h24
    have h31 := Fr_trans h23 h28 (by decide +kernel)
    refine En_Ps 5 (pc' := 26) (lv' := [(4, .int ((Int32.ofInt 0))), (3, .int ((Int32.ofInt (-1)))), (2, .int z30), (0, .ref 159), (1, .int a)]) (st' := []) rfl ?_
    have key26 : ∀ (n26 : Nat) (σ35 : SG) (y32 : Int32) (y33 : Int32) (y34 : Int32), WT σ35 → Fr [(35, 18), (35, 21), (42, 0), (43, 0), (44, 0), (45, 0), (46, 0)] σ0 σ35 → (σ35 160)[(2 : Int).toNat]? = some (Value.int z2) → 0 ≤ y32.toInt → y32.toInt ≤ 13 → (-1) ≤ y33.toInt → y33.toInt ≤ 50 → 0 ≤ y34.toInt → y34.toInt ≤ 50 → y33.toInt - y34.toInt + 1 ≤ 0 → -y34.toInt + 50 < (n26 : Int) → En 6 136 none mr_243 (P_243 σ0 a) 26 [(0, .ref 159), (1, .int a), (2, .int y32), (3, .int y33), (4, .int y34)] [] σ35 := by
      intro n26
      induction n26 with
      | zero =>
        intro σ35 y32 y33 y34 h36 h37 h38 h39 h40 h41 h42 h43 h44 h45 h46
        first | exact (q_0f6934dca7 h46 h44).elim | (exfalso; omega)
      | succ n26 ih26 =>
        intro σ35 y32 y33 y34 h36 h37 h38 h39 h40 h41 h42 h43 h44 h45 h46
        refine En_Ps 3 (pc' := 30) (lv' := [(0, .ref 159), (1, .int a), (2, .int y32), (3, .int y33), (4, .int y34)]) (st' := [.ref 159, .int ((Int32.ofInt 2)), .int y34]) rfl ?_
        obtain ⟨z48, h47, h49, h50⟩ := WT_peekI h36 tgz_160 (by decide +kernel : FT 36 (0 : Int).toNat = (0, 0, 4)) (by decide +kernel)
        obtain ⟨z52, h51, h53, h54⟩ := WT_peekI h36 tgz_160 (by decide +kernel : FT 36 (7 : Int).toNat = (0, 0, 1600)) (by decide +kernel)
        refine En_callV rfl rfl rfl rfl rfl rfl rfl rfl tgz_159 (by decide +kernel) rfl (c_269 σ35 h36 z48 h47 z52 h51) (by decide) (by decide) (fun v56 σ57 h55 => ?_)
        obtain ⟨h58, h59, z61, rfl, h60⟩ := h55
        have h62 := h60.2.2
        have h63 := Fr_trans h37 h59 (by decide +kernel)
        refine En_Ps 1 (pc' := 34) (lv' := [(0, .ref 159), (1, .int a), (2, .int y32), (3, .int y33), (4, .int y34)]) (st' := [.int ((((Int32.ofInt 2)) * z61)), .int y34]) rfl ?_
        refine En_top (mulI (by decide : (Int32.ofInt 2).toInt = 2) rfl (Z := 2 * z61.toInt) (by first | exact q_9c4c04fc55 | omega) (by first | exact q_36fa9d12a7 h60.1 | omega) (by first | exact q_9941f753b9 h60.2.1 | omega)) (fun z64 h65 => ?_)
        refine En_icGe _ rfl rfl rfl (fun h66 => ?_) (fun h66 => ?_)
        · refine En_Ps 1 (pc' := 78) (lv' := [(0, .ref 159), (1, .int a), (2, .int y32), (3, .int y33), (4, .int y34)]) (st' := [.int y33]) rfl ?_
          exact En_ret (v := some (Value.int y33)) rfl rfl rfl ⟨h58, h63, y33, rfl, ⟨by first | exact q_fe58cd40d0 h41 | omega, by first | exact q_61cf7f4980 h45 h44 | omega⟩⟩
        · refine En_Ps 5 (pc' := 43) (lv' := [(0, .ref 159), (1, .int a), (2, .int y32), (3, .int y33), (4, .int y34)]) (st' := [.int ((Int32.ofInt 2)), .int y34, .int a, .ref 159, .ref 159]) rfl ?_
          refine En_idiv (c := 2) rfl rfl (by decide : (Int32.ofInt 2).toInt = 2) (by (first | exact q_58e6e51dcc h43 | omega)) (by decide) (fun z67 h68 => ?_)
          refine En_Ps 2 (pc' := 47) (lv' := [(0, .ref 159), (1, .int a), (2, .int y32), (3, .int y33), (4, .int y34)]) (st' := [.int ((Int32.ofInt 2)), .int y34, .int z67, .int a, .ref 159, .ref 159]) rfl ?_
          refine En_irem (c := 2) rfl rfl (by decide : (Int32.ofInt 2).toInt = 2) (by (first | exact q_58e6e51dcc h43 | omega)) (by decide) (fun z69 h70 => ?_)
          refine En_callV rfl rfl rfl rfl rfl rfl rfl rfl tgz_159 (by decide +kernel) rfl (c_214 σ57 h58 a z67 z69 (geI rfl (by (first | exact q_bf8258001b h10.2.2.1 h13 h10.1 | omega))) (leI rfl (by (first | exact q_88b0c3c731 h10.2.2.1 h13 h10.1 h4 | omega))) (geI rfl (by first | exact q_5ea82835eb h68 h43 | omega)) (leI rfl (by first | exact q_346e83b918 h68 h66 h65 h60.2.1 | omega)) (geI rfl (by first | exact q_dafedd1c83 h70 | omega)) (leI rfl (by first | exact q_3228505f2f h70 | omega))) (by decide) (by decide) (fun v72 σ73 h71 => ?_)
          obtain ⟨h74, h75, z77, rfl, h76⟩ := h71
          have h78 := Fr_trans h63 h75 (by decide +kernel)
          refine En_callV rfl rfl rfl rfl rfl rfl rfl rfl tgz_159 (by decide +kernel) rfl (c_283 σ73 h74 z77) (by decide) (by decide) (fun v80 σ81 h79 => ?_)
          obtain ⟨h82, h83, z85, rfl, h84⟩ := h79
          have h86 := Fr_trans h78 h83 (by decide +kernel)
          refine En_Ps 3 (pc' := 59) (lv' := [(5, .int z85), (0, .ref 159), (1, .int a), (2, .int y32), (3, .int y33), (4, .int y34)]) (st' := [.int y32, .int z85]) rfl ?_
          refine En_icGt _ rfl rfl rfl (fun h87 => ?_) (fun h87 => ?_)
          · refine En_Ps 5 (pc' := 74) (lv' := [(4, .int ((y34 + Int32.ofInt 1))), (3, .int y34), (2, .int z85), (5, .int z85), (0, .ref 159), (1, .int a)]) (st' := []) rfl ?_
            refine En_lv1 (addI rfl (by decide : (Int32.ofInt 1).toInt = 1) (by first | exact q_465ab79ac1 h43 | omega) (by first | exact q_c4feee4d2e h44 | omega)) (fun z88 h89 => ?_)
            refine En_Ps 1 (pc' := 26) (lv' := [(4, .int z88), (3, .int y34), (2, .int z85), (5, .int z85), (0, .ref 159), (1, .int a)]) (st' := []) rfl ?_
            refine En_lv (lv := [(0, .ref 159), (1, .int a), (2, .int z85), (3, .int y34), (4, .int z88)]) ⟨rfl, rfl, rfl, rfl, rfl, trivial⟩ ?_
            exact ih26 σ81 z85 y34 z88 h82 h86 ((h83 _ _ (inWa tgz_160 (by decide +kernel))).trans ((h75 _ _ (inWa tgz_160 (by decide +kernel))).trans ((h59 _ _ (inWa tgz_160 (by decide +kernel))).trans h38))) (by first | exact q_ef1e8e38bf h84.1 | omega) (by first | exact q_41996583c2 h84.2 | omega) (by first | exact q_5b439548fc h43 | omega) (by first | exact q_2eaa18fab1 h44 | omega) (by first | exact q_35104ce9d3 h89 h43 | omega) (by first | exact q_7ba38ea167 h89 h66 h65 h60.2.1 | omega) (by first | exact q_2fedec469a h89 | omega) (by first | exact q_fc5bfd9d02 h89 h46 | omega)
          · refine En_Ps 2 (pc' := 74) (lv' := [(4, .int ((y34 + Int32.ofInt 1))), (5, .int z85), (0, .ref 159), (1, .int a), (2, .int y32), (3, .int y33)]) (st' := []) rfl ?_
            refine En_lv1 (addI rfl (by decide : (Int32.ofInt 1).toInt = 1) (by first | exact q_465ab79ac1 h43 | omega) (by first | exact q_c4feee4d2e h44 | omega)) (fun z90 h91 => ?_)
            refine En_Ps 1 (pc' := 26) (lv' := [(4, .int z90), (5, .int z85), (0, .ref 159), (1, .int a), (2, .int y32), (3, .int y33)]) (st' := []) rfl ?_
            refine En_lv (lv := [(0, .ref 159), (1, .int a), (2, .int y32), (3, .int y33), (4, .int z90)]) ⟨rfl, rfl, rfl, rfl, rfl, trivial⟩ ?_
            exact ih26 σ81 y32 y33 z90 h82 h86 ((h83 _ _ (inWa tgz_160 (by decide +kernel))).trans ((h75 _ _ (inWa tgz_160 (by decide +kernel))).trans ((h59 _ _ (inWa tgz_160 (by decide +kernel))).trans h38))) (by first | exact q_58e6e51dcc h39 | omega) (by first | exact q_7991346fe8 h40 | omega) (by first | exact q_77b189e83d h41 | omega) (by first | exact q_2eaa18fab1 h42 | omega) (by first | exact q_35104ce9d3 h91 h43 | omega) (by first | exact q_7ba38ea167 h91 h66 h65 h60.2.1 | omega) (by first | exact q_6591527e3e h45 h91 | omega) (by first | exact q_fc5bfd9d02 h91 h46 | omega)
    have := (by decide : (Int32.ofInt (-1)).toInt = -1)
    have := (by decide : (Int32.ofInt 0).toInt = 0)
    refine En_lv (lv := [(0, .ref 159), (1, .int a), (2, .int z30), (3, .int ((Int32.ofInt (-1)))), (4, .int ((Int32.ofInt 0)))]) ⟨rfl, rfl, rfl, rfl, rfl, trivial⟩ ?_
    exact key26 (Int.toNat (50) + 1) σ26 z30 ((Int32.ofInt (-1))) ((Int32.ofInt 0)) h27 h31 ((h28 _ _ (inWa tgz_160 (by decide +kernel))).trans ((h18 _ _ (inWa tgz_160 (by decide +kernel))).trans ((h9 _ _ (inWa tgz_160 (by decide +kernel))).trans h1))) (by first | exact q_ef1e8e38bf h29.1 | omega) (by first | exact q_41996583c2 h29.2 | omega) (by decide) (by decide) (by decide) (by decide) (by (first | exact q_2e3352c2b4 this (by decide) | omega)) (by first | exact toN_lt _ | omega)
  · refine En_Ps 1 (pc' := 10) (lv' := [(0, .ref 159), (1, .int a)]) (st' := [.int (((Int8.ofInt (-2)).toInt32))]) rfl ?_
    refine En_top (by decide : ((Int8.ofInt (-2)).toInt32).toInt = -2) (fun z92 h93 => ?_)
    exact En_ret (v := some (Value.int z92)) rfl rfl rfl ⟨h8, h12, z92, rfl, ⟨by first | exact q_f35c5d346c h93 | omega, by first | exact q_2e1fc29cd6 h93 | omega⟩⟩
/-- DoorSchoolModel.house(II)I -/
abbrev P_245 (σ0 : SG) (a : Int32) (b : Int32) : PO := fun v σ => WT σ ∧ Fr [] σ0 σ ∧ ∃ ret : Int32, v = some (Value.int ret) ∧ True
set_option maxRecDepth 10000 in
set_option maxHeartbeats 4000000 in
theorem c_245 (σ0 : SG) (hσ0 : WT σ0) (a : Int32) (b : Int32) : En 3 64 none mr_245 (P_245 σ0 a b) 0 [(0, .ref 159), (1, .int a), (2, .int b)] [] σ0 := by
  have hF0 : Fr [] σ0 σ0 := Fr_rfl
  refine En_Ps 1 (pc' := 1) (lv' := [(0, .ref 159), (1, .int a), (2, .int b)]) (st' := [.ref 159]) rfl ?_
  obtain ⟨z2, h1, h3, h4⟩ := WT_peekI hσ0 tgz_160 (by decide +kernel : FT 36 (7 : Int).toNat = (0, 0, 1600)) (by decide +kernel)
  refine En_callV rfl rfl rfl rfl rfl rfl rfl rfl tgz_159 (by decide +kernel) rfl (c_264 σ0 hσ0 z2 h1) (by decide) (by decide) (fun v6 σ7 h5 => ?_)
  obtain ⟨h8, h9, z11, rfl, h10⟩ := h5
  have h12 := Fr_trans hF0 h9 (by decide +kernel)
  refine En_iEq _ rfl rfl (fun h13 => ?_) (fun h13 => ?_)
  · refine En_Ps 1 (pc' := 34) (lv' := [(0, .ref 159), (1, .int a), (2, .int b)]) (st' := [.int (((Int8.ofInt (-2)).toInt32))]) rfl ?_
    refine En_top (by decide : ((Int8.ofInt (-2)).toInt32).toInt = -2) (fun z14 h15 => ?_)
    exact En_ret (v := some (Value.int z14)) rfl rfl rfl ⟨h8, h12, z14, rfl, trivial⟩
  · refine En_Ps 2 (pc' := 9) (lv' := [(0, .ref 159), (1, .int a), (2, .int b)]) (st' := [.int ((Int32.ofInt (-1))), .int a]) rfl ?_
    refine En_icEq _ rfl (by decide : (Int32.ofInt (-1)).toInt = -1) rfl (fun h16 => ?_) (fun h16 => ?_)
    · refine En_Ps 4 (pc' := 26) (lv' := [(0, .ref 159), (1, .int a), (2, .int b)]) (st' := [.long ((2 : Int64)), .long ((Int64.ofNat 0)), .long b.toInt64]) rfl ?_
      have : b.toInt64.toInt = b.toInt := (i2lI rfl)
      have := (by decide : ((Int64.ofNat 0)).toInt = 0)
      have := (by decide : ((2 : Int64)).toInt = 2)
      refine En_callS rfl rfl rfl rfl rfl rfl rfl rfl rfl (c_249 σ7 h8 b.toInt64 ((Int64.ofNat 0)) ((2 : Int64))) (by decide) (by decide) (fun v18 σ19 h17 => ?_)
      obtain ⟨h20, h21, z23, rfl, h22⟩ := h17
      have h24 := Fr_trans h12 h21 (by decide +kernel)
      refine En_iNe _ rfl rfl (fun h25 => ?_) (fun h25 => ?_)
      · refine En_Ps 2 (pc' := 37) (lv' := [(0, .ref 159), (1, .int a), (2, .int b)]) (st' := [.int ((Int32.ofInt (-1))), .int a]) rfl ?_
        refine En_icNe _ rfl (by decide : (Int32.ofInt (-1)).toInt = -1) rfl (fun hx => by first | exact (q_9d3c087e80 hx h16).elim | (exfalso; omega)) (fun h26 => ?_)
        refine En_Ps 5 (pc' := 55) (lv' := [(3, .int (((Int8.ofInt 8).toInt32))), (0, .ref 159), (1, .int a), (2, .int b)]) (st' := [.int ((Int32.ofInt 2)), .int b]) rfl ?_
        refine En_icGe _ rfl (by decide : (Int32.ofInt 2).toInt = 2) rfl (fun h27 => ?_) (fun h27 => ?_)
        · refine En_Ps 2 (pc' := 71) (lv' := [(3, .int (((Int8.ofInt 8).toInt32))), (0, .ref 159), (1, .int a), (2, .int b)]) (st' := [.ref 159, .ref 159]) rfl ?_
          refine En_getU (j := 1) (u := 160) (g' := 36) (q := 0) rfl rfl rfl tgz_159 (by decide +kernel) h20 (by decide +kernel) un_36_160 (fun h28 => ?_)
          refine En_Ps 1 (pc' := 75) (lv' := [(3, .int (((Int8.ofInt 8).toInt32))), (0, .ref 159), (1, .int a), (2, .int b)]) (st' := [.int (((Int8.ofInt 8).toInt32)), .ref 160, .ref 159]) rfl ?_
          refine En_iald (l := 0) (u := 15) rfl (by decide : ((Int8.ofInt 8).toInt32).toInt = 8) tgz_160 (by decide +kernel) h20 (by decide) (lnI (by decide +kernel : LN _ = 226) (by decide)) (by decide +kernel) (fun z31 h30 h32 h33 => ?_)
          refine En_Ps 1 (pc' := 77) (lv' := [(3, .int (((Int8.ofInt 8).toInt32))), (0, .ref 159), (1, .int a), (2, .int b)]) (st' := [.ref 159, .int z31, .ref 159]) rfl ?_
          refine En_getK (j := 1) h28 rfl rfl rfl tgz_159 (by decide +kernel) ?_
          refine En_Ps 3 (pc' := 83) (lv' := [(3, .int (((Int8.ofInt 8).toInt32))), (0, .ref 159), (1, .int a), (2, .int b)]) (st' := [.int (((((Int8.ofInt 8).toInt32)) + ((Int32.ofInt 1)))), .ref 160, .int z31, .ref 159]) rfl ?_
          refine En_top (addI (by decide : ((Int8.ofInt 8).toInt32).toInt = 8) (by decide : (Int32.ofInt 1).toInt = 1) (by decide) (by decide)) (fun z34 h35 => ?_)
          refine En_iald (l := 0) (u := 15) rfl rfl tgz_160 (by decide +kernel) h20 (by first | exact q_e810ca3f33 h35 | omega) (lnI (by decide +kernel : LN _ = 226) (by first | exact q_1887788718 h35 | omega)) (FTrow 36 9 1 1 (by decide +kernel) (by first | exact q_6d8f5396ba h35 | omega) (by first | exact q_c1d3cf08d0 h35 | omega) (by first | exact q_a62048a674 | omega)) (fun z37 h36 h38 h39 => ?_)
          refine En_callV rfl rfl rfl rfl rfl rfl rfl rfl tgz_159 (by decide +kernel) rfl (c_212 σ19 h20 z31 z37) (by decide) (by decide) (fun v41 σ42 h40 => ?_)
          obtain ⟨h43, h44, z46, rfl, h45⟩ := h40
          have h47 := Fr_trans h24 h44 (by decide +kernel)
          refine En_callS rfl rfl rfl rfl rfl rfl rfl rfl rfl (c_203b σ42 h43 z46) (by decide) (by decide) (fun v49 σ50 h48 => ?_)
          obtain ⟨h51, h52, z54, rfl, h53⟩ := h48
          have h55 := Fr_trans h47 h52 (by decide +kernel)
          exact En_ret (v := some (Value.int z54)) rfl rfl rfl ⟨h51, h55, z54, rfl, trivial⟩
        · refine En_Ps 1 (pc' := 59) (lv' := [(3, .int (((Int8.ofInt 8).toInt32))), (0, .ref 159), (1, .int a), (2, .int b)]) (st' := [.ref 159]) rfl ?_
          refine En_getU (j := 1) (u := 160) (g' := 36) (q := 0) rfl rfl rfl tgz_159 (by decide +kernel) h20 (by decide +kernel) un_36_160 (fun h56 => ?_)
          refine En_Ps 3 (pc' := 65) (lv' := [(3, .int (((Int8.ofInt 8).toInt32))), (0, .ref 159), (1, .int a), (2, .int b)]) (st' := [.int (((((Int8.ofInt 8).toInt32)) + b)), .ref 160]) rfl ?_
          refine En_top (addI (by decide : ((Int8.ofInt 8).toInt32).toInt = 8) rfl (by (first | exact q_0c146f7333 (i2lI rfl) h22.2.2.1 h25 h22.1 (by decide) | omega)) (by first | exact q_5dcc2bfcf0 h27 | omega)) (fun z58 h59 => ?_)
          refine En_iald (l := 0) (u := 15) rfl rfl tgz_160 (by decide +kernel) h20 (by (first | exact q_70590b0d5b h59 (i2lI rfl) h22.2.2.1 h25 h22.1 (by decide) | omega)) (lnI (by decide +kernel : LN _ = 226) (by first | exact q_d97e9f540b h59 h27 | omega)) (FTrow 36 8 1 2 (by decide +kernel) (by (first | exact q_d45ae1b90a h59 (i2lI rfl) h22.2.2.1 h25 h22.1 (by decide) | omega)) (by first | exact q_d0029cda06 h59 h27 | omega) (by first | exact q_ca509d6b00 | omega)) (fun z61 h60 h62 h63 => ?_)
          refine En_Ps 1 (pc' := 90) (lv' := [(3, .int (((Int8.ofInt 8).toInt32))), (0, .ref 159), (1, .int a), (2, .int b)]) (st' := [.int z61]) rfl ?_
          exact En_ret (v := some (Value.int z61)) rfl rfl rfl ⟨h20, h24, z61, rfl, trivial⟩
      · refine En_Ps 1 (pc' := 34) (lv' := [(0, .ref 159), (1, .int a), (2, .int b)]) (st' := [.int (((Int8.ofInt (-2)).toInt32))]) rfl ?_
        refine En_top (by decide : ((Int8.ofInt (-2)).toInt32).toInt = -2) (fun z64 h65 => ?_)
        exact En_ret (v := some (Value.int z64)) rfl rfl rfl ⟨h20, h24, z64, rfl, trivial⟩
    · refine En_Ps 2 (pc' := 14) (lv' := [(0, .ref 159), (1, .int a), (2, .int b)]) (st' := [.int a, .ref 159]) rfl ?_
      refine En_callV rfl rfl rfl rfl rfl rfl rfl rfl tgz_159 (by decide +kernel) rfl (c_258 σ7 h8 a) (by decide) (by decide) (fun v67 σ68 h66 => ?_)
      obtain ⟨h69, h70, z72, rfl, h71⟩ := h66
      have h73 := Fr_trans h12 h70 (by decide +kernel)
      refine En_iEq _ rfl rfl (fun h74 => ?_) (fun h74 => ?_)
      · refine En_Ps 1 (pc' := 34) (lv' := [(0, .ref 159), (1, .int a), (2, .int b)]) (st' := [.int (((Int8.ofInt (-2)).toInt32))]) rfl ?_
        refine En_top (by decide : ((Int8.ofInt (-2)).toInt32).toInt = -2) (fun z75 h76 => ?_)
        exact En_ret (v := some (Value.int z75)) rfl rfl rfl ⟨h69, h73, z75, rfl, trivial⟩
      · refine En_Ps 4 (pc' := 26) (lv' := [(0, .ref 159), (1, .int a), (2, .int b)]) (st' := [.long ((2 : Int64)), .long ((Int64.ofNat 0)), .long b.toInt64]) rfl ?_
        have : b.toInt64.toInt = b.toInt := (i2lI rfl)
        have := (by decide : ((Int64.ofNat 0)).toInt = 0)
        have := (by decide : ((2 : Int64)).toInt = 2)
        refine En_callS rfl rfl rfl rfl rfl rfl rfl rfl rfl (c_249 σ68 h69 b.toInt64 ((Int64.ofNat 0)) ((2 : Int64))) (by decide) (by decide) (fun v78 σ79 h77 => ?_)
        obtain ⟨h80, h81, z83, rfl, h82⟩ := h77
        have h84 := Fr_trans h73 h81 (by decide +kernel)
        refine En_iNe _ rfl rfl (fun h85 => ?_) (fun h85 => ?_)
        · refine En_Ps 2 (pc' := 37) (lv' := [(0, .ref 159), (1, .int a), (2, .int b)]) (st' := [.int ((Int32.ofInt (-1))), .int a]) rfl ?_
          refine En_icNe _ rfl (by decide : (Int32.ofInt (-1)).toInt = -1) rfl (fun h86 => ?_) (fun hx => by exfalso; (first | exact q_73fc1472d8 h71.2.2 h71.2.1 h74 h71.1 hx | omega))
          refine En_Ps 4 (pc' := 51) (lv' := [(0, .ref 159), (1, .int a), (2, .int b)]) (st' := [.int ((((Int32.ofInt 2)) * a)), .int (((Int16.ofInt 146).toInt32))]) rfl ?_
          refine En_top (mulI (by decide : (Int32.ofInt 2).toInt = 2) rfl (Z := 2 * a.toInt) (by first | exact q_9c4c04fc55 | omega) (by (first | exact q_5453423f38 h86 h71.2.2 h71.2.1 h74 h71.1 | omega)) (by (first | exact q_d2789cf037 h71.2.2 h71.2.1 h74 h71.1 | omega))) (fun z87 h88 => ?_)
          refine En_Ps 1 (pc' := 52) (lv' := [(0, .ref 159), (1, .int a), (2, .int b)]) (st' := [.int (((((Int16.ofInt 146).toInt32)) + z87))]) rfl ?_
          refine En_top (addI (by decide : ((Int16.ofInt 146).toInt32).toInt = 146) rfl (by (first | exact q_347de53243 h88 h71.2.2 h71.2.1 h74 h71.1 | omega)) (by (first | exact q_ca9fb9b018 h88 h71.2.2 h71.2.1 h74 h71.1 | omega))) (fun z89 h90 => ?_)
          refine En_Ps 3 (pc' := 55) (lv' := [(3, .int z89), (0, .ref 159), (1, .int a), (2, .int b)]) (st' := [.int ((Int32.ofInt 2)), .int b]) rfl ?_
          refine En_icGe _ rfl (by decide : (Int32.ofInt 2).toInt = 2) rfl (fun h91 => ?_) (fun h91 => ?_)
          · refine En_Ps 2 (pc' := 71) (lv' := [(3, .int z89), (0, .ref 159), (1, .int a), (2, .int b)]) (st' := [.ref 159, .ref 159]) rfl ?_
            refine En_getU (j := 1) (u := 160) (g' := 36) (q := 0) rfl rfl rfl tgz_159 (by decide +kernel) h80 (by decide +kernel) un_36_160 (fun h92 => ?_)
            refine En_Ps 1 (pc' := 75) (lv' := [(3, .int z89), (0, .ref 159), (1, .int a), (2, .int b)]) (st' := [.int z89, .ref 160, .ref 159]) rfl ?_
            refine En_iald (l := 0) (u := 15) rfl rfl tgz_160 (by decide +kernel) h80 (by (first | exact q_579b494c32 h90 h88 h71.2.2 h71.2.1 h74 h71.1 | omega)) (lnI (by decide +kernel : LN _ = 226) (by (first | exact q_1ac698f6cd h90 h88 h71.2.2 h71.2.1 h74 h71.1 | omega))) (FTrow 36 146 2 4 (by decide +kernel) (by (first | exact q_09b5bc8dcc h90 h88 h71.2.2 h71.2.1 h74 h71.1 | omega)) (by (first | exact q_54b39b184e h90 h88 h71.2.2 h71.2.1 h74 h71.1 | omega)) (by first | exact q_d64200d76f h88 h90 | omega)) (fun z95 h94 h96 h97 => ?_)
            refine En_Ps 1 (pc' := 77) (lv' := [(3, .int z89), (0, .ref 159), (1, .int a), (2, .int b)]) (st' := [.ref 159, .int z95, .ref 159]) rfl ?_
            refine En_getK (j := 1) h92 rfl rfl rfl tgz_159 (by decide +kernel) ?_
            refine En_Ps 3 (pc' := 83) (lv' := [(3, .int z89), (0, .ref 159), (1, .int a), (2, .int b)]) (st' := [.int ((z89 + ((Int32.ofInt 1)))), .ref 160, .int z95, .ref 159]) rfl ?_
            refine En_top (addI rfl (by decide : (Int32.ofInt 1).toInt = 1) (by (first | exact q_aa4c458ae9 h90 h88 h71.2.2 h71.2.1 h74 h71.1 | omega)) (by (first | exact q_86c4b36c2a h90 h88 h71.2.2 h71.2.1 h74 h71.1 | omega))) (fun z98 h99 => ?_)
            refine En_iald (l := 0) (u := 15) rfl rfl tgz_160 (by decide +kernel) h80 (by (first | exact q_3137f006a4 h99 h90 h88 h71.2.2 h71.2.1 h74 h71.1 | omega)) (lnI (by decide +kernel : LN _ = 226) (by (first | exact q_36dbfa9018 h99 h90 h88 h71.2.2 h71.2.1 h74 h71.1 | omega))) (FTrow 36 147 2 4 (by decide +kernel) (by (first | exact q_2cefc604b3 h99 h90 h88 h71.2.2 h71.2.1 h74 h71.1 | omega)) (by (first | exact q_2647efcaa7 h99 h90 h88 h71.2.2 h71.2.1 h74 h71.1 | omega)) (by first | exact q_19339a33a0 h88 h90 h99 | omega)) (fun z101 h100 h102 h103 => ?_)
            refine En_callV rfl rfl rfl rfl rfl rfl rfl rfl tgz_159 (by decide +kernel) rfl (c_212 σ79 h80 z95 z101) (by decide) (by decide) (fun v105 σ106 h104 => ?_)
            obtain ⟨h107, h108, z110, rfl, h109⟩ := h104
            have h111 := Fr_trans h84 h108 (by decide +kernel)
            refine En_callS rfl rfl rfl rfl rfl rfl rfl rfl rfl (c_203b σ106 h107 z110) (by decide) (by decide) (fun v113 σ114 h112 => ?_)
            obtain ⟨h115, h116, z118, rfl, h117⟩ := h112
            have h119 := Fr_trans h111 h116 (by decide +kernel)
            exact En_ret (v := some (Value.int z118)) rfl rfl rfl ⟨h115, h119, z118, rfl, trivial⟩
          · refine En_Ps 1 (pc' := 59) (lv' := [(3, .int z89), (0, .ref 159), (1, .int a), (2, .int b)]) (st' := [.ref 159]) rfl ?_
            refine En_getU (j := 1) (u := 160) (g' := 36) (q := 0) rfl rfl rfl tgz_159 (by decide +kernel) h80 (by decide +kernel) un_36_160 (fun h120 => ?_)
            refine En_Ps 3 (pc' := 65) (lv' := [(3, .int z89), (0, .ref 159), (1, .int a), (2, .int b)]) (st' := [.int ((z89 + b)), .ref 160]) rfl ?_
            refine En_top (addI rfl rfl (by omega) (by (first | exact q_291357bd9b h91 h90 h88 h71.2.2 h71.2.1 h74 h71.1 | omega))) (fun z122 h123 => ?_)
            refine En_iald (l := 0) (u := 15) rfl rfl tgz_160 (by decide +kernel) h80 (by omega) (lnI (by decide +kernel : LN _ = 226) (by (first | exact q_789265a8af h123 h91 h90 h88 h71.2.2 h71.2.1 h74 h71.1 | omega))) (FTrow 36 146 1 8 (by decide +kernel) (by omega) (by (first | exact q_1c4267bcef h123 h91 h90 h88 h71.2.2 h71.2.1 h74 h71.1 | omega)) (by first | exact q_923275ae08 | omega)) (fun z125 h124 h126 h127 => ?_)
            refine En_Ps 1 (pc' := 90) (lv' := [(3, .int z89), (0, .ref 159), (1, .int a), (2, .int b)]) (st' := [.int z125]) rfl ?_
            exact En_ret (v := some (Value.int z125)) rfl rfl rfl ⟨h80, h84, z125, rfl, trivial⟩
        · refine En_Ps 1 (pc' := 34) (lv' := [(0, .ref 159), (1, .int a), (2, .int b)]) (st' := [.int (((Int8.ofInt (-2)).toInt32))]) rfl ?_
          refine En_top (by decide : ((Int8.ofInt (-2)).toInt32).toInt = -2) (fun z128 h129 => ?_)
          exact En_ret (v := some (Value.int z128)) rfl rfl rfl ⟨h80, h84, z128, rfl, trivial⟩
/-- DoorSchoolModel.idle(I)I -/
abbrev P_247 (σ0 : SG) (a : Int32) : PO := fun v σ => WT σ ∧ Fr [(35, 18), (35, 21), (42, 0), (43, 0), (44, 0), (45, 0), (46, 0)] σ0 σ ∧ ∃ ret : Int32, v = some (Value.int ret) ∧ -ret.toInt - 2 ≤ 0 ∧ ret.toInt - 65535 ≤ 0
set_option maxRecDepth 10000 in
set_option maxHeartbeats 4000000 in
theorem c_247 (σ0 : SG) (hσ0 : WT σ0) (a : Int32) : En 5 114 none mr_247 (P_247 σ0 a) 0 [(0, .ref 159), (1, .int a)] [] σ0 := by
  have hF0 : Fr [(35, 18), (35, 21), (42, 0), (43, 0), (44, 0), (45, 0), (46, 0)] σ0 σ0 := Fr_rfl
  refine En_Ps 2 (pc' := 2) (lv' := [(0, .ref 159), (1, .int a)]) (st' := [.int a, .ref 159]) rfl ?_
  obtain ⟨z2, h1, h3, h4⟩ := WT_peekI hσ0 tgz_160 (by decide +kernel : FT 36 (2 : Int).toNat = (0, 0, 4)) (by decide +kernel)
  refine En_callV rfl rfl rfl rfl rfl rfl rfl rfl tgz_159 (by decide +kernel) rfl (c_254 σ0 hσ0 a z2 h1) (by decide) (by decide) (fun v6 σ7 h5 => ?_)
  obtain ⟨h8, h9, z11, rfl, h10⟩ := h5
  have h12 := Fr_trans hF0 h9 (by decide +kernel)
  refine En_iNe _ rfl rfl (fun h13 => ?_) (fun h13 => ?_)
  · refine En_Ps 2 (pc' := 13) (lv' := [(0, .ref 159), (1, .int a)]) (st' := [.int a, .ref 159]) rfl ?_
    refine En_callV rfl rfl rfl rfl rfl rfl rfl rfl tgz_159 (by decide +kernel) rfl (c_213 σ7 h8 a (geI rfl (by (first | exact q_bf8258001b h10.2.2.1 h13 h10.1 | omega))) (leI rfl (by (first | exact q_88b0c3c731 h10.2.2.1 h13 h10.1 h4 | omega)))) (by decide) (by decide) (fun v15 σ16 h14 => ?_)
    obtain ⟨h17, h18, z20, h21, z22, rfl, h19⟩ := h14
    have h23 := Fr_trans h12 h18 (by decide +kernel)
    refine En_Ps 5 (pc' := 22) (lv' := [(4, .int ((Int32.ofInt 0))), (3, .int ((Int32.ofInt 0))), (2, .int z22), (0, .ref 159), (1, .int a)]) (st' := []) rfl ?_
    have key22 : ∀ (n22 : Nat) (σ26 : SG) (y24 : Int32) (y25 : Int32), WT σ26 → Fr [(35, 18), (35, 21), (42, 0), (43, 0), (44, 0), (45, 0), (46, 0)] σ0 σ26 → (σ26 160)[(2 : Int).toNat]? = some (Value.int z2) → 0 ≤ y24.toInt → y24.toInt ≤ 65535 → 0 ≤ y25.toInt → y25.toInt ≤ 13 → -y25.toInt + 13 < (n22 : Int) → En 5 114 none mr_247 (P_247 σ0 a) 22 [(0, .ref 159), (1, .int a), (2, .int z22), (3, .int y24), (4, .int y25)] [] σ26 := by
      intro n22
      induction n22 with
      | zero =>
        intro σ26 y24 y25 h27 h28 h29 h30 h31 h32 h33 h34
        first | exact (q_5583ec5aac h34 h33).elim | (exfalso; omega)
      | succ n22 ih22 =>
        intro σ26 y24 y25 h27 h28 h29 h30 h31 h32 h33 h34
        refine En_Ps 4 (pc' := 27) (lv' := [(0, .ref 159), (1, .int a), (2, .int z22), (3, .int y24), (4, .int y25)]) (st' := [.int ((Int32.ofInt 2)), .int a, .ref 159, .int y25]) rfl ?_
        have := (by decide : ((Int32.ofInt 2)).toInt = 2)
        obtain ⟨z35, h36, h37, h38⟩ := WT_peekJ (J := (4 * a.toInt + ((Int32.ofInt 2)).toInt + 10)) (l := 0) (u := 12) h27 tgz_160 (by decide +kernel) (by (first | exact q_8c91a107f3 this h10.2.2.1 h13 h10.1 | omega)) (lnI (by decide +kernel : LN _ = 226) (by (first | exact q_8782e16cf0 this h10.2.2.2.2 h10.2.1 h13 h10.1 | omega))) (FTrow 36 12 4 4 (by decide +kernel) (by (first | exact q_1f09e22d0e this h10.2.2.1 h13 h10.1 | omega)) (by (first | exact q_adcac83064 this h10.2.2.2.2 h10.2.1 h13 h10.1 | omega)) (by omega))
        have := (by decide : ((Int32.ofInt 2)).toInt = 2)
        refine En_callV rfl rfl rfl rfl rfl rfl rfl rfl tgz_159 (by decide +kernel) rfl (c_290c σ26 h27 a ((Int32.ofInt 2)) (geI rfl (by (first | exact q_bf8258001b h10.2.2.1 h13 h10.1 | omega))) (leI rfl (by (first | exact q_88b0c3c731 h10.2.2.1 h13 h10.1 h4 | omega))) (geI (by decide : (Int32.ofInt 2).toInt = 2) (by decide)) (leI (by decide : (Int32.ofInt 2).toInt = 2) (by decide)) z35 h36) (by decide) (by decide) (fun v40 σ41 h39 => ?_)
        obtain ⟨h42, h43, z45, rfl, h44⟩ := h39
        have h46 := Fr_trans h28 h43 (by decide +kernel)
        refine En_icGe _ rfl rfl rfl (fun h47 => ?_) (fun h47 => ?_)
        · refine En_Ps 1 (pc' := 71) (lv' := [(0, .ref 159), (1, .int a), (2, .int z22), (3, .int y24), (4, .int y25)]) (st' := [.int y24]) rfl ?_
          exact En_ret (v := some (Value.int y24)) rfl rfl rfl ⟨h42, h46, y24, rfl, ⟨by first | exact q_ea7f0ffdb1 h30 | omega, by first | exact q_e7edf0f95a h31 | omega⟩⟩
        · refine En_Ps 3 (pc' := 36) (lv' := [(0, .ref 159), (1, .int a), (2, .int z22), (3, .int y24), (4, .int y25)]) (st' := [.int a, .ref 159, .int y24]) rfl ?_
          refine En_callV rfl rfl rfl rfl rfl rfl rfl rfl tgz_159 (by decide +kernel) rfl (c_305 σ41 h42 a (geI rfl (by (first | exact q_bf8258001b h10.2.2.1 h13 h10.1 | omega))) (leI rfl (by (first | exact q_88b0c3c731 h10.2.2.1 h13 h10.1 h4 | omega)))) (by decide) (by decide) (fun v49 σ50 h48 => ?_)
          obtain ⟨h51, h52, z54, rfl, h53⟩ := h48
          have h55 := Fr_trans h46 h52 (by decide +kernel)
          refine En_Ps 1 (pc' := 40) (lv' := [(0, .ref 159), (1, .int a), (2, .int z22), (3, .int y24), (4, .int y25)]) (st' := [.int a, .int z54, .int y24]) rfl ?_
          refine En_icNe _ rfl rfl rfl (fun h56 => ?_) (fun h56 => ?_)
          · refine En_Ps 3 (pc' := 58) (lv' := [(0, .ref 159), (1, .int a), (2, .int z22), (3, .int y24), (4, .int y25)]) (st' := [.int ((((Int32.ofInt 1)) <<< (y25 &&& 31))), .int y24]) rfl ?_
            refine En_rng (shl1_p 11 rfl (by (first | exact q_58e6e51dcc h32 | omega)) (by (first | exact q_74e14b349d h47 h44.2.1 | omega)) (by decide)) (fun z57 h58 h59 => ?_)
            refine En_Ps 2 (pc' := 63) (lv' := [(0, .ref 159), (1, .int a), (2, .int z22), (3, .int y24), (4, .int y25)]) (st' := [.int ((y24 ||| z57))]) rfl ?_
            refine En_rng (l := 0) (u := 65535) (or_rng 16 rfl rfl (by (first | exact q_58e6e51dcc h30 | omega)) (by omega) (by (first | exact q_337a85e294 h58 | omega)) (by omega) (by decide)) (fun z60 h61 h62 => ?_)
            refine En_Ps 2 (pc' := 67) (lv' := [(4, .int ((y25 + Int32.ofInt 1))), (3, .int z60), (0, .ref 159), (1, .int a), (2, .int z22)]) (st' := []) rfl ?_
            refine En_lv1 (addI rfl (by decide : (Int32.ofInt 1).toInt = 1) (by first | exact q_465ab79ac1 h32 | omega) (by first | exact q_d22f73d43b h33 | omega)) (fun z63 h64 => ?_)
            refine En_Ps 1 (pc' := 22) (lv' := [(4, .int z63), (3, .int z60), (0, .ref 159), (1, .int a), (2, .int z22)]) (st' := []) rfl ?_
            refine En_lv (lv := [(0, .ref 159), (1, .int a), (2, .int z22), (3, .int z60), (4, .int z63)]) ⟨rfl, rfl, rfl, rfl, rfl, trivial⟩ ?_
            exact ih22 σ50 z60 z63 h51 h55 ((h52 _ _ (inWa tgz_160 (by decide +kernel))).trans ((h43 _ _ (inWa tgz_160 (by decide +kernel))).trans h29)) (by first | exact q_58e6e51dcc h61 | omega) (by first | exact q_36eb0a70bf h62 | omega) (by first | exact q_35104ce9d3 h64 h32 | omega) (by first | exact q_54f15c7756 h64 h47 h44.2.1 | omega) (by first | exact q_20fedeb4b2 h64 h34 | omega)
          · refine En_Ps 3 (pc' := 47) (lv' := [(0, .ref 159), (1, .int a), (2, .int z22), (3, .int y24), (4, .int y25)]) (st' := [.int y25, .int a, .ref 159, .int y24]) rfl ?_
            refine En_callV rfl rfl rfl rfl rfl rfl rfl rfl tgz_159 (by decide +kernel) rfl (c_215 σ50 h51 a y25 (geI rfl (by first | exact q_bb72464225 h56 h53.1 | omega)) (leI rfl (by first | exact q_f7ffa9ffb4 h56 h53.2 | omega))) (by decide) (by decide) (fun v66 σ67 h65 => ?_)
            obtain ⟨h68, h69, z71, rfl, h70⟩ := h65
            have h72 := Fr_trans h55 h69 (by decide +kernel)
            refine En_Ps 1 (pc' := 51) (lv' := [(0, .ref 159), (1, .int a), (2, .int z22), (3, .int y24), (4, .int y25)]) (st' := [.int z22, .int z71, .int y24]) rfl ?_
            refine En_icNe _ rfl rfl rfl (fun h73 => ?_) (fun h73 => ?_)
            · refine En_Ps 2 (pc' := 63) (lv' := [(0, .ref 159), (1, .int a), (2, .int z22), (3, .int y24), (4, .int y25)]) (st' := [.int ((y24 ||| ((Int32.ofInt 0))))]) rfl ?_
              refine En_rng (l := 0) (u := 65535) (or_rng 16 rfl (by decide : (Int32.ofInt 0).toInt = 0) (by (first | exact q_58e6e51dcc h30 | omega)) (by omega) (by (first | decide | omega)) (by omega) (by decide)) (fun z74 h75 h76 => ?_)
              refine En_Ps 2 (pc' := 67) (lv' := [(4, .int ((y25 + Int32.ofInt 1))), (3, .int z74), (0, .ref 159), (1, .int a), (2, .int z22)]) (st' := []) rfl ?_
              refine En_lv1 (addI rfl (by decide : (Int32.ofInt 1).toInt = 1) (by first | exact q_465ab79ac1 h32 | omega) (by first | exact q_d22f73d43b h33 | omega)) (fun z77 h78 => ?_)
              refine En_Ps 1 (pc' := 22) (lv' := [(4, .int z77), (3, .int z74), (0, .ref 159), (1, .int a), (2, .int z22)]) (st' := []) rfl ?_
              refine En_lv (lv := [(0, .ref 159), (1, .int a), (2, .int z22), (3, .int z74), (4, .int z77)]) ⟨rfl, rfl, rfl, rfl, rfl, trivial⟩ ?_
              exact ih22 σ67 z74 z77 h68 h72 ((h69 _ _ (inWa tgz_160 (by decide +kernel))).trans ((h52 _ _ (inWa tgz_160 (by decide +kernel))).trans ((h43 _ _ (inWa tgz_160 (by decide +kernel))).trans h29))) (by first | exact q_58e6e51dcc h75 | omega) (by first | exact q_36eb0a70bf h76 | omega) (by first | exact q_35104ce9d3 h78 h32 | omega) (by first | exact q_54f15c7756 h78 h47 h44.2.1 | omega) (by first | exact q_20fedeb4b2 h78 h34 | omega)
            · refine En_Ps 3 (pc' := 58) (lv' := [(0, .ref 159), (1, .int a), (2, .int z22), (3, .int y24), (4, .int y25)]) (st' := [.int ((((Int32.ofInt 1)) <<< (y25 &&& 31))), .int y24]) rfl ?_
              refine En_rng (shl1_p 11 rfl (by (first | exact q_58e6e51dcc h32 | omega)) (by (first | exact q_74e14b349d h47 h44.2.1 | omega)) (by decide)) (fun z79 h80 h81 => ?_)
              refine En_Ps 2 (pc' := 63) (lv' := [(0, .ref 159), (1, .int a), (2, .int z22), (3, .int y24), (4, .int y25)]) (st' := [.int ((y24 ||| z79))]) rfl ?_
              refine En_rng (l := 0) (u := 65535) (or_rng 16 rfl rfl (by (first | exact q_58e6e51dcc h30 | omega)) (by omega) (by (first | exact q_337a85e294 h80 | omega)) (by omega) (by decide)) (fun z82 h83 h84 => ?_)
              refine En_Ps 2 (pc' := 67) (lv' := [(4, .int ((y25 + Int32.ofInt 1))), (3, .int z82), (0, .ref 159), (1, .int a), (2, .int z22)]) (st' := []) rfl ?_
              refine En_lv1 (addI rfl (by decide : (Int32.ofInt 1).toInt = 1) (by first | exact q_465ab79ac1 h32 | omega) (by first | exact q_d22f73d43b h33 | omega)) (fun z85 h86 => ?_)
              refine En_Ps 1 (pc' := 22) (lv' := [(4, .int z85), (3, .int z82), (0, .ref 159), (1, .int a), (2, .int z22)]) (st' := []) rfl ?_
              refine En_lv (lv := [(0, .ref 159), (1, .int a), (2, .int z22), (3, .int z82), (4, .int z85)]) ⟨rfl, rfl, rfl, rfl, rfl, trivial⟩ ?_
              exact ih22 σ67 z82 z85 h68 h72 ((h69 _ _ (inWa tgz_160 (by decide +kernel))).trans ((h52 _ _ (inWa tgz_160 (by decide +kernel))).trans ((h43 _ _ (inWa tgz_160 (by decide +kernel))).trans h29))) (by first | exact q_58e6e51dcc h83 | omega) (by first | exact q_36eb0a70bf h84 | omega) (by first | exact q_35104ce9d3 h86 h32 | omega) (by first | exact q_54f15c7756 h86 h47 h44.2.1 | omega) (by first | exact q_20fedeb4b2 h86 h34 | omega)
    have := (by decide : (Int32.ofInt 0).toInt = 0)
    have := (by decide : (Int32.ofInt 0).toInt = 0)
    refine En_lv (lv := [(0, .ref 159), (1, .int a), (2, .int z22), (3, .int ((Int32.ofInt 0))), (4, .int ((Int32.ofInt 0)))]) ⟨rfl, rfl, rfl, rfl, rfl, trivial⟩ ?_
    exact key22 (Int.toNat (13) + 1) σ16 ((Int32.ofInt 0)) ((Int32.ofInt 0)) h17 h23 ((h18 _ _ (inWa tgz_160 (by decide +kernel))).trans ((h9 _ _ (inWa tgz_160 (by decide +kernel))).trans h1)) (by decide) (by decide) (by decide) (by decide) (by first | exact toN_lt _ | omega)
  · refine En_Ps 1 (pc' := 10) (lv' := [(0, .ref 159), (1, .int a)]) (st' := [.int (((Int8.ofInt (-2)).toInt32))]) rfl ?_
    refine En_top (by decide : ((Int8.ofInt (-2)).toInt32).toInt = -2) (fun z87 h88 => ?_)
    exact En_ret (v := some (Value.int z87)) rfl rfl rfl ⟨h8, h12, z87, rfl, ⟨by first | exact q_f35c5d346c h88 | omega, by first | exact q_7aab8371ca h88 | omega⟩⟩
/-- DoorSchoolModel.isRest(III)Z -/
abbrev P_261 (σ0 : SG) (a : Int32) (b : Int32) (c : Int32) : PO := fun v σ => WT σ ∧ Fr [(35, 18), (35, 21), (42, 0), (43, 0), (44, 0), (45, 0), (46, 0)] σ0 σ ∧ ∃ ret : Int32, v = some (Value.int ret) ∧ -ret.toInt ≤ 0 ∧ ret.toInt - 1 ≤ 0
set_option maxRecDepth 10000 in
set_option maxHeartbeats 4000000 in
theorem c_261 (σ0 : SG) (hσ0 : WT σ0) (a : Int32) (b : Int32) (c : Int32) (hl_a : 0 ≤ a.toInt) (hu_a : a.toInt ≤ 3) (hl_b : 0 ≤ b.toInt) (hu_b : b.toInt ≤ 2) (hl_c : 0 ≤ c.toInt) (hu_c : c.toInt ≤ 15) : En 5 113 none mr_261 (P_261 σ0 a b c) 0 [(0, .ref 159), (1, .int a), (2, .int b), (3, .int c)] [] σ0 := by
  have hF0 : Fr [(35, 18), (35, 21), (42, 0), (43, 0), (44, 0), (45, 0), (46, 0)] σ0 σ0 := Fr_rfl
  refine En_Ps 3 (pc' := 3) (lv' := [(0, .ref 159), (1, .int a), (2, .int b), (3, .int c)]) (st' := [.int b, .int a, .ref 159]) rfl ?_
  refine En_callV rfl rfl rfl rfl rfl rfl rfl rfl tgz_159 (by decide +kernel) rfl (c_211 σ0 hσ0 a b (geI rfl (by first | exact q_58e6e51dcc hl_a | omega)) (leI rfl (by first | exact q_da5e9b976f hu_a | omega))) (by decide) (by decide) (fun v2 σ3 h1 => ?_)
  obtain ⟨h4, h5, z7, rfl, h6⟩ := h1
  have h8 := Fr_trans hF0 h5 (by decide +kernel)
  refine En_Ps 1 (pc' := 7) (lv' := [(0, .ref 159), (1, .int a), (2, .int b), (3, .int c)]) (st' := [.int c, .int z7]) rfl ?_
  refine En_callS rfl rfl rfl rfl rfl rfl rfl rfl rfl (c_202b σ3 h4 z7 c) (by decide) (by decide) (fun v10 σ11 h9 => ?_)
  obtain ⟨h12, h13, z15, rfl, h14⟩ := h9
  have h16 := Fr_trans h8 h13 (by decide +kernel)
  refine En_Ps 3 (pc' := 15) (lv' := [(5, .int ((Int32.ofInt 0))), (4, .int z15), (0, .ref 159), (1, .int a), (2, .int b), (3, .int c)]) (st' := []) rfl ?_
  have key15 : ∀ (n15 : Nat) (σ18 : SG) (y17 : Int32), WT σ18 → Fr [(35, 18), (35, 21), (42, 0), (43, 0), (44, 0), (45, 0), (46, 0)] σ0 σ18 → 0 ≤ y17.toInt → y17.toInt ≤ 16 → -y17.toInt + 16 < (n15 : Int) → En 5 113 none mr_261 (P_261 σ0 a b c) 15 [(0, .ref 159), (1, .int a), (2, .int b), (3, .int c), (4, .int z15), (5, .int y17)] [] σ18 := by
    intro n15
    induction n15 with
    | zero =>
      intro σ18 y17 h19 h20 h21 h22 h23
      first | exact (q_511f6d33ac h23 h22).elim | (exfalso; omega)
    | succ n15 ih15 =>
      intro σ18 y17 h19 h20 h21 h22 h23
      refine En_Ps 2 (pc' := 18) (lv' := [(0, .ref 159), (1, .int a), (2, .int b), (3, .int c), (4, .int z15), (5, .int y17)]) (st' := [.ref 159, .int y17]) rfl ?_
      obtain ⟨z25, h24, h26, h27⟩ := WT_peekI h19 tgz_160 (by decide +kernel : FT 36 (0 : Int).toNat = (0, 0, 4)) (by decide +kernel)
      obtain ⟨z29, h28, h30, h31⟩ := WT_peekI h19 tgz_160 (by decide +kernel : FT 36 (7 : Int).toNat = (0, 0, 1600)) (by decide +kernel)
      refine En_callV rfl rfl rfl rfl rfl rfl rfl rfl tgz_159 (by decide +kernel) rfl (c_269 σ18 h19 z25 h24 z29 h28) (by decide) (by decide) (fun v33 σ34 h32 => ?_)
      obtain ⟨h35, h36, z38, rfl, h37⟩ := h32
      have h39 := h37.2.2
      have h40 := Fr_trans h20 h36 (by decide +kernel)
      refine En_icGe _ rfl rfl rfl (fun h41 => ?_) (fun h41 => ?_)
      · refine En_Ps 2 (pc' := 60) (lv' := [(5, .int ((Int32.ofInt 0))), (0, .ref 159), (1, .int a), (2, .int b), (3, .int c), (4, .int z15)]) (st' := []) rfl ?_
        have key60 : ∀ (n60 : Nat) (σ43 : SG) (y42 : Int32), WT σ43 → Fr [(35, 18), (35, 21), (42, 0), (43, 0), (44, 0), (45, 0), (46, 0)] σ0 σ43 → (σ43 160)[(0 : Int).toNat]? = some (Value.int z25) → (σ43 160)[(7 : Int).toNat]? = some (Value.int z29) → 0 ≤ y42.toInt → y42.toInt ≤ 3 → -y42.toInt + 3 < (n60 : Int) → En 5 113 none mr_261 (P_261 σ0 a b c) 60 [(0, .ref 159), (1, .int a), (2, .int b), (3, .int c), (4, .int z15), (5, .int y42)] [] σ43 := by
          intro n60
          induction n60 with
          | zero =>
            intro σ43 y42 h44 h45 h46 h47 h48 h49 h50
            first | exact (q_9f1e7068c9 h50 h49).elim | (exfalso; omega)
          | succ n60 ih60 =>
            intro σ43 y42 h44 h45 h46 h47 h48 h49 h50
            refine En_Ps 2 (pc' := 63) (lv' := [(0, .ref 159), (1, .int a), (2, .int b), (3, .int c), (4, .int z15), (5, .int y42)]) (st' := [.int ((Int32.ofInt 3)), .int y42]) rfl ?_
            refine En_icGe _ rfl (by decide : (Int32.ofInt 3).toInt = 3) rfl (fun h51 => ?_) (fun h51 => ?_)
            · refine En_Ps 1 (pc' := 91) (lv' := [(0, .ref 159), (1, .int a), (2, .int b), (3, .int c), (4, .int z15), (5, .int y42)]) (st' := [.int ((Int32.ofInt 1))]) rfl ?_
              refine En_top (by decide : (Int32.ofInt 1).toInt = 1) (fun z52 h53 => ?_)
              exact En_ret (v := some (Value.int z52)) rfl rfl (retZ rfl rfl (by first | exact q_2b07c97645 h53 | omega) (by first | exact q_d9e7cbb253 h53 | omega)) ⟨h44, h45, z52, rfl, ⟨by first | exact q_ad3eee31ca h53 | omega, by first | exact q_81cf297dc4 h53 | omega⟩⟩
            · refine En_Ps 3 (pc' := 70) (lv' := [(0, .ref 159), (1, .int a), (2, .int b), (3, .int c), (4, .int z15), (5, .int y42)]) (st' := [.int y42, .int a, .ref 159]) rfl ?_
              refine En_callV rfl rfl rfl rfl rfl rfl rfl rfl tgz_159 (by decide +kernel) rfl (c_211 σ43 h44 a y42 (geI rfl (by first | exact q_58e6e51dcc hl_a | omega)) (leI rfl (by first | exact q_da5e9b976f hu_a | omega))) (by decide) (by decide) (fun v55 σ56 h54 => ?_)
              obtain ⟨h57, h58, z60, rfl, h59⟩ := h54
              have h61 := Fr_trans h45 h58 (by decide +kernel)
              refine En_Ps 1 (pc' := 74) (lv' := [(0, .ref 159), (1, .int a), (2, .int b), (3, .int c), (4, .int z15), (5, .int y42)]) (st' := [.int c, .int z60]) rfl ?_
              refine En_callS rfl rfl rfl rfl rfl rfl rfl rfl rfl (c_202b σ56 h57 z60 c) (by decide) (by decide) (fun v63 σ64 h62 => ?_)
              obtain ⟨h65, h66, z68, rfl, h67⟩ := h62
              have h69 := Fr_trans h61 h66 (by decide +kernel)
              refine En_Ps 1 (pc' := 79) (lv' := [(0, .ref 159), (1, .int a), (2, .int b), (3, .int c), (4, .int z15), (5, .int y42)]) (st' := [.int z15, .int z68]) rfl ?_
              refine En_icGe _ rfl rfl rfl (fun h70 => ?_) (fun h70 => ?_)
              · refine En_Ps 1 (pc' := 87) (lv' := [(5, .int ((y42 + Int32.ofInt 1))), (0, .ref 159), (1, .int a), (2, .int b), (3, .int c), (4, .int z15)]) (st' := []) rfl ?_
                refine En_lv1 (addI rfl (by decide : (Int32.ofInt 1).toInt = 1) (by first | exact q_465ab79ac1 h48 | omega) (by first | exact q_6ae830b01d h51 | omega)) (fun z71 h72 => ?_)
                refine En_Ps 1 (pc' := 60) (lv' := [(5, .int z71), (0, .ref 159), (1, .int a), (2, .int b), (3, .int c), (4, .int z15)]) (st' := []) rfl ?_
                refine En_lv (lv := [(0, .ref 159), (1, .int a), (2, .int b), (3, .int c), (4, .int z15), (5, .int z71)]) ⟨rfl, rfl, rfl, rfl, rfl, rfl, trivial⟩ ?_
                exact ih60 σ64 z71 h65 h69 ((h66 _ _ (inWa tgz_160 (by decide +kernel))).trans ((h58 _ _ (inWa tgz_160 (by decide +kernel))).trans h46)) ((h66 _ _ (inWa tgz_160 (by decide +kernel))).trans ((h58 _ _ (inWa tgz_160 (by decide +kernel))).trans h47)) (by first | exact q_35104ce9d3 h72 h48 | omega) (by first | exact q_84805d5d8e h72 h51 | omega) (by first | exact q_6272716eb4 h72 h50 | omega)
              · refine En_Ps 1 (pc' := 83) (lv' := [(0, .ref 159), (1, .int a), (2, .int b), (3, .int c), (4, .int z15), (5, .int y42)]) (st' := [.int ((Int32.ofInt 0))]) rfl ?_
                refine En_top (by decide : (Int32.ofInt 0).toInt = 0) (fun z73 h74 => ?_)
                exact En_ret (v := some (Value.int z73)) rfl rfl (retZ rfl rfl (by first | exact q_55451d0a83 h74 | omega) (by first | exact q_87849c3859 h74 | omega)) ⟨h65, h69, z73, rfl, ⟨by first | exact q_097a37c2ae h74 | omega, by first | exact q_e269517bee h74 | omega⟩⟩
        have := (by decide : (Int32.ofInt 0).toInt = 0)
        refine En_lv (lv := [(0, .ref 159), (1, .int a), (2, .int b), (3, .int c), (4, .int z15), (5, .int ((Int32.ofInt 0)))]) ⟨rfl, rfl, rfl, rfl, rfl, rfl, trivial⟩ ?_
        exact key60 (Int.toNat (3) + 1) σ34 ((Int32.ofInt 0)) h35 h40 ((h36 _ _ (inWa tgz_160 (by decide +kernel))).trans h24) ((h36 _ _ (inWa tgz_160 (by decide +kernel))).trans h28) (by decide) (by decide) (by first | exact toN_lt _ | omega)
      · refine En_Ps 2 (pc' := 27) (lv' := [(0, .ref 159), (1, .int a), (2, .int b), (3, .int c), (4, .int z15), (5, .int y17)]) (st' := [.int y17, .ref 159]) rfl ?_
        refine En_callV rfl rfl rfl rfl rfl rfl rfl rfl tgz_159 (by decide +kernel) rfl (c_267 σ34 h35 y17) (by decide) (by decide) (fun v76 σ77 h75 => ?_)
        obtain ⟨h78, h79, z81, rfl, h80⟩ := h75
        have h82 := Fr_trans h40 h79 (by decide +kernel)
        refine En_iEq _ rfl rfl (fun h83 => ?_) (fun h83 => ?_)
        · refine En_Ps 1 (pc' := 54) (lv' := [(5, .int ((y17 + Int32.ofInt 1))), (0, .ref 159), (1, .int a), (2, .int b), (3, .int c), (4, .int z15)]) (st' := []) rfl ?_
          refine En_lv1 (addI rfl (by decide : (Int32.ofInt 1).toInt = 1) (by first | exact q_465ab79ac1 h21 | omega) (by first | exact q_f3f8e04381 h22 | omega)) (fun z84 h85 => ?_)
          refine En_Ps 1 (pc' := 15) (lv' := [(5, .int z84), (0, .ref 159), (1, .int a), (2, .int b), (3, .int c), (4, .int z15)]) (st' := []) rfl ?_
          refine En_lv (lv := [(0, .ref 159), (1, .int a), (2, .int b), (3, .int c), (4, .int z15), (5, .int z84)]) ⟨rfl, rfl, rfl, rfl, rfl, rfl, trivial⟩ ?_
          exact ih15 σ77 z84 h78 h82 (by first | exact q_35104ce9d3 h85 h21 | omega) (by first | exact q_34dc714687 h85 h41 h37.2.1 | omega) (by first | exact q_c5d740bdff h85 h23 | omega)
        · refine En_Ps 3 (pc' := 36) (lv' := [(0, .ref 159), (1, .int a), (2, .int b), (3, .int c), (4, .int z15), (5, .int y17)]) (st' := [.int b, .int a, .ref 159]) rfl ?_
          refine En_callV rfl rfl rfl rfl rfl rfl rfl rfl tgz_159 (by decide +kernel) rfl (c_211 σ77 h78 a b (geI rfl (by first | exact q_58e6e51dcc hl_a | omega)) (leI rfl (by first | exact q_da5e9b976f hu_a | omega))) (by decide) (by decide) (fun v87 σ88 h86 => ?_)
          obtain ⟨h89, h90, z92, rfl, h91⟩ := h86
          have h93 := Fr_trans h82 h90 (by decide +kernel)
          refine En_Ps 1 (pc' := 41) (lv' := [(0, .ref 159), (1, .int a), (2, .int b), (3, .int c), (4, .int z15), (5, .int y17)]) (st' := [.int y17, .int z92]) rfl ?_
          refine En_callS rfl rfl rfl rfl rfl rfl rfl rfl rfl (c_202b σ88 h89 z92 y17) (by decide) (by decide) (fun v95 σ96 h94 => ?_)
          obtain ⟨h97, h98, z100, rfl, h99⟩ := h94
          have h101 := Fr_trans h93 h98 (by decide +kernel)
          refine En_Ps 1 (pc' := 46) (lv' := [(0, .ref 159), (1, .int a), (2, .int b), (3, .int c), (4, .int z15), (5, .int y17)]) (st' := [.int z15, .int z100]) rfl ?_
          refine En_icLe _ rfl rfl rfl (fun h102 => ?_) (fun h102 => ?_)
          · refine En_Ps 1 (pc' := 54) (lv' := [(5, .int ((y17 + Int32.ofInt 1))), (0, .ref 159), (1, .int a), (2, .int b), (3, .int c), (4, .int z15)]) (st' := []) rfl ?_
            refine En_lv1 (addI rfl (by decide : (Int32.ofInt 1).toInt = 1) (by first | exact q_465ab79ac1 h21 | omega) (by first | exact q_f3f8e04381 h22 | omega)) (fun z103 h104 => ?_)
            refine En_Ps 1 (pc' := 15) (lv' := [(5, .int z103), (0, .ref 159), (1, .int a), (2, .int b), (3, .int c), (4, .int z15)]) (st' := []) rfl ?_
            refine En_lv (lv := [(0, .ref 159), (1, .int a), (2, .int b), (3, .int c), (4, .int z15), (5, .int z103)]) ⟨rfl, rfl, rfl, rfl, rfl, rfl, trivial⟩ ?_
            exact ih15 σ96 z103 h97 h101 (by first | exact q_35104ce9d3 h104 h21 | omega) (by first | exact q_34dc714687 h104 h41 h37.2.1 | omega) (by first | exact q_c5d740bdff h104 h23 | omega)
          · refine En_Ps 1 (pc' := 50) (lv' := [(0, .ref 159), (1, .int a), (2, .int b), (3, .int c), (4, .int z15), (5, .int y17)]) (st' := [.int ((Int32.ofInt 0))]) rfl ?_
            refine En_top (by decide : (Int32.ofInt 0).toInt = 0) (fun z105 h106 => ?_)
            exact En_ret (v := some (Value.int z105)) rfl rfl (retZ rfl rfl (by first | exact q_55451d0a83 h106 | omega) (by first | exact q_87849c3859 h106 | omega)) ⟨h97, h101, z105, rfl, ⟨by first | exact q_097a37c2ae h106 | omega, by first | exact q_e269517bee h106 | omega⟩⟩
  have := (by decide : (Int32.ofInt 0).toInt = 0)
  refine En_lv (lv := [(0, .ref 159), (1, .int a), (2, .int b), (3, .int c), (4, .int z15), (5, .int ((Int32.ofInt 0)))]) ⟨rfl, rfl, rfl, rfl, rfl, rfl, trivial⟩ ?_
  exact key15 (Int.toNat (16) + 1) σ11 ((Int32.ofInt 0)) h12 h16 (by decide) (by decide) (by first | exact toN_lt _ | omega)
/-- DoorSchoolModel.isSeed(I)Z -/
abbrev P_265 (σ0 : SG) (a : Int32) : PO := fun v σ => WT σ ∧ Fr [] σ0 σ ∧ ∃ ret : Int32, v = some (Value.int ret) ∧ -ret.toInt ≤ 0 ∧ ret.toInt - 1 ≤ 0 ∧ (ret.toInt - 1 ≤ 0 ∧ -ret.toInt + 1 ≤ 0 → -a.toInt ≤ 0 ∧ a.toInt - 2000000000 ≤ 0) ∧ (-a.toInt ≤ 0 ∧ a.toInt - 2000000000 ≤ 0 → ret.toInt - 1 ≤ 0 ∧ -ret.toInt + 1 ≤ 0)
set_option maxRecDepth 10000 in
set_option maxHeartbeats 4000000 in
theorem c_265 (σ0 : SG) (hσ0 : WT σ0) (a : Int32) : En 1 25 none mr_265 (P_265 σ0 a) 0 [(0, .int a)] [] σ0 := by
  have hF0 : Fr [] σ0 σ0 := Fr_rfl
  refine En_Ps 4 (pc' := 6) (lv' := [(0, .int a)]) (st' := [.long ((2000000000 : Int64)), .long ((Int64.ofNat 0)), .long a.toInt64]) rfl ?_
  have : a.toInt64.toInt = a.toInt := (i2lI rfl)
  have := (by decide : ((Int64.ofNat 0)).toInt = 0)
  have := (by decide : ((2000000000 : Int64)).toInt = 2000000000)
  refine En_callS rfl rfl rfl rfl rfl rfl rfl rfl rfl (c_249 σ0 hσ0 a.toInt64 ((Int64.ofNat 0)) ((2000000000 : Int64))) (by decide) (by decide) (fun v2 σ3 h1 => ?_)
  obtain ⟨h4, h5, z7, rfl, h6⟩ := h1
  have h8 := Fr_trans hF0 h5 (by decide +kernel)
  exact En_ret (v := some (Value.int z7)) rfl rfl (retZ rfl rfl (by first | exact q_ef1e8e38bf h6.1 | omega) (by first | exact q_733c8bfbae h6.2.1 | omega)) ⟨h4, h8, z7, rfl, ⟨by first | exact q_a555021d16 h6.1 | omega, by first | exact q_ad5b726bf8 h6.2.1 | omega, fun _ => by omega, fun _ => by omega⟩⟩
/-- DoorSchoolModel.learnt(II)I -/
abbrev P_276 (σ0 : SG) (a : Int32) (b : Int32) : PO := fun v σ => WT σ ∧ Fr [(35, 18), (35, 21), (35, 22), (35, 23), (42, 0), (43, 0), (44, 0), (45, 0), (46, 0)] σ0 σ ∧ ∃ ret : Int32, v = some (Value.int ret) ∧ True
set_option maxRecDepth 10000 in
set_option maxHeartbeats 4000000 in
theorem c_276 (σ0 : SG) (hσ0 : WT σ0) (a : Int32) (b : Int32) : En 5 115 none mr_276 (P_276 σ0 a b) 0 [(0, .ref 159), (1, .int a), (2, .int b)] [] σ0 := by
  have hF0 : Fr [(35, 18), (35, 21), (35, 22), (35, 23), (42, 0), (43, 0), (44, 0), (45, 0), (46, 0)] σ0 σ0 := Fr_rfl
  refine En_Ps 1 (pc' := 1) (lv' := [(0, .ref 159), (1, .int a), (2, .int b)]) (st' := [.int a]) rfl ?_
  refine En_callS rfl rfl rfl rfl rfl rfl rfl rfl rfl (c_268 σ0 hσ0 a) (by decide) (by decide) (fun v2 σ3 h1 => ?_)
  obtain ⟨h4, h5, z7, rfl, h6⟩ := h1
  have h8 := Fr_trans hF0 h5 (by decide +kernel)
  refine En_iEq _ rfl rfl (fun h9 => ?_) (fun h9 => ?_)
  · refine En_Ps 1 (pc' := 17) (lv' := [(0, .ref 159), (1, .int a), (2, .int b)]) (st' := [.int (((Int8.ofInt (-2)).toInt32))]) rfl ?_
    refine En_top (by decide : ((Int8.ofInt (-2)).toInt32).toInt = -2) (fun z10 h11 => ?_)
    exact En_ret (v := some (Value.int z10)) rfl rfl rfl ⟨h4, h8, z10, rfl, trivial⟩
  · refine En_Ps 2 (pc' := 9) (lv' := [(0, .ref 159), (1, .int a), (2, .int b)]) (st' := [.int b, .ref 159]) rfl ?_
    refine En_callV rfl rfl rfl rfl rfl rfl rfl rfl tgz_159 (by decide +kernel) rfl (c_195 σ3 h4 b) (by decide) (by decide) (fun v13 σ14 h12 => ?_)
    obtain ⟨h15, h16, z18, rfl, h17⟩ := h12
    have h19 := Fr_trans h8 h16 (by decide +kernel)
    refine En_iNe _ rfl rfl (fun h20 => ?_) (fun h20 => ?_)
    · refine En_Ps 3 (pc' := 21) (lv' := [(0, .ref 159), (1, .int a), (2, .int b)]) (st' := [.int b, .int a, .ref 159]) rfl ?_
      refine En_callV rfl rfl rfl rfl rfl rfl rfl rfl tgz_159 (by decide +kernel) rfl (c_321 σ14 h15 a b) (by decide) (by decide) (fun v22 σ23 h21 => ?_)
      obtain ⟨h24, h25, rfl, h26⟩ := h21
      have h27 := Fr_trans h19 h25 (by decide +kernel)
      refine En_Ps 1 (pc' := 25) (lv' := [(0, .ref 159), (1, .int a), (2, .int b)]) (st' := [.ref 159]) rfl ?_
      refine En_getI (j := 23) (l := (-2147483648)) (u := 2147483647) rfl rfl rfl tgz_159 (by decide +kernel) h24 (by decide +kernel) (fun z29 h28 h30 h31 => ?_)
      exact En_ret (v := some (Value.int z29)) rfl rfl rfl ⟨h24, h27, z29, rfl, trivial⟩
    · refine En_Ps 1 (pc' := 17) (lv' := [(0, .ref 159), (1, .int a), (2, .int b)]) (st' := [.int (((Int8.ofInt (-2)).toInt32))]) rfl ?_
      refine En_top (by decide : ((Int8.ofInt (-2)).toInt32).toInt = -2) (fun z32 h33 => ?_)
      exact En_ret (v := some (Value.int z32)) rfl rfl rfl ⟨h15, h19, z32, rfl, trivial⟩
/-- DoorSchoolModel.leaves(I)I -/
abbrev P_278 (σ0 : SG) (a : Int32) : PO := fun v σ => WT σ ∧ Fr [(35, 18), (42, 0), (43, 0), (44, 0)] σ0 σ ∧ ∃ ret : Int32, v = some (Value.int ret) ∧ -ret.toInt - 6 ≤ 0 ∧ ret.toInt - 81 ≤ 0
set_option maxRecDepth 10000 in
set_option maxHeartbeats 4000000 in
theorem c_278 (σ0 : SG) (hσ0 : WT σ0) (a : Int32) : En 6 135 none mr_278 (P_278 σ0 a) 0 [(0, .ref 159), (1, .int a)] [] σ0 := by
  have hF0 : Fr [(35, 18), (42, 0), (43, 0), (44, 0)] σ0 σ0 := Fr_rfl
  refine En_Ps 3 (pc' := 3) (lv' := [(0, .ref 159), (1, .int a)]) (st' := [.int ((Int32.ofInt 1)), .int a, .ref 159]) rfl ?_
  have := (by decide : ((Int32.ofInt 1)).toInt = 1)
  refine En_callV rfl rfl rfl rfl rfl rfl rfl rfl tgz_159 (by decide +kernel) rfl (c_198 σ0 hσ0 a ((Int32.ofInt 1)) (geI (by decide : (Int32.ofInt 1).toInt = 1) (by decide)) (leI (by decide : (Int32.ofInt 1).toInt = 1) (by decide))) (by decide) (by decide) (fun v2 σ3 h1 => ?_)
  obtain ⟨h4, h5, z7, rfl, h6⟩ := h1
  have h8 := Fr_trans hF0 h5 (by decide +kernel)
  refine En_Ps 2 (pc' := 8) (lv' := [(2, .int z7), (0, .ref 159), (1, .int a)]) (st' := [.int z7]) rfl ?_
  refine En_iGe _ rfl rfl (fun h9 => ?_) (fun h9 => ?_)
  · refine En_Ps 2 (pc' := 15) (lv' := [(2, .int z7), (0, .ref 159), (1, .int a)]) (st' := [.int a, .ref 159]) rfl ?_
    refine En_callV rfl rfl rfl rfl rfl rfl rfl rfl tgz_159 (by decide +kernel) rfl (c_197 σ3 h4 a (geI rfl (by (first | exact q_b875be19a0 h6.2.2 h9 | omega))) (leI rfl (by (first | exact q_91631f135a h6.2.2 h9 | omega)))) (by decide) (by decide) (fun v11 σ12 h10 => ?_)
    obtain ⟨h13, h14, z16, rfl, h15⟩ := h10
    have h17 := Fr_trans h8 h14 (by decide +kernel)
    refine En_Ps 3 (pc' := 21) (lv' := [(3, .int z16), (2, .int z7), (0, .ref 159), (1, .int a)]) (st' := [.int ((Int32.ofInt (-1))), .int z16]) rfl ?_
    refine En_icNe _ rfl (by decide : (Int32.ofInt (-1)).toInt = -1) rfl (fun h18 => ?_) (fun h18 => ?_)
    · refine En_Ps 3 (pc' := 35) (lv' := [(3, .int z16), (2, .int z7), (0, .ref 159), (1, .int a)]) (st' := [.int z16, .int a, .ref 159]) rfl ?_
      refine En_callV rfl rfl rfl rfl rfl rfl rfl rfl tgz_159 (by decide +kernel) rfl (c_332 σ12 h13 a z16 (geI rfl (by (first | exact q_b875be19a0 h6.2.2 h9 | omega))) (leI rfl (by (first | exact q_91631f135a h6.2.2 h9 | omega)))) (by decide) (by decide) (fun v20 σ21 h19 => ?_)
      obtain ⟨h22, h23, z25, rfl, h24⟩ := h19
      have h26 := Fr_trans h17 h23 (by decide +kernel)
      exact En_ret (v := some (Value.int z25)) rfl rfl rfl ⟨h22, h26, z25, rfl, ⟨by first | exact q_8061444f0d h24.1 | omega, by first | exact q_62172f5eca h24.2 | omega⟩⟩
    · refine En_Ps 2 (pc' := 26) (lv' := [(3, .int z16), (2, .int z7), (0, .ref 159), (1, .int a)]) (st' := [.int a, .ref 159]) rfl ?_
      refine En_callV rfl rfl rfl rfl rfl rfl rfl rfl tgz_159 (by decide +kernel) rfl (c_231 σ12 h13 a (geI rfl (by (first | exact q_b875be19a0 h6.2.2 h9 | omega))) (leI rfl (by (first | exact q_91631f135a h6.2.2 h9 | omega)))) (by decide) (by decide) (fun v28 σ29 h27 => ?_)
      obtain ⟨h30, h31, z33, rfl, h32⟩ := h27
      have h34 := Fr_trans h17 h31 (by decide +kernel)
      refine En_Ps 1 (pc' := 38) (lv' := [(3, .int z16), (2, .int z7), (0, .ref 159), (1, .int a)]) (st' := [.int z33]) rfl ?_
      exact En_ret (v := some (Value.int z33)) rfl rfl rfl ⟨h30, h34, z33, rfl, ⟨by first | exact q_8061444f0d h32.1 | omega, by first | exact q_62172f5eca h32.2 | omega⟩⟩
  · refine En_Ps 1 (pc' := 12) (lv' := [(2, .int z7), (0, .ref 159), (1, .int a)]) (st' := [.int z7]) rfl ?_
    exact En_ret (v := some (Value.int z7)) rfl rfl rfl ⟨h4, h8, z7, rfl, ⟨by first | exact q_629d629181 h6.1 | omega, by first | exact q_5b73750df0 h9 | omega⟩⟩
/-- DoorSchoolModel.left(I)I -/
abbrev P_279 (σ0 : SG) (a : Int32) : PO := fun v σ => WT σ ∧ Fr [(35, 18), (35, 21), (42, 0), (43, 0), (44, 0), (45, 0), (46, 0)] σ0 σ ∧ ∃ ret : Int32, v = some (Value.int ret) ∧ True
set_option maxRecDepth 10000 in
set_option maxHeartbeats 4000000 in
theorem c_279 (σ0 : SG) (hσ0 : WT σ0) (a : Int32) : En 8 183 none mr_279 (P_279 σ0 a) 0 [(0, .ref 159), (1, .int a)] [] σ0 := by
  have hF0 : Fr [(35, 18), (35, 21), (42, 0), (43, 0), (44, 0), (45, 0), (46, 0)] σ0 σ0 := Fr_rfl
  refine En_Ps 2 (pc' := 2) (lv' := [(0, .ref 159), (1, .int a)]) (st' := [.int a, .ref 159]) rfl ?_
  obtain ⟨z2, h1, h3, h4⟩ := WT_peekI hσ0 tgz_160 (by decide +kernel : FT 36 (2 : Int).toNat = (0, 0, 4)) (by decide +kernel)
  refine En_callV rfl rfl rfl rfl rfl rfl rfl rfl tgz_159 (by decide +kernel) rfl (c_254 σ0 hσ0 a z2 h1) (by decide) (by decide) (fun v6 σ7 h5 => ?_)
  obtain ⟨h8, h9, z11, rfl, h10⟩ := h5
  have h12 := Fr_trans hF0 h9 (by decide +kernel)
  refine En_iNe _ rfl rfl (fun h13 => ?_) (fun h13 => ?_)
  · refine En_Ps 2 (pc' := 13) (lv' := [(0, .ref 159), (1, .int a)]) (st' := [.int a, .ref 159]) rfl ?_
    refine En_callV rfl rfl rfl rfl rfl rfl rfl rfl tgz_159 (by decide +kernel) rfl (c_241 σ7 h8 a z2 ((h9 _ _ (inWa tgz_160 (by decide +kernel))).trans h1)) (by decide) (by decide) (fun v15 σ16 h14 => ?_)
    obtain ⟨h17, h18, z20, rfl, h19⟩ := h14
    have h21 := Fr_trans h12 h18 (by decide +kernel)
    refine En_Ps 3 (pc' := 19) (lv' := [(2, .int z20), (0, .ref 159), (1, .int a)]) (st' := [.int ((Int32.ofInt (-1))), .int z20]) rfl ?_
    refine En_icNe _ rfl (by decide : (Int32.ofInt (-1)).toInt = -1) rfl (fun h22 => ?_) (fun h22 => ?_)
    · refine En_Ps 3 (pc' := 37) (lv' := [(2, .int z20), (0, .ref 159), (1, .int a)]) (st' := [.int z20, .int a, .ref 159]) rfl ?_
      refine En_callV rfl rfl rfl rfl rfl rfl rfl rfl tgz_159 (by decide +kernel) rfl (c_242 σ16 h17 a z20 (geI rfl (by (first | exact q_bf8258001b h10.2.2.1 h13 h10.1 | omega))) (leI rfl (by (first | exact q_e595281e7d h10.2.2.1 h13 h10.1 h19.2.2.2.2 h19.2.2.1 | omega))) (geI rfl (by (first | exact q_dca2619c1e h19.2.2.2.2 h22 h10.2.2.1 h13 h10.1 | omega))) (leI rfl (by first | exact q_5a5f544404 h19.2.1 | omega))) (by decide) (by decide) (fun v24 σ25 h23 => ?_)
      obtain ⟨h26, h27, z29, rfl, h28⟩ := h23
      have h30 := Fr_trans h21 h27 (by decide +kernel)
      exact En_ret (v := some (Value.int z29)) rfl rfl rfl ⟨h26, h30, z29, rfl, trivial⟩
    · refine En_Ps 3 (pc' := 25) (lv' := [(2, .int z20), (0, .ref 159), (1, .int a)]) (st' := [.int a, .ref 159, .ref 159]) rfl ?_
      refine En_callV rfl rfl rfl rfl rfl rfl rfl rfl tgz_159 (by decide +kernel) rfl (c_213 σ16 h17 a (geI rfl (by (first | exact q_4c8c4ce274 h19.2.2.1 h22 | omega))) (leI rfl (by (first | exact q_4ee9c9fba4 h19.2.2.1 h22 | omega)))) (by decide) (by decide) (fun v32 σ33 h31 => ?_)
      obtain ⟨h34, h35, z37, h38, z39, rfl, h36⟩ := h31
      have h40 := Fr_trans h21 h35 (by decide +kernel)
      refine En_callV rfl rfl rfl rfl rfl rfl rfl rfl tgz_159 (by decide +kernel) rfl (c_233 σ33 h34 z39) (by decide) (by decide) (fun v42 σ43 h41 => ?_)
      obtain ⟨h44, h45, z47, rfl, h46⟩ := h41
      have h48 := Fr_trans h40 h45 (by decide +kernel)
      refine En_Ps 1 (pc' := 40) (lv' := [(2, .int z20), (0, .ref 159), (1, .int a)]) (st' := [.int z47]) rfl ?_
      exact En_ret (v := some (Value.int z47)) rfl rfl rfl ⟨h44, h48, z47, rfl, trivial⟩
  · refine En_Ps 1 (pc' := 10) (lv' := [(0, .ref 159), (1, .int a)]) (st' := [.int (((Int8.ofInt (-2)).toInt32))]) rfl ?_
    refine En_top (by decide : ((Int8.ofInt (-2)).toInt32).toInt = -2) (fun z49 h50 => ?_)
    exact En_ret (v := some (Value.int z49)) rfl rfl rfl ⟨h8, h12, z49, rfl, trivial⟩
end
/-! 32.ly.m13 -/
section
/-- DoorSchoolModel.lesson(III)I -/
abbrev P_280 (σ0 : SG) (a : Int32) (b : Int32) (c : Int32) : PO := fun v σ => WT σ ∧ Fr [] σ0 σ ∧ ∃ ret : Int32, v = some (Value.int ret) ∧ -ret.toInt - 2 ≤ 0 ∧ ret.toInt - 15 ≤ 0
set_option maxRecDepth 10000 in
set_option maxHeartbeats 4000000 in
theorem c_280 (σ0 : SG) (hσ0 : WT σ0) (a : Int32) (b : Int32) (c : Int32) : En 2 46 none mr_280 (P_280 σ0 a b c) 0 [(0, .ref 159), (1, .int a), (2, .int b), (3, .int c)] [] σ0 := by
  have hF0 : Fr [] σ0 σ0 := Fr_rfl
  refine En_Ps 2 (pc' := 2) (lv' := [(0, .ref 159), (1, .int a), (2, .int b), (3, .int c)]) (st' := [.int a, .ref 159]) rfl ?_
  obtain ⟨z2, h1, h3, h4⟩ := WT_peekI hσ0 tgz_160 (by decide +kernel : FT 36 (2 : Int).toNat = (0, 0, 4)) (by decide +kernel)
  refine En_callV rfl rfl rfl rfl rfl rfl rfl rfl tgz_159 (by decide +kernel) rfl (c_254 σ0 hσ0 a z2 h1) (by decide) (by decide) (fun v6 σ7 h5 => ?_)
  obtain ⟨h8, h9, z11, rfl, h10⟩ := h5
  have h12 := Fr_trans hF0 h9 (by decide +kernel)
  refine En_iEq _ rfl rfl (fun h13 => ?_) (fun h13 => ?_)
  · refine En_Ps 1 (pc' := 20) (lv' := [(0, .ref 159), (1, .int a), (2, .int b), (3, .int c)]) (st' := [.int (((Int8.ofInt (-2)).toInt32))]) rfl ?_
    refine En_top (by decide : ((Int8.ofInt (-2)).toInt32).toInt = -2) (fun z14 h15 => ?_)
    exact En_ret (v := some (Value.int z14)) rfl rfl rfl ⟨h8, h12, z14, rfl, ⟨by first | exact q_f35c5d346c h15 | omega, by first | exact q_12a74e12a3 h15 | omega⟩⟩
  · refine En_Ps 4 (pc' := 12) (lv' := [(0, .ref 159), (1, .int a), (2, .int b), (3, .int c)]) (st' := [.long ((Int64.ofNat 1)), .long ((Int64.ofNat 0)), .long c.toInt64]) rfl ?_
    have : c.toInt64.toInt = c.toInt := (i2lI rfl)
    have := (by decide : ((Int64.ofNat 0)).toInt = 0)
    have := (by decide : ((Int64.ofNat 1)).toInt = 1)
    refine En_callS rfl rfl rfl rfl rfl rfl rfl rfl rfl (c_249 σ7 h8 c.toInt64 ((Int64.ofNat 0)) ((Int64.ofNat 1))) (by decide) (by decide) (fun v17 σ18 h16 => ?_)
    obtain ⟨h19, h20, z22, rfl, h21⟩ := h16
    have h23 := Fr_trans h12 h20 (by decide +kernel)
    refine En_iNe _ rfl rfl (fun h24 => ?_) (fun h24 => ?_)
    · refine En_Ps 6 (pc' := 27) (lv' := [(0, .ref 159), (1, .int a), (2, .int b), (3, .int c)]) (st' := [.int ((Int32.ofInt 2)), .int a, .ref 159, .long ((Int64.ofNat 0)), .long b.toInt64]) rfl ?_
      have := (by decide : ((Int32.ofInt 2)).toInt = 2)
      obtain ⟨z25, h26, h27, h28⟩ := WT_peekJ (J := (4 * a.toInt + ((Int32.ofInt 2)).toInt + 10)) (l := 0) (u := 12) h19 tgz_160 (by decide +kernel) (by (first | exact q_8c91a107f3 this h10.2.2.1 h13 h10.1 | omega)) (lnI (by decide +kernel : LN _ = 226) (by (first | exact q_8782e16cf0 this h10.2.2.2.2 h10.2.1 h13 h10.1 | omega))) (FTrow 36 12 4 4 (by decide +kernel) (by (first | exact q_1f09e22d0e this h10.2.2.1 h13 h10.1 | omega)) (by (first | exact q_adcac83064 this h10.2.2.2.2 h10.2.1 h13 h10.1 | omega)) (by omega))
      have := (by decide : ((Int32.ofInt 2)).toInt = 2)
      refine En_callV rfl rfl rfl rfl rfl rfl rfl rfl tgz_159 (by decide +kernel) rfl (c_290c σ18 h19 a ((Int32.ofInt 2)) (geI rfl (by (first | exact q_bf8258001b h10.2.2.1 h13 h10.1 | omega))) (leI rfl (by (first | exact q_88b0c3c731 h10.2.2.1 h13 h10.1 h4 | omega))) (geI (by decide : (Int32.ofInt 2).toInt = 2) (by decide)) (leI (by decide : (Int32.ofInt 2).toInt = 2) (by decide)) z25 h26) (by decide) (by decide) (fun v30 σ31 h29 => ?_)
      obtain ⟨h32, h33, z35, rfl, h34⟩ := h29
      have h36 := Fr_trans h23 h33 (by decide +kernel)
      refine En_Ps 2 (pc' := 32) (lv' := [(0, .ref 159), (1, .int a), (2, .int b), (3, .int c)]) (st' := [.int ((z35 - ((Int32.ofInt 1)))), .long ((Int64.ofNat 0)), .long b.toInt64]) rfl ?_
      refine En_top (subI rfl (by decide : (Int32.ofInt 1).toInt = 1) (by first | exact q_89a3f9d69a h34.1 | omega) (by first | exact q_489450915e h34.2.1 | omega)) (fun z37 h38 => ?_)
      refine En_Ps 1 (pc' := 33) (lv' := [(0, .ref 159), (1, .int a), (2, .int b), (3, .int c)]) (st' := [.long z37.toInt64, .long ((Int64.ofNat 0)), .long b.toInt64]) rfl ?_
      have : b.toInt64.toInt = b.toInt := (i2lI rfl)
      have := (by decide : ((Int64.ofNat 0)).toInt = 0)
      have : z37.toInt64.toInt = z37.toInt := (i2lI rfl)
      refine En_callS rfl rfl rfl rfl rfl rfl rfl rfl rfl (c_249 σ31 h32 b.toInt64 ((Int64.ofNat 0)) z37.toInt64) (by decide) (by decide) (fun v40 σ41 h39 => ?_)
      obtain ⟨h42, h43, z45, rfl, h44⟩ := h39
      have h46 := Fr_trans h36 h43 (by decide +kernel)
      refine En_iEq _ rfl rfl (fun h47 => ?_) (fun h47 => ?_)
      · refine En_Ps 1 (pc' := 55) (lv' := [(0, .ref 159), (1, .int a), (2, .int b), (3, .int c)]) (st' := [.int ((Int32.ofInt (-1)))]) rfl ?_
        refine En_top (by decide : (Int32.ofInt (-1)).toInt = -1) (fun z48 h49 => ?_)
        exact En_ret (v := some (Value.int z48)) rfl rfl rfl ⟨h42, h46, z48, rfl, ⟨by first | exact q_e1de8c7867 h49 | omega, by first | exact q_af62099904 h49 | omega⟩⟩
      · refine En_Ps 1 (pc' := 40) (lv' := [(0, .ref 159), (1, .int a), (2, .int b), (3, .int c)]) (st' := [.ref 159]) rfl ?_
        refine En_getU (j := 1) (u := 160) (g' := 36) (q := 0) rfl rfl rfl tgz_159 (by decide +kernel) h42 (by decide +kernel) un_36_160 (fun h50 => ?_)
        refine En_Ps 2 (pc' := 45) (lv' := [(0, .ref 159), (1, .int a), (2, .int b), (3, .int c)]) (st' := [.int b, .int a, .ref 160]) rfl ?_
        refine En_callS rfl rfl rfl rfl rfl rfl rfl rfl rfl (c_281 σ41 h42 a b (geI rfl (by (first | exact q_bf8258001b h10.2.2.1 h13 h10.1 | omega))) (leI rfl (by (first | exact q_88b0c3c731 h10.2.2.1 h13 h10.1 h4 | omega))) (geI rfl (by (first | exact q_bf5288a390 (i2lI rfl) h44.2.2.1 h47 h44.1 (by decide) | omega))) (leI rfl (by (first | exact q_fb1f7925f9 (i2lI rfl) h44.2.2.1 h47 h44.1 this h38 h34.2.1 | omega)))) (by decide) (by decide) (fun v53 σ54 h52 => ?_)
        obtain ⟨h55, h56, z58, rfl, h57⟩ := h52
        have h59 := Fr_trans h46 h56 (by decide +kernel)
        refine En_Ps 2 (pc' := 50) (lv' := [(0, .ref 159), (1, .int a), (2, .int b), (3, .int c)]) (st' := [.int ((z58 + c)), .ref 160]) rfl ?_
        refine En_top (addI rfl rfl (by (first | exact q_6147b250bd h57.1 (i2lI rfl) h21.2.2.1 h24 h21.1 (by decide) | omega)) (by (first | exact q_fcf1120102 h57.2.1 (i2lI rfl) h21.2.2.1 h24 h21.1 (by decide) | omega))) (fun z60 h61 => ?_)
        refine En_ialdW (n := 226) rfl rfl tgz_160 (by decide +kernel) h55 (by omega) (by decide +kernel) (by omega) aw_36 (fun z64 h63 h65 => ?_)
        have h66 := bd_280 (J := z60.toInt) (by omega) (by omega) h65
        refine En_Ps 1 (pc' := 55) (lv' := [(0, .ref 159), (1, .int a), (2, .int b), (3, .int c)]) (st' := [.int z64]) rfl ?_
        exact En_ret (v := some (Value.int z64)) rfl rfl rfl ⟨h55, h59, z64, rfl, ⟨by omega, by omega⟩⟩
    · refine En_Ps 1 (pc' := 20) (lv' := [(0, .ref 159), (1, .int a), (2, .int b), (3, .int c)]) (st' := [.int (((Int8.ofInt (-2)).toInt32))]) rfl ?_
      refine En_top (by decide : ((Int8.ofInt (-2)).toInt32).toInt = -2) (fun z447 h448 => ?_)
      exact En_ret (v := some (Value.int z447)) rfl rfl rfl ⟨h19, h23, z447, rfl, ⟨by first | exact q_f35c5d346c h448 | omega, by first | exact q_12a74e12a3 h448 | omega⟩⟩
/-- DoorSchoolModel.marks(I)I -/
abbrev P_282 (σ0 : SG) (a : Int32) : PO := fun v σ => WT σ ∧ Fr [(35, 18), (35, 21), (42, 0), (43, 0), (44, 0), (45, 0), (46, 0)] σ0 σ ∧ ∃ ret : Int32, v = some (Value.int ret) ∧ -ret.toInt - 2 ≤ 0 ∧ ret.toInt - 13 ≤ 0
set_option maxRecDepth 10000 in
set_option maxHeartbeats 4000000 in
theorem c_282 (σ0 : SG) (hσ0 : WT σ0) (a : Int32) : En 5 112 none mr_282 (P_282 σ0 a) 0 [(0, .ref 159), (1, .int a)] [] σ0 := by
  have hF0 : Fr [(35, 18), (35, 21), (42, 0), (43, 0), (44, 0), (45, 0), (46, 0)] σ0 σ0 := Fr_rfl
  refine En_Ps 2 (pc' := 2) (lv' := [(0, .ref 159), (1, .int a)]) (st' := [.int a, .ref 159]) rfl ?_
  obtain ⟨z2, h1, h3, h4⟩ := WT_peekI hσ0 tgz_160 (by decide +kernel : FT 36 (2 : Int).toNat = (0, 0, 4)) (by decide +kernel)
  refine En_callV rfl rfl rfl rfl rfl rfl rfl rfl tgz_159 (by decide +kernel) rfl (c_254 σ0 hσ0 a z2 h1) (by decide) (by decide) (fun v6 σ7 h5 => ?_)
  obtain ⟨h8, h9, z11, rfl, h10⟩ := h5
  have h12 := Fr_trans hF0 h9 (by decide +kernel)
  refine En_iEq _ rfl rfl (fun h13 => ?_) (fun h13 => ?_)
  · refine En_Ps 1 (pc' := 22) (lv' := [(0, .ref 159), (1, .int a)]) (st' := [.int (((Int8.ofInt (-2)).toInt32))]) rfl ?_
    refine En_top (by decide : ((Int8.ofInt (-2)).toInt32).toInt = -2) (fun z14 h15 => ?_)
    exact En_ret (v := some (Value.int z14)) rfl rfl rfl ⟨h8, h12, z14, rfl, ⟨by first | exact q_f35c5d346c h15 | omega, by first | exact q_ac30c7c473 h15 | omega⟩⟩
  · refine En_Ps 3 (pc' := 11) (lv' := [(0, .ref 159), (1, .int a)]) (st' := [.int a, .ref 159, .ref 159]) rfl ?_
    refine En_callV rfl rfl rfl rfl rfl rfl rfl rfl tgz_159 (by decide +kernel) rfl (c_213 σ7 h8 a (geI rfl (by (first | exact q_bf8258001b h10.2.2.1 h13 h10.1 | omega))) (leI rfl (by (first | exact q_88b0c3c731 h10.2.2.1 h13 h10.1 h4 | omega)))) (by decide) (by decide) (fun v17 σ18 h16 => ?_)
    obtain ⟨h19, h20, z22, h23, z24, rfl, h21⟩ := h16
    have h25 := Fr_trans h12 h20 (by decide +kernel)
    refine En_callV rfl rfl rfl rfl rfl rfl rfl rfl tgz_159 (by decide +kernel) rfl (c_283 σ18 h19 z24) (by decide) (by decide) (fun v27 σ28 h26 => ?_)
    obtain ⟨h29, h30, z32, rfl, h31⟩ := h26
    have h33 := Fr_trans h25 h30 (by decide +kernel)
    refine En_Ps 1 (pc' := 22) (lv' := [(0, .ref 159), (1, .int a)]) (st' := [.int z32]) rfl ?_
    exact En_ret (v := some (Value.int z32)) rfl rfl rfl ⟨h29, h33, z32, rfl, ⟨by first | exact q_70a249c7f8 h31.1 | omega, by first | exact q_74b353401a h31.2 | omega⟩⟩
/-- DoorSchoolModel.next(II)I -/
abbrev P_287 (σ0 : SG) (a : Int32) (b : Int32) : PO := fun v σ => WT σ ∧ Fr [(35, 18), (35, 21), (35, 22), (35, 23), (42, 0), (43, 0), (44, 0), (45, 0), (46, 0)] σ0 σ ∧ ∃ ret : Int32, v = some (Value.int ret) ∧ -ret.toInt - 2 ≤ 0 ∧ ret.toInt - 15 ≤ 0
set_option maxRecDepth 10000 in
set_option maxHeartbeats 4000000 in
theorem c_287 (σ0 : SG) (hσ0 : WT σ0) (a : Int32) (b : Int32) : En 5 115 none mr_287 (P_287 σ0 a b) 0 [(0, .ref 159), (1, .int a), (2, .int b)] [] σ0 := by
  have hF0 : Fr [(35, 18), (35, 21), (35, 22), (35, 23), (42, 0), (43, 0), (44, 0), (45, 0), (46, 0)] σ0 σ0 := Fr_rfl
  refine En_Ps 1 (pc' := 1) (lv' := [(0, .ref 159), (1, .int a), (2, .int b)]) (st' := [.int a]) rfl ?_
  refine En_callS rfl rfl rfl rfl rfl rfl rfl rfl rfl (c_268 σ0 hσ0 a) (by decide) (by decide) (fun v2 σ3 h1 => ?_)
  obtain ⟨h4, h5, z7, rfl, h6⟩ := h1
  have h8 := Fr_trans hF0 h5 (by decide +kernel)
  refine En_iEq _ rfl rfl (fun h9 => ?_) (fun h9 => ?_)
  · refine En_Ps 1 (pc' := 17) (lv' := [(0, .ref 159), (1, .int a), (2, .int b)]) (st' := [.int (((Int8.ofInt (-2)).toInt32))]) rfl ?_
    refine En_top (by decide : ((Int8.ofInt (-2)).toInt32).toInt = -2) (fun z10 h11 => ?_)
    exact En_ret (v := some (Value.int z10)) rfl rfl rfl ⟨h4, h8, z10, rfl, ⟨by first | exact q_f35c5d346c h11 | omega, by first | exact q_12a74e12a3 h11 | omega⟩⟩
  · refine En_Ps 2 (pc' := 9) (lv' := [(0, .ref 159), (1, .int a), (2, .int b)]) (st' := [.int b, .ref 159]) rfl ?_
    refine En_callV rfl rfl rfl rfl rfl rfl rfl rfl tgz_159 (by decide +kernel) rfl (c_195 σ3 h4 b) (by decide) (by decide) (fun v13 σ14 h12 => ?_)
    obtain ⟨h15, h16, z18, rfl, h17⟩ := h12
    have h19 := Fr_trans h8 h16 (by decide +kernel)
    refine En_iNe _ rfl rfl (fun h20 => ?_) (fun h20 => ?_)
    · refine En_Ps 6 (pc' := 28) (lv' := [(5, .int ((Int32.ofInt 0))), (4, .int ((1000000 : Int32))), (3, .int ((Int32.ofInt (-1)))), (0, .ref 159), (1, .int a), (2, .int b)]) (st' := []) rfl ?_
      have key28 : ∀ (n28 : Nat) (σ24 : SG) (y21 : Int32) (y22 : Int32) (y23 : Int32), WT σ24 → Fr [(35, 18), (35, 21), (35, 22), (35, 23), (42, 0), (43, 0), (44, 0), (45, 0), (46, 0)] σ0 σ24 → (-1) ≤ y21.toInt → y21.toInt ≤ 15 → y22.toInt ≤ 1000000 → 0 ≤ y23.toInt → y23.toInt ≤ 16 → y21.toInt - y23.toInt + 1 ≤ 0 → -y23.toInt + 16 < (n28 : Int) → En 5 115 none mr_287 (P_287 σ0 a b) 28 [(0, .ref 159), (1, .int a), (2, .int b), (3, .int y21), (4, .int y22), (5, .int y23)] [] σ24 := by
        intro n28
        induction n28 with
        | zero =>
          intro σ24 y21 y22 y23 h25 h26 h27 h28 h29 h30 h31 h32 h33
          first | exact (q_511f6d33ac h33 h31).elim | (exfalso; omega)
        | succ n28 ih28 =>
          intro σ24 y21 y22 y23 h25 h26 h27 h28 h29 h30 h31 h32 h33
          refine En_Ps 2 (pc' := 31) (lv' := [(0, .ref 159), (1, .int a), (2, .int b), (3, .int y21), (4, .int y22), (5, .int y23)]) (st' := [.ref 159, .int y23]) rfl ?_
          obtain ⟨z35, h34, h36, h37⟩ := WT_peekI h25 tgz_160 (by decide +kernel : FT 36 (0 : Int).toNat = (0, 0, 4)) (by decide +kernel)
          obtain ⟨z39, h38, h40, h41⟩ := WT_peekI h25 tgz_160 (by decide +kernel : FT 36 (7 : Int).toNat = (0, 0, 1600)) (by decide +kernel)
          refine En_callV rfl rfl rfl rfl rfl rfl rfl rfl tgz_159 (by decide +kernel) rfl (c_269 σ24 h25 z35 h34 z39 h38) (by decide) (by decide) (fun v43 σ44 h42 => ?_)
          obtain ⟨h45, h46, z48, rfl, h47⟩ := h42
          have h49 := h47.2.2
          have h50 := Fr_trans h26 h46 (by decide +kernel)
          refine En_icGe _ rfl rfl rfl (fun h51 => ?_) (fun h51 => ?_)
          · refine En_Ps 1 (pc' := 89) (lv' := [(0, .ref 159), (1, .int a), (2, .int b), (3, .int y21), (4, .int y22), (5, .int y23)]) (st' := [.int y21]) rfl ?_
            exact En_ret (v := some (Value.int y21)) rfl rfl rfl ⟨h45, h50, y21, rfl, ⟨by first | exact q_fe58cd40d0 h27 | omega, by first | exact q_867a9ac627 h28 | omega⟩⟩
          · refine En_Ps 2 (pc' := 40) (lv' := [(0, .ref 159), (1, .int a), (2, .int b), (3, .int y21), (4, .int y22), (5, .int y23)]) (st' := [.int y23, .int b]) rfl ?_
            refine En_callS rfl rfl rfl rfl rfl rfl rfl rfl rfl (c_202b σ44 h45 b y23) (by decide) (by decide) (fun v53 σ54 h52 => ?_)
            obtain ⟨h55, h56, z58, rfl, h57⟩ := h52
            have h59 := Fr_trans h50 h56 (by decide +kernel)
            refine En_Ps 1 (pc' := 44) (lv' := [(0, .ref 159), (1, .int a), (2, .int b), (3, .int y21), (4, .int y22), (5, .int y23)]) (st' := [.int ((Int32.ofInt 1)), .int z58]) rfl ?_
            refine En_icNe _ rfl (by decide : (Int32.ofInt 1).toInt = 1) rfl (fun h60 => ?_) (fun h60 => ?_)
            · refine En_Ps 6 (pc' := 57) (lv' := [(0, .ref 159), (1, .int a), (2, .int b), (3, .int y21), (4, .int y22), (5, .int y23)]) (st' := [.int ((((Int32.ofInt 1)) <<< (y23 &&& 31))), .int b, .int a, .ref 159]) rfl ?_
              refine En_rng (shl1_p 15 rfl (by (first | exact q_58e6e51dcc h30 | omega)) (by (first | exact q_e19f9506e1 h51 h47.2.1 | omega)) (by decide)) (fun z61 h62 h63 => ?_)
              refine En_Ps 1 (pc' := 58) (lv' := [(0, .ref 159), (1, .int a), (2, .int b), (3, .int y21), (4, .int y22), (5, .int y23)]) (st' := [.int ((b ||| z61)), .int a, .ref 159]) rfl ?_
              refine En_rng (l := 0) (u := 65535) (or_rng 16 rfl rfl (by (first | exact q_bdb2fe5ea8 h17.2.2 h17.2.1 h20 h17.1 | omega)) (by omega) (by (first | exact q_337a85e294 h62 | omega)) (by omega) (by decide)) (fun z64 h65 h66 => ?_)
              refine En_callV rfl rfl rfl rfl rfl rfl rfl rfl tgz_159 (by decide +kernel) rfl (c_321 σ54 h55 a z64) (by decide) (by decide) (fun v68 σ69 h67 => ?_)
              obtain ⟨h70, h71, rfl, h72⟩ := h67
              have h73 := Fr_trans h59 h71 (by decide +kernel)
              refine En_Ps 1 (pc' := 62) (lv' := [(0, .ref 159), (1, .int a), (2, .int b), (3, .int y21), (4, .int y22), (5, .int y23)]) (st' := [.ref 159]) rfl ?_
              refine En_getI (j := 22) (l := (-2147483648)) (u := 2147483647) rfl rfl rfl tgz_159 (by decide +kernel) h70 (by decide +kernel) (fun z75 h74 h76 h77 => ?_)
              refine En_Ps 1 (pc' := 67) (lv' := [(0, .ref 159), (1, .int a), (2, .int b), (3, .int y21), (4, .int y22), (5, .int y23)]) (st' := [.int y22, .int z75]) rfl ?_
              refine En_icLt _ rfl rfl rfl (fun h78 => ?_) (fun h78 => ?_)
              · refine En_Ps 1 (pc' := 74) (lv' := [(0, .ref 159), (1, .int a), (2, .int b), (3, .int y21), (4, .int y22), (5, .int y23)]) (st' := [.ref 159]) rfl ?_
                refine En_getK (j := 22) h74 rfl rfl rfl tgz_159 (by decide +kernel) ?_
                refine En_Ps 4 (pc' := 85) (lv' := [(5, .int ((y23 + Int32.ofInt 1))), (3, .int y23), (4, .int z75), (0, .ref 159), (1, .int a), (2, .int b)]) (st' := []) rfl ?_
                refine En_lv1 (addI rfl (by decide : (Int32.ofInt 1).toInt = 1) (by first | exact q_465ab79ac1 h30 | omega) (by first | exact q_f3f8e04381 h31 | omega)) (fun z79 h80 => ?_)
                refine En_Ps 1 (pc' := 28) (lv' := [(5, .int z79), (3, .int y23), (4, .int z75), (0, .ref 159), (1, .int a), (2, .int b)]) (st' := []) rfl ?_
                refine En_lv (lv := [(0, .ref 159), (1, .int a), (2, .int b), (3, .int y23), (4, .int z75), (5, .int z79)]) ⟨rfl, rfl, rfl, rfl, rfl, rfl, trivial⟩ ?_
                exact ih28 σ69 y23 z75 z79 h70 h73 (by first | exact q_5b439548fc h30 | omega) (by first | exact q_c15b485600 h51 h47.2.1 | omega) (by first | exact q_d3ae4bc11d h78 h29 | omega) (by first | exact q_35104ce9d3 h80 h30 | omega) (by first | exact q_34dc714687 h80 h51 h47.2.1 | omega) (by first | exact q_2fedec469a h80 | omega) (by first | exact q_c5d740bdff h80 h33 | omega)
              · refine En_Ps 2 (pc' := 85) (lv' := [(5, .int ((y23 + Int32.ofInt 1))), (0, .ref 159), (1, .int a), (2, .int b), (3, .int y21), (4, .int y22)]) (st' := []) rfl ?_
                refine En_lv1 (addI rfl (by decide : (Int32.ofInt 1).toInt = 1) (by first | exact q_465ab79ac1 h30 | omega) (by first | exact q_f3f8e04381 h31 | omega)) (fun z81 h82 => ?_)
                refine En_Ps 1 (pc' := 28) (lv' := [(5, .int z81), (0, .ref 159), (1, .int a), (2, .int b), (3, .int y21), (4, .int y22)]) (st' := []) rfl ?_
                refine En_lv (lv := [(0, .ref 159), (1, .int a), (2, .int b), (3, .int y21), (4, .int y22), (5, .int z81)]) ⟨rfl, rfl, rfl, rfl, rfl, rfl, trivial⟩ ?_
                exact ih28 σ69 y21 y22 z81 h70 h73 (by first | exact q_77b189e83d h27 | omega) (by first | exact q_5a4d8a7e08 h28 | omega) (by first | exact q_2507c1a77a h29 | omega) (by first | exact q_35104ce9d3 h82 h30 | omega) (by first | exact q_34dc714687 h82 h51 h47.2.1 | omega) (by first | exact q_6591527e3e h32 h82 | omega) (by first | exact q_c5d740bdff h82 h33 | omega)
            · refine En_Ps 2 (pc' := 85) (lv' := [(5, .int ((y23 + Int32.ofInt 1))), (0, .ref 159), (1, .int a), (2, .int b), (3, .int y21), (4, .int y22)]) (st' := []) rfl ?_
              refine En_lv1 (addI rfl (by decide : (Int32.ofInt 1).toInt = 1) (by first | exact q_465ab79ac1 h30 | omega) (by first | exact q_f3f8e04381 h31 | omega)) (fun z83 h84 => ?_)
              refine En_Ps 1 (pc' := 28) (lv' := [(5, .int z83), (0, .ref 159), (1, .int a), (2, .int b), (3, .int y21), (4, .int y22)]) (st' := []) rfl ?_
              refine En_lv (lv := [(0, .ref 159), (1, .int a), (2, .int b), (3, .int y21), (4, .int y22), (5, .int z83)]) ⟨rfl, rfl, rfl, rfl, rfl, rfl, trivial⟩ ?_
              exact ih28 σ54 y21 y22 z83 h55 h59 (by first | exact q_77b189e83d h27 | omega) (by first | exact q_5a4d8a7e08 h28 | omega) (by first | exact q_2507c1a77a h29 | omega) (by first | exact q_35104ce9d3 h84 h30 | omega) (by first | exact q_34dc714687 h84 h51 h47.2.1 | omega) (by first | exact q_6591527e3e h32 h84 | omega) (by first | exact q_c5d740bdff h84 h33 | omega)
      have := (by decide : (Int32.ofInt (-1)).toInt = -1)
      have := (by decide : (1000000 : Int32).toInt = 1000000)
      have := (by decide : (Int32.ofInt 0).toInt = 0)
      refine En_lv (lv := [(0, .ref 159), (1, .int a), (2, .int b), (3, .int ((Int32.ofInt (-1)))), (4, .int ((1000000 : Int32))), (5, .int ((Int32.ofInt 0)))]) ⟨rfl, rfl, rfl, rfl, rfl, rfl, trivial⟩ ?_
      exact key28 (Int.toNat (16) + 1) σ14 ((Int32.ofInt (-1))) ((1000000 : Int32)) ((Int32.ofInt 0)) h15 h19 (by decide) (by decide) (by decide) (by decide) (by decide) (by (first | exact q_2e3352c2b4 this (by decide) | omega)) (by first | exact toN_lt _ | omega)
    · refine En_Ps 1 (pc' := 17) (lv' := [(0, .ref 159), (1, .int a), (2, .int b)]) (st' := [.int (((Int8.ofInt (-2)).toInt32))]) rfl ?_
      refine En_top (by decide : ((Int8.ofInt (-2)).toInt32).toInt = -2) (fun z85 h86 => ?_)
      exact En_ret (v := some (Value.int z85)) rfl rfl rfl ⟨h15, h19, z85, rfl, ⟨by first | exact q_f35c5d346c h86 | omega, by first | exact q_12a74e12a3 h86 | omega⟩⟩
/-- DoorSchoolModel.often(I)I -/
abbrev P_291 (σ0 : SG) (a : Int32) : PO := fun v σ => WT σ ∧ Fr [(35, 18), (35, 21), (42, 0), (43, 0), (44, 0), (45, 0), (46, 0)] σ0 σ ∧ ∃ ret : Int32, v = some (Value.int ret) ∧ True
set_option maxRecDepth 10000 in
set_option maxHeartbeats 4000000 in
theorem c_291 (σ0 : SG) (hσ0 : WT σ0) (a : Int32) : En 5 112 none mr_291 (P_291 σ0 a) 0 [(0, .ref 159), (1, .int a)] [] σ0 := by
  have hF0 : Fr [(35, 18), (35, 21), (42, 0), (43, 0), (44, 0), (45, 0), (46, 0)] σ0 σ0 := Fr_rfl
  refine En_Ps 2 (pc' := 2) (lv' := [(0, .ref 159), (1, .int a)]) (st' := [.int a, .ref 159]) rfl ?_
  obtain ⟨z2, h1, h3, h4⟩ := WT_peekI hσ0 tgz_160 (by decide +kernel : FT 36 (2 : Int).toNat = (0, 0, 4)) (by decide +kernel)
  refine En_callV rfl rfl rfl rfl rfl rfl rfl rfl tgz_159 (by decide +kernel) rfl (c_254 σ0 hσ0 a z2 h1) (by decide) (by decide) (fun v6 σ7 h5 => ?_)
  obtain ⟨h8, h9, z11, rfl, h10⟩ := h5
  have h12 := Fr_trans hF0 h9 (by decide +kernel)
  refine En_iEq _ rfl rfl (fun h13 => ?_) (fun h13 => ?_)
  · refine En_Ps 1 (pc' := 21) (lv' := [(0, .ref 159), (1, .int a)]) (st' := [.int (((Int8.ofInt (-2)).toInt32))]) rfl ?_
    refine En_top (by decide : ((Int8.ofInt (-2)).toInt32).toInt = -2) (fun z14 h15 => ?_)
    exact En_ret (v := some (Value.int z14)) rfl rfl rfl ⟨h8, h12, z14, rfl, trivial⟩
  · refine En_Ps 2 (pc' := 10) (lv' := [(0, .ref 159), (1, .int a)]) (st' := [.int a, .ref 159]) rfl ?_
    refine En_callV rfl rfl rfl rfl rfl rfl rfl rfl tgz_159 (by decide +kernel) rfl (c_213 σ7 h8 a (geI rfl (by (first | exact q_bf8258001b h10.2.2.1 h13 h10.1 | omega))) (leI rfl (by (first | exact q_88b0c3c731 h10.2.2.1 h13 h10.1 h4 | omega)))) (by decide) (by decide) (fun v17 σ18 h16 => ?_)
    obtain ⟨h19, h20, z22, h23, z24, rfl, h21⟩ := h16
    have h25 := Fr_trans h12 h20 (by decide +kernel)
    refine En_callS rfl rfl rfl rfl rfl rfl rfl rfl rfl (c_203b σ18 h19 z24) (by decide) (by decide) (fun v27 σ28 h26 => ?_)
    obtain ⟨h29, h30, z32, rfl, h31⟩ := h26
    have h33 := Fr_trans h25 h30 (by decide +kernel)
    refine En_Ps 1 (pc' := 21) (lv' := [(0, .ref 159), (1, .int a)]) (st' := [.int z32]) rfl ?_
    exact En_ret (v := some (Value.int z32)) rfl rfl rfl ⟨h29, h33, z32, rfl, trivial⟩
/-- DoorSchoolModel.opens(II)I -/
abbrev P_292 (σ0 : SG) (a : Int32) (b : Int32) : PO := fun v σ => WT σ ∧ Fr [(35, 18), (35, 21), (42, 0), (43, 0), (44, 0), (45, 0), (46, 0)] σ0 σ ∧ ∃ ret : Int32, v = some (Value.int ret) ∧ -ret.toInt - 2 ≤ 0 ∧ ret.toInt - 1 ≤ 0
set_option maxRecDepth 10000 in
set_option maxHeartbeats 4000000 in
theorem c_292 (σ0 : SG) (hσ0 : WT σ0) (a : Int32) (b : Int32) : En 5 112 none mr_292 (P_292 σ0 a b) 0 [(0, .ref 159), (1, .int a), (2, .int b)] [] σ0 := by
  have hF0 : Fr [(35, 18), (35, 21), (42, 0), (43, 0), (44, 0), (45, 0), (46, 0)] σ0 σ0 := Fr_rfl
  refine En_Ps 2 (pc' := 2) (lv' := [(0, .ref 159), (1, .int a), (2, .int b)]) (st' := [.int a, .ref 159]) rfl ?_
  obtain ⟨z2, h1, h3, h4⟩ := WT_peekI hσ0 tgz_160 (by decide +kernel : FT 36 (2 : Int).toNat = (0, 0, 4)) (by decide +kernel)
  refine En_callV rfl rfl rfl rfl rfl rfl rfl rfl tgz_159 (by decide +kernel) rfl (c_254 σ0 hσ0 a z2 h1) (by decide) (by decide) (fun v6 σ7 h5 => ?_)
  obtain ⟨h8, h9, z11, rfl, h10⟩ := h5
  have h12 := Fr_trans hF0 h9 (by decide +kernel)
  refine En_iEq _ rfl rfl (fun h13 => ?_) (fun h13 => ?_)
  · refine En_Ps 1 (pc' := 31) (lv' := [(0, .ref 159), (1, .int a), (2, .int b)]) (st' := [.int (((Int8.ofInt (-2)).toInt32))]) rfl ?_
    refine En_top (by decide : ((Int8.ofInt (-2)).toInt32).toInt = -2) (fun z14 h15 => ?_)
    exact En_ret (v := some (Value.int z14)) rfl rfl rfl ⟨h8, h12, z14, rfl, ⟨by first | exact q_f35c5d346c h15 | omega, by first | exact q_680688d8e6 h15 | omega⟩⟩
  · refine En_Ps 3 (pc' := 11) (lv' := [(0, .ref 159), (1, .int a), (2, .int b)]) (st' := [.long b.toInt64, .ref 159]) rfl ?_
    have : b.toInt64.toInt = b.toInt := (i2lI rfl)
    refine En_callV rfl rfl rfl rfl rfl rfl rfl rfl tgz_159 (by decide +kernel) rfl (c_259 σ7 h8 b.toInt64) (by decide) (by decide) (fun v17 σ18 h16 => ?_)
    obtain ⟨h19, h20, z22, rfl, h21⟩ := h16
    have h23 := Fr_trans h12 h20 (by decide +kernel)
    refine En_iEq _ rfl rfl (fun h24 => ?_) (fun h24 => ?_)
    · refine En_Ps 1 (pc' := 31) (lv' := [(0, .ref 159), (1, .int a), (2, .int b)]) (st' := [.int (((Int8.ofInt (-2)).toInt32))]) rfl ?_
      refine En_top (by decide : ((Int8.ofInt (-2)).toInt32).toInt = -2) (fun z25 h26 => ?_)
      exact En_ret (v := some (Value.int z25)) rfl rfl rfl ⟨h19, h23, z25, rfl, ⟨by first | exact q_f35c5d346c h26 | omega, by first | exact q_680688d8e6 h26 | omega⟩⟩
    · refine En_Ps 2 (pc' := 19) (lv' := [(0, .ref 159), (1, .int a), (2, .int b)]) (st' := [.int a, .ref 159]) rfl ?_
      refine En_callV rfl rfl rfl rfl rfl rfl rfl rfl tgz_159 (by decide +kernel) rfl (c_213 σ18 h19 a (geI rfl (by (first | exact q_bf8258001b h10.2.2.1 h13 h10.1 | omega))) (leI rfl (by (first | exact q_88b0c3c731 h10.2.2.1 h13 h10.1 h4 | omega)))) (by decide) (by decide) (fun v28 σ29 h27 => ?_)
      obtain ⟨h30, h31, z33, h34, z35, rfl, h32⟩ := h27
      have h36 := Fr_trans h23 h31 (by decide +kernel)
      refine En_Ps 1 (pc' := 23) (lv' := [(0, .ref 159), (1, .int a), (2, .int b)]) (st' := [.int b, .int z35]) rfl ?_
      refine En_callS rfl rfl rfl rfl rfl rfl rfl rfl rfl (c_202b σ29 h30 z35 b) (by decide) (by decide) (fun v38 σ39 h37 => ?_)
      obtain ⟨h40, h41, z43, rfl, h42⟩ := h37
      have h44 := Fr_trans h36 h41 (by decide +kernel)
      refine En_Ps 1 (pc' := 31) (lv' := [(0, .ref 159), (1, .int a), (2, .int b)]) (st' := [.int z43]) rfl ?_
      exact En_ret (v := some (Value.int z43)) rfl rfl rfl ⟨h40, h44, z43, rfl, ⟨by first | exact q_70a249c7f8 h42.1 | omega, by first | exact q_ad5b726bf8 h42.2 | omega⟩⟩
/-- DoorSchoolModel.paste(IIIII)I -/
abbrev P_297 (σ0 : SG) (a : Int32) (b : Int32) (c : Int32) (d : Int32) (e : Int32) : PO := fun v σ => WT σ ∧ Fr [(55, 0), (56, 0)] σ0 σ ∧ ∃ ret : Int32, v = some (Value.int ret) ∧ -ret.toInt - 8 ≤ 0 ∧ ret.toInt ≤ 0
set_option maxRecDepth 10000 in
set_option maxHeartbeats 4000000 in
theorem c_297 (σ0 : SG) (hσ0 : WT σ0) (a : Int32) (b : Int32) (c : Int32) (d : Int32) (e : Int32) : En 2 45 none mr_297 (P_297 σ0 a b c d e) 0 [(0, .ref 159), (1, .int a), (2, .int b), (3, .int c), (4, .int d), (5, .int e)] [] σ0 := by
  have hF0 : Fr [(55, 0), (56, 0)] σ0 σ0 := Fr_rfl
  refine En_Ps 1 (pc' := 1) (lv' := [(0, .ref 159), (1, .int a), (2, .int b), (3, .int c), (4, .int d), (5, .int e)]) (st' := [.int a]) rfl ?_
  refine En_callS rfl rfl rfl rfl rfl rfl rfl rfl rfl (c_266 σ0 hσ0 a) (by decide) (by decide) (fun v2 σ3 h1 => ?_)
  obtain ⟨h4, h5, z7, rfl, h6⟩ := h1
  have h8 := Fr_trans hF0 h5 (by decide +kernel)
  refine En_iEq _ rfl rfl (fun h9 => ?_) (fun h9 => ?_)
  · refine En_Ps 1 (pc' := 16) (lv' := [(0, .ref 159), (1, .int a), (2, .int b), (3, .int c), (4, .int d), (5, .int e)]) (st' := [.int (((Int8.ofInt (-2)).toInt32))]) rfl ?_
    refine En_top (by decide : ((Int8.ofInt (-2)).toInt32).toInt = -2) (fun z10 h11 => ?_)
    exact En_ret (v := some (Value.int z10)) rfl rfl rfl ⟨h4, h8, z10, rfl, ⟨by first | exact q_a9585dd42b h11 | omega, by first | exact q_bbb39ffa1e h11 | omega⟩⟩
  · refine En_Ps 1 (pc' := 8) (lv' := [(0, .ref 159), (1, .int a), (2, .int b), (3, .int c), (4, .int d), (5, .int e)]) (st' := [.int c]) rfl ?_
    refine En_callS rfl rfl rfl rfl rfl rfl rfl rfl rfl (c_266 σ3 h4 c) (by decide) (by decide) (fun v13 σ14 h12 => ?_)
    obtain ⟨h15, h16, z18, rfl, h17⟩ := h12
    have h19 := Fr_trans h8 h16 (by decide +kernel)
    refine En_iNe _ rfl rfl (fun h20 => ?_) (fun h20 => ?_)
    · refine En_Ps 1 (pc' := 18) (lv' := [(0, .ref 159), (1, .int a), (2, .int b), (3, .int c), (4, .int d), (5, .int e)]) (st' := [.ref 159]) rfl ?_
      refine En_getU (j := 32) (u := 177) (g' := 53) (q := 0) rfl rfl rfl tgz_159 (by decide +kernel) h15 (by decide +kernel) un_53_177 (fun h21 => ?_)
      refine En_Ps 1 (pc' := 22) (lv' := [(0, .ref 159), (1, .int a), (2, .int b), (3, .int c), (4, .int d), (5, .int e)]) (st' := [.int a, .ref 177]) rfl ?_
      refine En_iald (l := (-1)) (u := 60) rfl rfl tgz_177 (by decide +kernel) h15 (by (first | exact q_32028d2b65 h6.2.2.1 h6.2.1 h9 h6.1 | omega)) (lnI (by decide +kernel : LN _ = 4) (by (first | exact q_87da96c949 h6.2.2.1 h6.2.1 h9 h6.1 | omega))) (FTsgl (by decide +kernel)) (fun z24 h23 h25 h26 => ?_)
      refine En_Ps 1 (pc' := 24) (lv' := [(0, .ref 159), (1, .int a), (2, .int b), (3, .int c), (4, .int d), (5, .int e)]) (st' := [.int ((Int32.ofInt (-1))), .int z24]) rfl ?_
      refine En_icEq _ rfl (by decide : (Int32.ofInt (-1)).toInt = -1) rfl (fun h27 => ?_) (fun h27 => ?_)
      · refine En_Ps 1 (pc' := 39) (lv' := [(0, .ref 159), (1, .int a), (2, .int b), (3, .int c), (4, .int d), (5, .int e)]) (st' := [.int (((Int8.ofInt (-6)).toInt32))]) rfl ?_
        refine En_top (by decide : ((Int8.ofInt (-6)).toInt32).toInt = -6) (fun z28 h29 => ?_)
        exact En_ret (v := some (Value.int z28)) rfl rfl rfl ⟨h15, h19, z28, rfl, ⟨by first | exact q_04810bc0c7 h29 | omega, by first | exact q_9bcb887de1 h29 | omega⟩⟩
      · refine En_Ps 1 (pc' := 28) (lv' := [(0, .ref 159), (1, .int a), (2, .int b), (3, .int c), (4, .int d), (5, .int e)]) (st' := [.ref 159]) rfl ?_
        refine En_getK (j := 32) h21 rfl rfl rfl tgz_159 (by decide +kernel) ?_
        refine En_Ps 1 (pc' := 32) (lv' := [(0, .ref 159), (1, .int a), (2, .int b), (3, .int c), (4, .int d), (5, .int e)]) (st' := [.int c, .ref 177]) rfl ?_
        refine En_iald (l := (-1)) (u := 60) rfl rfl tgz_177 (by decide +kernel) h15 (by (first | exact q_32028d2b65 h17.2.2.1 h17.2.1 h20 h17.1 | omega)) (lnI (by decide +kernel : LN _ = 4) (by (first | exact q_87da96c949 h17.2.2.1 h17.2.1 h20 h17.1 | omega))) (FTsgl (by decide +kernel)) (fun z31 h30 h32 h33 => ?_)
        refine En_Ps 1 (pc' := 34) (lv' := [(0, .ref 159), (1, .int a), (2, .int b), (3, .int c), (4, .int d), (5, .int e)]) (st' := [.int ((Int32.ofInt (-1))), .int z31]) rfl ?_
        refine En_icNe _ rfl (by decide : (Int32.ofInt (-1)).toInt = -1) rfl (fun h34 => ?_) (fun h34 => ?_)
        · refine En_Ps 1 (pc' := 41) (lv' := [(0, .ref 159), (1, .int a), (2, .int b), (3, .int c), (4, .int d), (5, .int e)]) (st' := [.ref 159]) rfl ?_
          refine En_getU (j := 33) (u := 178) (g' := 54) (q := 0) rfl rfl rfl tgz_159 (by decide +kernel) h15 (by decide +kernel) un_54_178 (fun h35 => ?_)
          refine En_Ps 1 (pc' := 45) (lv' := [(0, .ref 159), (1, .int a), (2, .int b), (3, .int c), (4, .int d), (5, .int e)]) (st' := [.int a, .ref 178]) rfl ?_
          refine En_iald (l := 0) (u := 3) rfl rfl tgz_178 (by decide +kernel) h15 (by (first | exact q_32028d2b65 h6.2.2.1 h6.2.1 h9 h6.1 | omega)) (lnI (by decide +kernel : LN _ = 4) (by (first | exact q_87da96c949 h6.2.2.1 h6.2.1 h9 h6.1 | omega))) (FTsgl (by decide +kernel)) (fun z38 h37 h39 h40 => ?_)
          refine En_Ps 1 (pc' := 47) (lv' := [(0, .ref 159), (1, .int a), (2, .int b), (3, .int c), (4, .int d), (5, .int e)]) (st' := [.ref 159, .int z38]) rfl ?_
          refine En_getK (j := 33) h35 rfl rfl rfl tgz_159 (by decide +kernel) ?_
          refine En_Ps 1 (pc' := 51) (lv' := [(0, .ref 159), (1, .int a), (2, .int b), (3, .int c), (4, .int d), (5, .int e)]) (st' := [.int c, .ref 178, .int z38]) rfl ?_
          refine En_iald (l := 0) (u := 3) rfl rfl tgz_178 (by decide +kernel) h15 (by (first | exact q_32028d2b65 h17.2.2.1 h17.2.1 h20 h17.1 | omega)) (lnI (by decide +kernel : LN _ = 4) (by (first | exact q_87da96c949 h17.2.2.1 h17.2.1 h20 h17.1 | omega))) (FTsgl (by decide +kernel)) (fun z42 h41 h43 h44 => ?_)
          refine En_icEq _ rfl rfl rfl (fun h45 => ?_) (fun h45 => ?_)
          · refine En_Ps 1 (pc' := 59) (lv' := [(0, .ref 159), (1, .int a), (2, .int b), (3, .int c), (4, .int d), (5, .int e)]) (st' := [.int b]) rfl ?_
            refine En_iLt _ rfl rfl (fun h46 => ?_) (fun h46 => ?_)
            · refine En_Ps 1 (pc' := 109) (lv' := [(0, .ref 159), (1, .int a), (2, .int b), (3, .int c), (4, .int d), (5, .int e)]) (st' := [.int (((Int8.ofInt (-7)).toInt32))]) rfl ?_
              refine En_top (by decide : ((Int8.ofInt (-7)).toInt32).toInt = -7) (fun z47 h48 => ?_)
              exact En_ret (v := some (Value.int z47)) rfl rfl rfl ⟨h15, h19, z47, rfl, ⟨by first | exact q_bed7a61884 h48 | omega, by first | exact q_d916b56ab6 h48 | omega⟩⟩
            · refine En_Ps 1 (pc' := 64) (lv' := [(0, .ref 159), (1, .int a), (2, .int b), (3, .int c), (4, .int d), (5, .int e)]) (st' := [.int d]) rfl ?_
              refine En_iLt _ rfl rfl (fun h49 => ?_) (fun h49 => ?_)
              · refine En_Ps 1 (pc' := 109) (lv' := [(0, .ref 159), (1, .int a), (2, .int b), (3, .int c), (4, .int d), (5, .int e)]) (st' := [.int (((Int8.ofInt (-7)).toInt32))]) rfl ?_
                refine En_top (by decide : ((Int8.ofInt (-7)).toInt32).toInt = -7) (fun z50 h51 => ?_)
                exact En_ret (v := some (Value.int z50)) rfl rfl rfl ⟨h15, h19, z50, rfl, ⟨by first | exact q_bed7a61884 h51 | omega, by first | exact q_d916b56ab6 h51 | omega⟩⟩
              · refine En_Ps 1 (pc' := 69) (lv' := [(0, .ref 159), (1, .int a), (2, .int b), (3, .int c), (4, .int d), (5, .int e)]) (st' := [.int e]) rfl ?_
                refine En_iLt _ rfl rfl (fun h52 => ?_) (fun h52 => ?_)
                · refine En_Ps 1 (pc' := 109) (lv' := [(0, .ref 159), (1, .int a), (2, .int b), (3, .int c), (4, .int d), (5, .int e)]) (st' := [.int (((Int8.ofInt (-7)).toInt32))]) rfl ?_
                  refine En_top (by decide : ((Int8.ofInt (-7)).toInt32).toInt = -7) (fun z53 h54 => ?_)
                  exact En_ret (v := some (Value.int z53)) rfl rfl rfl ⟨h15, h19, z53, rfl, ⟨by first | exact q_bed7a61884 h54 | omega, by first | exact q_d916b56ab6 h54 | omega⟩⟩
                · refine En_Ps 1 (pc' := 73) (lv' := [(0, .ref 159), (1, .int a), (2, .int b), (3, .int c), (4, .int d), (5, .int e)]) (st' := [.int b]) rfl ?_
                  have := fullI b
                  refine En_Ps 2 (pc' := 76) (lv' := [(0, .ref 159), (1, .int a), (2, .int b), (3, .int c), (4, .int d), (5, .int e)]) (st' := [.int e, .long b.toInt64]) rfl ?_
                  have := fullI e
                  refine En_Ps 2 (pc' := 78) (lv' := [(0, .ref 159), (1, .int a), (2, .int b), (3, .int c), (4, .int d), (5, .int e)]) (st' := [.long ((b.toInt64 + e.toInt64))]) rfl ?_
                  refine En_topL (addL (i2lI rfl) (i2lI rfl) (by omega) (by omega)) (fun z55 h56 => ?_)
                  refine En_Ps 1 (pc' := 79) (lv' := [(0, .ref 159), (1, .int a), (2, .int b), (3, .int c), (4, .int d), (5, .int e)]) (st' := [.ref 159, .long z55]) rfl ?_
                  refine En_getK (j := 32) h21 rfl rfl rfl tgz_159 (by decide +kernel) ?_
                  refine En_Ps 1 (pc' := 83) (lv' := [(0, .ref 159), (1, .int a), (2, .int b), (3, .int c), (4, .int d), (5, .int e)]) (st' := [.int a, .ref 177, .long z55]) rfl ?_
                  refine En_ialdK h23 rfl rfl tgz_177 (by decide +kernel) h15 (by (first | exact q_32028d2b65 h6.2.2.1 h6.2.1 h9 h6.1 | omega)) (lnI (by decide +kernel : LN _ = 4) (by (first | exact q_87da96c949 h6.2.2.1 h6.2.1 h9 h6.1 | omega))) ?_
                  have := fullI z24
                  refine En_Ps 2 (pc' := 86) (lv' := [(0, .ref 159), (1, .int a), (2, .int b), (3, .int c), (4, .int d), (5, .int e)]) (st' := [.int (lg_cmp z55 z24.toInt64)]) rfl ?_
                  refine En_lgGt _ rfl (i2lI rfl) rfl (fun h58 => ?_) (fun h58 => ?_)
                  · refine En_Ps 1 (pc' := 109) (lv' := [(0, .ref 159), (1, .int a), (2, .int b), (3, .int c), (4, .int d), (5, .int e)]) (st' := [.int (((Int8.ofInt (-7)).toInt32))]) rfl ?_
                    refine En_top (by decide : ((Int8.ofInt (-7)).toInt32).toInt = -7) (fun z59 h60 => ?_)
                    exact En_ret (v := some (Value.int z59)) rfl rfl rfl ⟨h15, h19, z59, rfl, ⟨by first | exact q_bed7a61884 h60 | omega, by first | exact q_d916b56ab6 h60 | omega⟩⟩
                  · refine En_Ps 1 (pc' := 91) (lv' := [(0, .ref 159), (1, .int a), (2, .int b), (3, .int c), (4, .int d), (5, .int e)]) (st' := [.int d]) rfl ?_
                    have := fullI d
                    refine En_Ps 2 (pc' := 94) (lv' := [(0, .ref 159), (1, .int a), (2, .int b), (3, .int c), (4, .int d), (5, .int e)]) (st' := [.int e, .long d.toInt64]) rfl ?_
                    have := fullI e
                    refine En_Ps 2 (pc' := 96) (lv' := [(0, .ref 159), (1, .int a), (2, .int b), (3, .int c), (4, .int d), (5, .int e)]) (st' := [.long ((d.toInt64 + e.toInt64))]) rfl ?_
                    refine En_topL (addL (i2lI rfl) (i2lI rfl) (by omega) (by omega)) (fun z61 h62 => ?_)
                    refine En_Ps 1 (pc' := 97) (lv' := [(0, .ref 159), (1, .int a), (2, .int b), (3, .int c), (4, .int d), (5, .int e)]) (st' := [.ref 159, .long z61]) rfl ?_
                    refine En_getK (j := 32) h21 rfl rfl rfl tgz_159 (by decide +kernel) ?_
                    refine En_Ps 1 (pc' := 101) (lv' := [(0, .ref 159), (1, .int a), (2, .int b), (3, .int c), (4, .int d), (5, .int e)]) (st' := [.int c, .ref 177, .long z61]) rfl ?_
                    refine En_ialdK h30 rfl rfl tgz_177 (by decide +kernel) h15 (by (first | exact q_32028d2b65 h17.2.2.1 h17.2.1 h20 h17.1 | omega)) (lnI (by decide +kernel : LN _ = 4) (by (first | exact q_87da96c949 h17.2.2.1 h17.2.1 h20 h17.1 | omega))) ?_
                    have := fullI z31
                    refine En_Ps 2 (pc' := 104) (lv' := [(0, .ref 159), (1, .int a), (2, .int b), (3, .int c), (4, .int d), (5, .int e)]) (st' := [.int (lg_cmp z61 z31.toInt64)]) rfl ?_
                    refine En_lgLe _ rfl (i2lI rfl) rfl (fun h64 => ?_) (fun h64 => ?_)
                    · refine En_Ps 2 (pc' := 113) (lv' := [(6, .int ((Int32.ofInt 0))), (0, .ref 159), (1, .int a), (2, .int b), (3, .int c), (4, .int d), (5, .int e)]) (st' := []) rfl ?_
                      have key113 : ∀ (n113 : Nat) (σ66 : SG) (y65 : Int32), WT σ66 → Fr [(55, 0), (56, 0)] σ0 σ66 → (σ66 159)[32]? = some (Value.ref 177) → (σ66 177)[(a.toInt).toNat]? = some (Value.int z24) → (σ66 177)[(c.toInt).toNat]? = some (Value.int z31) → (σ66 159)[33]? = some (Value.ref 178) → (σ66 178)[(a.toInt).toNat]? = some (Value.int z38) → (σ66 178)[(c.toInt).toNat]? = some (Value.int z42) → 0 ≤ y65.toInt → y65.toInt ≤ 60 → y65.toInt - e.toInt ≤ 0 → e.toInt - y65.toInt < (n113 : Int) → En 2 45 none mr_297 (P_297 σ0 a b c d e) 113 [(0, .ref 159), (1, .int a), (2, .int b), (3, .int c), (4, .int d), (5, .int e), (6, .int y65)] [] σ66 := by
                        intro n113
                        induction n113 with
                        | zero =>
                          intro σ66 y65 h67 h68 h69 h70 h71 h72 h73 h74 h75 h76 h77 h78
                          first | exact (q_14257feae7 h77 h78).elim | (exfalso; omega)
                        | succ n113 ih113 =>
                          intro σ66 y65 h67 h68 h69 h70 h71 h72 h73 h74 h75 h76 h77 h78
                          refine En_Ps 2 (pc' := 117) (lv' := [(0, .ref 159), (1, .int a), (2, .int b), (3, .int c), (4, .int d), (5, .int e), (6, .int y65)]) (st' := [.int e, .int y65]) rfl ?_
                          refine En_icGe _ rfl rfl rfl (fun h79 => ?_) (fun h79 => ?_)
                          · refine En_Ps 2 (pc' := 150) (lv' := [(6, .int ((Int32.ofInt 0))), (0, .ref 159), (1, .int a), (2, .int b), (3, .int c), (4, .int d), (5, .int e)]) (st' := []) rfl ?_
                            have key150 : ∀ (n150 : Nat) (σ81 : SG) (y80 : Int32), WT σ81 → Fr [(55, 0), (56, 0)] σ0 σ81 → (σ81 159)[32]? = some (Value.ref 177) → (σ81 177)[(a.toInt).toNat]? = some (Value.int z24) → (σ81 177)[(c.toInt).toNat]? = some (Value.int z31) → (σ81 159)[33]? = some (Value.ref 178) → (σ81 178)[(a.toInt).toNat]? = some (Value.int z38) → (σ81 178)[(c.toInt).toNat]? = some (Value.int z42) → 0 ≤ y80.toInt → y80.toInt ≤ 60 → y80.toInt - e.toInt ≤ 0 → e.toInt - y80.toInt < (n150 : Int) → En 2 45 none mr_297 (P_297 σ0 a b c d e) 150 [(0, .ref 159), (1, .int a), (2, .int b), (3, .int c), (4, .int d), (5, .int e), (6, .int y80)] [] σ81 := by
                              intro n150
                              induction n150 with
                              | zero =>
                                intro σ81 y80 h82 h83 h84 h85 h86 h87 h88 h89 h90 h91 h92 h93
                                first | exact (q_14257feae7 h92 h93).elim | (exfalso; omega)
                              | succ n150 ih150 =>
                                intro σ81 y80 h82 h83 h84 h85 h86 h87 h88 h89 h90 h91 h92 h93
                                refine En_Ps 2 (pc' := 154) (lv' := [(0, .ref 159), (1, .int a), (2, .int b), (3, .int c), (4, .int d), (5, .int e), (6, .int y80)]) (st' := [.int e, .int y80]) rfl ?_
                                refine En_icGe _ rfl rfl rfl (fun h94 => ?_) (fun h94 => ?_)
                                · refine En_Ps 1 (pc' := 186) (lv' := [(0, .ref 159), (1, .int a), (2, .int b), (3, .int c), (4, .int d), (5, .int e), (6, .int y80)]) (st' := [.int ((Int32.ofInt 0))]) rfl ?_
                                  refine En_top (by decide : (Int32.ofInt 0).toInt = 0) (fun z95 h96 => ?_)
                                  exact En_ret (v := some (Value.int z95)) rfl rfl rfl ⟨h82, h83, z95, rfl, ⟨by first | exact q_444a964a01 h96 | omega, by first | exact q_c5d285f1b9 h96 | omega⟩⟩
                                · refine En_Ps 1 (pc' := 158) (lv' := [(0, .ref 159), (1, .int a), (2, .int b), (3, .int c), (4, .int d), (5, .int e), (6, .int y80)]) (st' := [.ref 159]) rfl ?_
                                  refine En_getU (j := 34) (u := 179) (g' := 55) (q := 0) rfl rfl rfl tgz_159 (by decide +kernel) h82 (by decide +kernel) un_55_179 (fun h97 => ?_)
                                  refine En_Ps 3 (pc' := 165) (lv' := [(0, .ref 159), (1, .int a), (2, .int b), (3, .int c), (4, .int d), (5, .int e), (6, .int y80)]) (st' := [.int (((((Int8.ofInt 60).toInt32)) * c)), .ref 179]) rfl ?_
                                  refine En_top (mulI (by decide : ((Int8.ofInt 60).toInt32).toInt = 60) rfl (Z := 60 * c.toInt) (by first | exact q_7a16b37b72 | omega) (by (first | exact q_3037e6bb8b h17.2.2.1 h17.2.1 h20 h17.1 | omega)) (by (first | exact q_71b3dc49ab h17.2.2.1 h17.2.1 h20 h17.1 | omega))) (fun z99 h100 => ?_)
                                  refine En_Ps 2 (pc' := 168) (lv' := [(0, .ref 159), (1, .int a), (2, .int b), (3, .int c), (4, .int d), (5, .int e), (6, .int y80)]) (st' := [.int ((z99 + d)), .ref 179]) rfl ?_
                                  refine En_top (addI rfl rfl (by (first | exact q_a027853e4b h100 h49 h17.2.2.1 h17.2.1 h20 h17.1 | omega)) (by (first | exact q_5ca4995fe9 h100 h62 h52 h17.2.2.1 h17.2.1 h20 h17.1 h64 h33 | omega))) (fun z101 h102 => ?_)
                                  refine En_Ps 2 (pc' := 171) (lv' := [(0, .ref 159), (1, .int a), (2, .int b), (3, .int c), (4, .int d), (5, .int e), (6, .int y80)]) (st' := [.int ((z101 + y80)), .ref 179]) rfl ?_
                                  refine En_top (addI rfl rfl (by (first | exact q_d8f40ee4c0 h102 h100 h90 h49 h17.2.2.1 h17.2.1 h20 h17.1 | omega)) (by (first | exact q_731f25e951 h102 h100 h94 h62 h17.2.2.1 h17.2.1 h20 h17.1 h64 h33 | omega))) (fun z103 h104 => ?_)
                                  refine En_Ps 1 (pc' := 172) (lv' := [(0, .ref 159), (1, .int a), (2, .int b), (3, .int c), (4, .int d), (5, .int e), (6, .int y80)]) (st' := [.ref 159, .int z103, .ref 179]) rfl ?_
                                  refine En_getU (j := 35) (u := 180) (g' := 56) (q := 0) rfl rfl rfl tgz_159 (by decide +kernel) h82 (by decide +kernel) un_56_180 (fun h105 => ?_)
                                  refine En_Ps 1 (pc' := 177) (lv' := [(0, .ref 159), (1, .int a), (2, .int b), (3, .int c), (4, .int d), (5, .int e), (6, .int y80)]) (st' := [.int y80, .ref 180, .int z103, .ref 179]) rfl ?_
                                  refine En_lald (l := (-9223372036854775808)) (u := 9223372036854775807) rfl rfl tgz_180 (by decide +kernel) h82 (by first | exact q_58e6e51dcc h90 | omega) (lnI (by decide +kernel : LN _ = 60) (by first | exact q_3d068043d1 h94 h79 h76 | omega)) (FTsgl (by decide +kernel)) (fun z108 h107 h109 h110 => ?_)
                                  refine En_last (l := (-9223372036854775808)) (u := 9223372036854775807) rfl rfl tgz_179 (by decide +kernel) (by (first | exact q_f36788d4fa h104 h102 h100 h90 h49 h17.2.2.1 h17.2.1 h20 h17.1 | omega)) (lnI (by decide +kernel : LN _ = 240) (by omega)) (FTsgl (by decide +kernel)) (fullL _) h82 h83 (by decide +kernel) (fun σ111 h112 h113 h114 h115 => ?_)
                                  refine En_Ps 1 (pc' := 182) (lv' := [(6, .int ((y80 + Int32.ofInt 1))), (0, .ref 159), (1, .int a), (2, .int b), (3, .int c), (4, .int d), (5, .int e)]) (st' := []) rfl ?_
                                  refine En_lv1 (addI rfl (by decide : (Int32.ofInt 1).toInt = 1) (by first | exact q_465ab79ac1 h90 | omega) (by first | exact q_232407ab69 h91 | omega)) (fun z116 h117 => ?_)
                                  refine En_Ps 1 (pc' := 150) (lv' := [(6, .int z116), (0, .ref 159), (1, .int a), (2, .int b), (3, .int c), (4, .int d), (5, .int e)]) (st' := []) rfl ?_
                                  refine En_lv (lv := [(0, .ref 159), (1, .int a), (2, .int b), (3, .int c), (4, .int d), (5, .int e), (6, .int z116)]) ⟨rfl, rfl, rfl, rfl, rfl, rfl, rfl, trivial⟩ ?_
                                  exact ih150 σ111 z116 h112 h113 ((h115 _ _ (Or.inl (neTG tgz_159 tgz_179 (by decide)))).trans h84) ((h115 _ _ (Or.inl (neTG tgz_177 tgz_179 (by decide)))).trans h85) ((h115 _ _ (Or.inl (neTG tgz_177 tgz_179 (by decide)))).trans h86) ((h115 _ _ (Or.inl (neTG tgz_159 tgz_179 (by decide)))).trans h87) ((h115 _ _ (Or.inl (neTG tgz_178 tgz_179 (by decide)))).trans h88) ((h115 _ _ (Or.inl (neTG tgz_178 tgz_179 (by decide)))).trans h89) (by first | exact q_35104ce9d3 h117 h90 | omega) (by first | exact q_93fe10ffe0 h117 h94 h79 h76 | omega) (by first | exact q_ae2dbf4292 h94 h117 | omega) (by first | exact q_8d03a5a7cb h117 h93 | omega)
                            have := (by decide : (Int32.ofInt 0).toInt = 0)
                            refine En_lv (lv := [(0, .ref 159), (1, .int a), (2, .int b), (3, .int c), (4, .int d), (5, .int e), (6, .int ((Int32.ofInt 0)))]) ⟨rfl, rfl, rfl, rfl, rfl, rfl, rfl, trivial⟩ ?_
                            exact key150 (Int.toNat (e.toInt) + 1) σ66 ((Int32.ofInt 0)) h67 h68 h69 h70 h71 h72 h73 h74 (by decide) (by decide) (by (first | exact q_d69f448e8e this h52 | omega)) (by first | exact toN_lt _ | omega)
                          · refine En_Ps 1 (pc' := 121) (lv' := [(0, .ref 159), (1, .int a), (2, .int b), (3, .int c), (4, .int d), (5, .int e), (6, .int y65)]) (st' := [.ref 159]) rfl ?_
                            refine En_getU (j := 35) (u := 180) (g' := 56) (q := 0) rfl rfl rfl tgz_159 (by decide +kernel) h67 (by decide +kernel) un_56_180 (fun h118 => ?_)
                            refine En_Ps 2 (pc' := 127) (lv' := [(0, .ref 159), (1, .int a), (2, .int b), (3, .int c), (4, .int d), (5, .int e), (6, .int y65)]) (st' := [.ref 159, .int y65, .ref 180]) rfl ?_
                            refine En_getU (j := 34) (u := 179) (g' := 55) (q := 0) rfl rfl rfl tgz_159 (by decide +kernel) h67 (by decide +kernel) un_55_179 (fun h120 => ?_)
                            refine En_Ps 3 (pc' := 134) (lv' := [(0, .ref 159), (1, .int a), (2, .int b), (3, .int c), (4, .int d), (5, .int e), (6, .int y65)]) (st' := [.int (((((Int8.ofInt 60).toInt32)) * a)), .ref 179, .int y65, .ref 180]) rfl ?_
                            refine En_top (mulI (by decide : ((Int8.ofInt 60).toInt32).toInt = 60) rfl (Z := 60 * a.toInt) (by first | exact q_7a16b37b72 | omega) (by (first | exact q_3037e6bb8b h6.2.2.1 h6.2.1 h9 h6.1 | omega)) (by (first | exact q_71b3dc49ab h6.2.2.1 h6.2.1 h9 h6.1 | omega))) (fun z122 h123 => ?_)
                            refine En_Ps 2 (pc' := 136) (lv' := [(0, .ref 159), (1, .int a), (2, .int b), (3, .int c), (4, .int d), (5, .int e), (6, .int y65)]) (st' := [.int ((z122 + b)), .ref 179, .int y65, .ref 180]) rfl ?_
                            refine En_top (addI rfl rfl (by (first | exact q_a027853e4b h123 h46 h6.2.2.1 h6.2.1 h9 h6.1 | omega)) (by (first | exact q_5ca4995fe9 h123 h56 h52 h6.2.2.1 h6.2.1 h9 h6.1 h58 h26 | omega))) (fun z124 h125 => ?_)
                            refine En_Ps 2 (pc' := 139) (lv' := [(0, .ref 159), (1, .int a), (2, .int b), (3, .int c), (4, .int d), (5, .int e), (6, .int y65)]) (st' := [.int ((z124 + y65)), .ref 179, .int y65, .ref 180]) rfl ?_
                            refine En_top (addI rfl rfl (by (first | exact q_d8f40ee4c0 h125 h123 h75 h46 h6.2.2.1 h6.2.1 h9 h6.1 | omega)) (by (first | exact q_731f25e951 h125 h123 h79 h56 h6.2.2.1 h6.2.1 h9 h6.1 h58 h26 | omega))) (fun z126 h127 => ?_)
                            refine En_lald (l := (-9223372036854775808)) (u := 9223372036854775807) rfl rfl tgz_179 (by decide +kernel) h67 (by (first | exact q_f36788d4fa h127 h125 h123 h75 h46 h6.2.2.1 h6.2.1 h9 h6.1 | omega)) (lnI (by decide +kernel : LN _ = 240) (by omega)) (FTsgl (by decide +kernel)) (fun z129 h128 h130 h131 => ?_)
                            refine En_last (l := (-9223372036854775808)) (u := 9223372036854775807) rfl rfl tgz_180 (by decide +kernel) (by first | exact q_58e6e51dcc h75 | omega) (lnI (by decide +kernel : LN _ = 60) (by (first | exact q_e1e2939fcc h79 h62 h49 h64 h33 | omega))) (FTsgl (by decide +kernel)) (fullL _) h67 h68 (by decide +kernel) (fun σ132 h133 h134 h135 h136 => ?_)
                            refine En_Ps 1 (pc' := 144) (lv' := [(6, .int ((y65 + Int32.ofInt 1))), (0, .ref 159), (1, .int a), (2, .int b), (3, .int c), (4, .int d), (5, .int e)]) (st' := []) rfl ?_
                            refine En_lv1 (addI rfl (by decide : (Int32.ofInt 1).toInt = 1) (by first | exact q_465ab79ac1 h75 | omega) (by first | exact q_232407ab69 h76 | omega)) (fun z137 h138 => ?_)
                            refine En_Ps 1 (pc' := 113) (lv' := [(6, .int z137), (0, .ref 159), (1, .int a), (2, .int b), (3, .int c), (4, .int d), (5, .int e)]) (st' := []) rfl ?_
                            refine En_lv (lv := [(0, .ref 159), (1, .int a), (2, .int b), (3, .int c), (4, .int d), (5, .int e), (6, .int z137)]) ⟨rfl, rfl, rfl, rfl, rfl, rfl, rfl, trivial⟩ ?_
                            exact ih113 σ132 z137 h133 h134 ((h136 _ _ (Or.inl (neTG tgz_159 tgz_180 (by decide)))).trans h69) ((h136 _ _ (Or.inl (neTG tgz_177 tgz_180 (by decide)))).trans h70) ((h136 _ _ (Or.inl (neTG tgz_177 tgz_180 (by decide)))).trans h71) ((h136 _ _ (Or.inl (neTG tgz_159 tgz_180 (by decide)))).trans h72) ((h136 _ _ (Or.inl (neTG tgz_178 tgz_180 (by decide)))).trans h73) ((h136 _ _ (Or.inl (neTG tgz_178 tgz_180 (by decide)))).trans h74) (by first | exact q_35104ce9d3 h138 h75 | omega) (by (first | exact q_844c9baa64 h138 h79 h62 h49 h64 h33 | omega)) (by first | exact q_ae2dbf4292 h79 h138 | omega) (by first | exact q_8d03a5a7cb h138 h78 | omega)
                      have := (by decide : (Int32.ofInt 0).toInt = 0)
                      refine En_lv (lv := [(0, .ref 159), (1, .int a), (2, .int b), (3, .int c), (4, .int d), (5, .int e), (6, .int ((Int32.ofInt 0)))]) ⟨rfl, rfl, rfl, rfl, rfl, rfl, rfl, trivial⟩ ?_
                      exact key113 (Int.toNat (e.toInt) + 1) σ14 ((Int32.ofInt 0)) h15 h19 h21 h23 h30 h35 h37 h41 (by decide) (by decide) (by (first | exact q_d69f448e8e this h52 | omega)) (by first | exact toN_lt _ | omega)
                    · refine En_Ps 1 (pc' := 109) (lv' := [(0, .ref 159), (1, .int a), (2, .int b), (3, .int c), (4, .int d), (5, .int e)]) (st' := [.int (((Int8.ofInt (-7)).toInt32))]) rfl ?_
                      refine En_top (by decide : ((Int8.ofInt (-7)).toInt32).toInt = -7) (fun z139 h140 => ?_)
                      exact En_ret (v := some (Value.int z139)) rfl rfl rfl ⟨h15, h19, z139, rfl, ⟨by first | exact q_bed7a61884 h140 | omega, by first | exact q_d916b56ab6 h140 | omega⟩⟩
          · refine En_Ps 1 (pc' := 57) (lv' := [(0, .ref 159), (1, .int a), (2, .int b), (3, .int c), (4, .int d), (5, .int e)]) (st' := [.int (((Int8.ofInt (-8)).toInt32))]) rfl ?_
            refine En_top (by decide : ((Int8.ofInt (-8)).toInt32).toInt = -8) (fun z141 h142 => ?_)
            exact En_ret (v := some (Value.int z141)) rfl rfl rfl ⟨h15, h19, z141, rfl, ⟨by first | exact q_433a6fecb0 h142 | omega, by first | exact q_e64e7d08e3 h142 | omega⟩⟩
        · refine En_Ps 1 (pc' := 39) (lv' := [(0, .ref 159), (1, .int a), (2, .int b), (3, .int c), (4, .int d), (5, .int e)]) (st' := [.int (((Int8.ofInt (-6)).toInt32))]) rfl ?_
          refine En_top (by decide : ((Int8.ofInt (-6)).toInt32).toInt = -6) (fun z143 h144 => ?_)
          exact En_ret (v := some (Value.int z143)) rfl rfl rfl ⟨h15, h19, z143, rfl, ⟨by first | exact q_04810bc0c7 h144 | omega, by first | exact q_9bcb887de1 h144 | omega⟩⟩
    · refine En_Ps 1 (pc' := 16) (lv' := [(0, .ref 159), (1, .int a), (2, .int b), (3, .int c), (4, .int d), (5, .int e)]) (st' := [.int (((Int8.ofInt (-2)).toInt32))]) rfl ?_
      refine En_top (by decide : ((Int8.ofInt (-2)).toInt32).toInt = -2) (fun z145 h146 => ?_)
      exact En_ret (v := some (Value.int z145)) rfl rfl rfl ⟨h15, h19, z145, rfl, ⟨by first | exact q_a9585dd42b h146 | omega, by first | exact q_bbb39ffa1e h146 | omega⟩⟩
end
