/-- DoorSchoolModel.add(II)V -/
abbrev P_188 (σ0 : SG) (a : Int32) (b : Int32) (m : Int32) : PO := fun v σ => WT σ ∧ Fr [(35, 21), (45, 0), (46, 0)] σ0 σ ∧ ∃ m1 : Int32, (σ 159)[21]? = some (.int m1) ∧ v = none ∧ -m1.toInt + 1 ≤ 0 ∧ m1.toInt - 17 ≤ 0 ∧ -m1.toInt + m.toInt + 1 ≤ 0 ∧ m1.toInt - m.toInt - 1 ≤ 0 ∧ m1.toInt - m.toInt - 1 ≤ 0 ∧ -m1.toInt + m.toInt + 1 ≤ 0
set_option maxRecDepth 10000 in
set_option maxHeartbeats 4000000 in
theorem c_188 (σ0 : SG) (hσ0 : WT σ0) (a : Int32) (b : Int32) (hl_a : 0 ≤ a.toInt) (hu_a : a.toInt ≤ 15) (hl_b : 0 ≤ b.toInt) (hu_b : b.toInt ≤ 1) (m : Int32) (h_m : (σ0 159)[21]? = some (.int m)) (hp0 : m.toInt - 16 ≤ 0) : En 0 0 none mr_188 (P_188 σ0 a b m) 0 [(0, .ref 159), (1, .int a), (2, .int b)] [] σ0 := by
  obtain ⟨hl_m, hu_m⟩ := WT_int hσ0 (g := 35) (by decide +kernel) (by decide +kernel) (l := 0) (u := 17) (by decide +kernel) h_m
  have hF0 : Fr [(35, 21), (45, 0), (46, 0)] σ0 σ0 := Fr_rfl
  refine En_Ps 1 (pc' := 1) (lv' := [(0, .ref 159), (1, .int a), (2, .int b)]) (st' := [.ref 159]) rfl ?_
  refine En_getU (j := 19) (u := 169) (g' := 45) (q := 0) rfl rfl rfl tgz_159 (by decide +kernel) hσ0 (by decide +kernel) (by decide +kernel) (fun h1 => ?_)
  refine En_Ps 1 (pc' := 5) (lv' := [(0, .ref 159), (1, .int a), (2, .int b)]) (st' := [.ref 159, .ref 169]) rfl ?_
  refine En_getK (j := 21) h_m rfl rfl rfl tgz_159 (by decide +kernel) ?_
  refine En_Ps 1 (pc' := 9) (lv' := [(0, .ref 159), (1, .int a), (2, .int b)]) (st' := [.int a, .int m, .ref 169]) rfl ?_
  refine En_iast (l := 0) (u := 15) rfl rfl tgz_169 (by decide +kernel) (by first | exact q_58e6e51dcc hl_m | omega) (lnI (by decide +kernel : LN _ = 17) (by first | exact q_587b0aad9f hp0 | omega)) (FTsgl (by decide +kernel)) (rngI rfl (by first | exact q_58e6e51dcc hl_a | omega) (by first | exact q_5a4d8a7e08 hu_a | omega)) hσ0 hF0 (by decide +kernel) (fun σ3 h4 h5 h6 h7 => ?_)
  refine En_Ps 1 (pc' := 11) (lv' := [(0, .ref 159), (1, .int a), (2, .int b)]) (st' := [.ref 159]) rfl ?_
  refine En_getU (j := 20) (u := 170) (g' := 46) (q := 0) rfl rfl rfl tgz_159 (by decide +kernel) h4 (by decide +kernel) (by decide +kernel) (fun h8 => ?_)
  refine En_Ps 1 (pc' := 15) (lv' := [(0, .ref 159), (1, .int a), (2, .int b)]) (st' := [.ref 159, .ref 170]) rfl ?_
  refine En_getK (j := 21) ((h7 _ _ (Or.inl (neTG tgz_159 tgz_169 (by decide)))).trans h_m) rfl rfl rfl tgz_159 (by decide +kernel) ?_
  refine En_Ps 1 (pc' := 19) (lv' := [(0, .ref 159), (1, .int a), (2, .int b)]) (st' := [.int b, .int m, .ref 170]) rfl ?_
  refine En_iast (l := 0) (u := 1) rfl rfl tgz_170 (by decide +kernel) (by first | exact q_58e6e51dcc hl_m | omega) (lnI (by decide +kernel : LN _ = 17) (by first | exact q_587b0aad9f hp0 | omega)) (FTsgl (by decide +kernel)) (rngI rfl (by first | exact q_58e6e51dcc hl_b | omega) (by first | exact q_9d0c30f9c5 hu_b | omega)) h4 h5 (by decide +kernel) (fun σ10 h11 h12 h13 h14 => ?_)
  refine En_Ps 2 (pc' := 22) (lv' := [(0, .ref 159), (1, .int a), (2, .int b)]) (st' := [.ref 159, .ref 159]) rfl ?_
  refine En_getK (j := 21) ((h14 _ _ (Or.inl (neTG tgz_159 tgz_170 (by decide)))).trans ((h7 _ _ (Or.inl (neTG tgz_159 tgz_169 (by decide)))).trans h_m)) rfl rfl rfl tgz_159 (by decide +kernel) ?_
  refine En_Ps 2 (pc' := 27) (lv' := [(0, .ref 159), (1, .int a), (2, .int b)]) (st' := [.int ((m + ((Int32.ofInt 1)))), .ref 159]) rfl ?_
  refine En_top (addI rfl (by decide : (Int32.ofInt 1).toInt = 1) (by first | exact q_465ab79ac1 hl_m | omega) (by first | exact q_f47f9b2586 hp0 | omega)) (fun z15 h16 => ?_)
  refine En_put (j := 21) rfl rfl rfl tgz_159 (by decide +kernel) rfl (vI (l := 0) (u := 17) (by decide +kernel) rfl (by first | exact q_35104ce9d3 h16 hl_m | omega) (by first | exact q_2809db51dd h16 hp0 | omega)) h11 h12 (by decide +kernel) (fun σ17 h18 h19 h20 h21 => ?_)
  exact En_ret (v := none) rfl rfl rfl ⟨h18, h19, z15, h20, rfl, ⟨by first | exact q_eeff886842 h16 hl_m | omega, by first | exact q_ccd2290ce9 h16 hp0 | omega, by first | exact q_0f0670fdd6 h16 | omega, by first | exact q_9a409ce733 h16 | omega, by first | exact q_9a409ce733 h16 | omega, by first | exact q_0f0670fdd6 h16 | omega⟩⟩
/-- DoorSchoolModel.in(JJJ)Z -/
abbrev P_249 (σ0 : SG) (a : Int64) (b : Int64) (c : Int64) : PO := fun v σ => WT σ ∧ Fr [] σ0 σ ∧ ∃ ret : Int32, v = some (.int ret) ∧ -ret.toInt ≤ 0 ∧ ret.toInt - 1 ≤ 0 ∧ (-ret.toInt + 1 ≤ 0 → b.toInt - a.toInt ≤ 0 ∧ a.toInt - c.toInt ≤ 0) ∧ (b.toInt - a.toInt ≤ 0 ∧ a.toInt - c.toInt ≤ 0 → -ret.toInt + 1 ≤ 0)
set_option maxRecDepth 10000 in
set_option maxHeartbeats 4000000 in
theorem c_249 (σ0 : SG) (hσ0 : WT σ0) (a : Int64) (b : Int64) (c : Int64) : En 0 0 none mr_249 (P_249 σ0 a b c) 0 [(0, .long a), (2, .long b), (4, .long c)] [] σ0 := by
  have hF0 : Fr [] σ0 σ0 := Fr_rfl
  refine En_Ps 3 (pc' := 3) (lv' := [(0, .long a), (2, .long b), (4, .long c)]) (st' := [.int (lg_cmp a b)]) rfl ?_
  refine En_lgLt _ rfl rfl rfl (fun h1 => ?_) (fun h1 => ?_)
  · refine En_Ps 1 (pc' := 18) (lv' := [(0, .long a), (2, .long b), (4, .long c)]) (st' := [.int ((Int32.ofInt 0))]) rfl ?_
    refine En_top (by decide : (Int32.ofInt 0).toInt = 0) (fun z2 h3 => ?_)
    exact En_ret (v := some (.int z2)) rfl rfl (retZ rfl rfl (by first | exact q_55451d0a83 h3 | omega) (by first | exact q_87849c3859 h3 | omega)) ⟨hσ0, hF0, z2, rfl, ⟨by first | exact q_097a37c2ae h3 | omega, by first | exact q_e269517bee h3 | omega, fun _ => by omega, fun _ => by omega⟩⟩
  · refine En_Ps 3 (pc' := 10) (lv' := [(0, .long a), (2, .long b), (4, .long c)]) (st' := [.int (lg_cmp a c)]) rfl ?_
    refine En_lgGt _ rfl rfl rfl (fun h4 => ?_) (fun h4 => ?_)
    · refine En_Ps 1 (pc' := 18) (lv' := [(0, .long a), (2, .long b), (4, .long c)]) (st' := [.int ((Int32.ofInt 0))]) rfl ?_
      refine En_top (by decide : (Int32.ofInt 0).toInt = 0) (fun z5 h6 => ?_)
      exact En_ret (v := some (.int z5)) rfl rfl (retZ rfl rfl (by first | exact q_55451d0a83 h6 | omega) (by first | exact q_87849c3859 h6 | omega)) ⟨hσ0, hF0, z5, rfl, ⟨by first | exact q_097a37c2ae h6 | omega, by first | exact q_e269517bee h6 | omega, fun _ => by omega, fun _ => by omega⟩⟩
    · refine En_Ps 2 (pc' := 18) (lv' := [(0, .long a), (2, .long b), (4, .long c)]) (st' := [.int ((Int32.ofInt 1))]) rfl ?_
      refine En_top (by decide : (Int32.ofInt 1).toInt = 1) (fun z7 h8 => ?_)
      exact En_ret (v := some (.int z7)) rfl rfl (retZ rfl rfl (by first | exact q_2b07c97645 h8 | omega) (by first | exact q_d9e7cbb253 h8 | omega)) ⟨hσ0, hF0, z7, rfl, ⟨by first | exact q_ad3eee31ca h8 | omega, by first | exact q_81cf297dc4 h8 | omega, fun _ => by omega, fun _ => by omega⟩⟩
/-- bit of a small set -/
abbrev P_202a (σ0 : SG) (a : Int32) (b : Int32) : PO := fun v σ => WT σ ∧ Fr [] σ0 σ ∧ ∃ ret : Int32, v = some (.int ret) ∧ -ret.toInt ≤ 0 ∧ ret.toInt - 1 ≤ 0 ∧ ret.toInt = bI a.toInt b.toInt
set_option maxRecDepth 10000 in
set_option maxHeartbeats 4000000 in
theorem c_202a (σ0 : SG) (hσ0 : WT σ0) (a : Int32) (b : Int32) (hl_a : 0 ≤ a.toInt) (hu_a : a.toInt ≤ 63) (hl_b : 0 ≤ b.toInt) (hu_b : b.toInt ≤ 7) : En 0 0 none mr_202 (P_202a σ0 a b) 0 [(0, .int a), (1, .int b)] [] σ0 := by
  refine En_Ps 5 (pc' := 5) (lv' := [(0, .int a), (1, .int b)]) (st' := [.int ((a >>> (b &&& 31)) &&& (Int32.ofInt 1))]) rfl ?_
  refine En_nam (fun z hz => ?_)
  have hb := bit_small hz hl_a hu_a hl_b hu_b
  have hr := bI_rng a.toInt b.toInt
  exact En_ret (v := some (.int z)) rfl rfl rfl ⟨hσ0, Fr_rfl, z, rfl, (by omega)⟩
/-- DoorSchoolModel.bit(II)I -/
abbrev P_202b (σ0 : SG) (a : Int32) (b : Int32) : PO := fun v σ => WT σ ∧ Fr [] σ0 σ ∧ ∃ ret : Int32, v = some (.int ret) ∧ -ret.toInt ≤ 0 ∧ ret.toInt - 1 ≤ 0
set_option maxRecDepth 10000 in
set_option maxHeartbeats 4000000 in
theorem c_202b (σ0 : SG) (hσ0 : WT σ0) (a : Int32) (b : Int32) : En 0 0 none mr_202 (P_202b σ0 a b) 0 [(0, .int a), (1, .int b)] [] σ0 := by
  have hF0 : Fr [] σ0 σ0 := Fr_rfl
  refine En_Ps 3 (pc' := 3) (lv' := [(0, .int a), (1, .int b)]) (st' := [.int ((a >>> (b &&& 31)))]) rfl ?_
  refine En_hav (fun z1 => ?_)
  refine En_Ps 2 (pc' := 5) (lv' := [(0, .int a), (1, .int b)]) (st' := [.int ((z1 &&& ((Int32.ofInt 1))))]) rfl ?_
  refine En_rng (l := 0) (u := 1) (andR_rng (by decide : (Int32.ofInt 1).toInt = 1) (by decide)) (fun z2 h3 h4 => ?_)
  exact En_ret (v := some (.int z2)) rfl rfl rfl ⟨hσ0, hF0, z2, rfl, ⟨by first | exact q_c803b490ef h3 | omega, by first | exact q_a83e15e6ad h4 | omega⟩⟩
/-- DoorSchoolModel.takesOf(I)I -/
abbrev P_319 (σ0 : SG) (a : Int32) : PO := fun v σ => WT σ ∧ Fr [] σ0 σ ∧ ∃ ret : Int32, v = some (.int ret) ∧ -ret.toInt ≤ 0 ∧ ret.toInt - 9 ≤ 0 ∧ ret.toInt = ci σ0 160 (154 + 2 * a.toInt)
set_option maxRecDepth 10000 in
set_option maxHeartbeats 4000000 in
theorem c_319 (σ0 : SG) (hσ0 : WT σ0) (a : Int32) (hl_a : 0 ≤ a.toInt) (hu_a : a.toInt ≤ 5) : En 0 0 none mr_319 (P_319 σ0 a) 0 [(0, .ref 159), (1, .int a)] [] σ0 := by
  have hF0 : Fr [] σ0 σ0 := Fr_rfl
  refine En_Ps 1 (pc' := 1) (lv' := [(0, .ref 159), (1, .int a)]) (st' := [.ref 159]) rfl ?_
  refine En_getU (j := 1) (u := 160) (g' := 36) (q := 0) rfl rfl rfl tgz_159 (by decide +kernel) hσ0 (by decide +kernel) (by decide +kernel) (fun h1 => ?_)
  refine En_Ps 4 (pc' := 10) (lv' := [(0, .ref 159), (1, .int a)]) (st' := [.int ((((Int32.ofInt 2)) * a)), .int (((Int16.ofInt 154).toInt32)), .ref 160]) rfl ?_
  refine En_top (mulI (by decide : (Int32.ofInt 2).toInt = 2) rfl (Z := 2 * a.toInt) (by first | exact q_9c4c04fc55 | omega) (by first | exact q_1f719a6719 hl_a | omega) (by first | exact q_6084c30cbd hu_a | omega)) (fun z3 h4 => ?_)
  refine En_Ps 1 (pc' := 11) (lv' := [(0, .ref 159), (1, .int a)]) (st' := [.int (((((Int16.ofInt 154).toInt32)) + z3)), .ref 160]) rfl ?_
  refine En_top (addI (by decide : ((Int16.ofInt 154).toInt32).toInt = 154) rfl (by first | exact q_35d2865be9 h4 hl_a | omega) (by first | exact q_37b8e4bcc4 h4 hu_a | omega)) (fun z5 h6 => ?_)
  refine En_iald (l := 0) (u := 9) rfl rfl tgz_160 (by decide +kernel) hσ0 (by first | exact q_ccc63f2e7e h6 h4 hl_a | omega) (lnI (by decide +kernel : LN _ = 226) (by first | exact q_916e3ddc0c h6 h4 hu_a | omega)) (FTrow 36 154 2 6 (by decide +kernel) (by first | exact q_4f183090a0 h6 h4 hl_a | omega) (by first | exact q_a2deeb3a09 h6 h4 hu_a | omega) (by first | exact q_1f9eb023d9 h4 h6 | omega)) (fun z8 h7 h9 h10 => ?_)
  exact En_ret (v := some (.int z8)) rfl rfl rfl ⟨hσ0, hF0, z8, rfl, ⟨by omega, by omega, (ci_at h7 (by omega)).symm⟩⟩
/-- DoorSchoolModel.overOf(I)I -/
abbrev P_294 (σ0 : SG) (a : Int32) : PO := fun v σ => WT σ ∧ Fr [] σ0 σ ∧ ∃ ret : Int32, v = some (.int ret) ∧ -ret.toInt ≤ 0 ∧ ret.toInt - 120 ≤ 0 ∧ ret.toInt = ci σ0 173 a.toInt + ci σ0 160 (154 + 2 * a.toInt)
set_option maxRecDepth 10000 in
set_option maxHeartbeats 4000000 in
theorem c_294 (σ0 : SG) (hσ0 : WT σ0) (a : Int32) (hl_a : 0 ≤ a.toInt) (hu_a : a.toInt ≤ 5) : En 1 21 none mr_294 (P_294 σ0 a) 0 [(0, .ref 159), (1, .int a)] [] σ0 := by
  have hF0 : Fr [] σ0 σ0 := Fr_rfl
  refine En_Ps 1 (pc' := 1) (lv' := [(0, .ref 159), (1, .int a)]) (st' := [.ref 159]) rfl ?_
  refine En_getU (j := 27) (u := 173) (g' := 49) (q := 0) rfl rfl rfl tgz_159 (by decide +kernel) hσ0 (by decide +kernel) (by decide +kernel) (fun h1 => ?_)
  refine En_Ps 1 (pc' := 5) (lv' := [(0, .ref 159), (1, .int a)]) (st' := [.int a, .ref 173]) rfl ?_
  refine En_iald (l := 0) (u := 111) rfl rfl tgz_173 (by decide +kernel) hσ0 (by first | exact q_58e6e51dcc hl_a | omega) (lnI (by decide +kernel : LN _ = 6) (by first | exact q_f6226e27c9 hu_a | omega)) (FTsgl (by decide +kernel)) (fun z4 h3 h5 h6 => ?_)
  refine En_Ps 2 (pc' := 8) (lv' := [(0, .ref 159), (1, .int a)]) (st' := [.int a, .ref 159, .int z4]) rfl ?_
  refine En_callV rfl rfl rfl rfl rfl rfl rfl rfl tgz_159 (by decide +kernel) rfl (c_319 σ0 hσ0 a (geI rfl (by first | exact q_58e6e51dcc hl_a | omega)) (leI rfl (by first | exact q_d9092b5ca1 hu_a | omega))) (by decide) (by decide) (fun v8 σ9 h7 => ?_)
  obtain ⟨h10, h11, z13, rfl, h12⟩ := h7
  have h14 := h12.2.2
  obtain rfl : σ0 = σ9 := Fr_nil h11
  refine En_Ps 1 (pc' := 12) (lv' := [(0, .ref 159), (1, .int a)]) (st' := [.int ((z4 + z13))]) rfl ?_
  refine En_top (addI rfl rfl (by first | exact q_eb9502dde8 h5 h12.1 | omega) (by first | exact q_59dac5040b h6 h12.2.1 | omega)) (fun z15 h16 => ?_)
  exact En_ret (v := some (.int z15)) rfl rfl rfl ⟨hσ0, hF0, z15, rfl, ⟨by omega, by omega, (by have e1 := ci_at h3 (rfl : a.toInt = a.toInt); omega)⟩⟩
/-- DoorSchoolModel.afterAll(II)I -/
abbrev P_190 (σ0 : SG) (a : Int32) (b : Int32) : PO := fun v σ => WT σ ∧ Fr [] σ0 σ ∧ ∃ ret : Int32, v = some (.int ret) ∧ -ret.toInt - 1 ≤ 0 ∧ ret.toInt - 127 ≤ 0 ∧ AFTs σ0 a.toInt b.toInt ret.toInt
set_option maxRecDepth 10000 in
set_option maxHeartbeats 4000000 in
theorem c_190 (σ0 : SG) (hσ0 : WT σ0) (a : Int32) (b : Int32) (hl_a : 0 ≤ a.toInt) (hu_a : a.toInt ≤ 5) (hl_b : 0 ≤ b.toInt) (hu_b : b.toInt ≤ 63) : En 2 42 none mr_190 (P_190 σ0 a b) 0 [(0, .ref 159), (1, .int a), (2, .int b)] [] σ0 := by
  have hF0 : Fr [] σ0 σ0 := Fr_rfl
  refine En_Ps 4 (pc' := 5) (lv' := [(4, .int ((Int32.ofInt 0))), (3, .int ((Int32.ofInt 0))), (0, .ref 159), (1, .int a), (2, .int b)]) (st' := []) rfl ?_
  have key5 : ∀ (n5 : Nat) (y1 : Int32) (y2 : Int32), 0 ≤ y1.toInt → y1.toInt ≤ 127 → 0 ≤ y2.toInt → y2.toInt ≤ 5 → y2.toInt - a.toInt ≤ 0 → a.toInt - y2.toInt < (n5 : Int) → AFL σ0 a.toInt b.toInt y2.toInt y1.toInt → En 2 42 none mr_190 (P_190 σ0 a b) 5 [(0, .ref 159), (1, .int a), (2, .int b), (3, .int y1), (4, .int y2)] [] σ0 := by
    intro n5
    induction n5 with
    | zero =>
      intro y1 y2 h6 h7 h8 h9 h10 h11 h12
      first | exact (q_14257feae7 h10 h11).elim | (exfalso; omega)
    | succ n5 ih5 =>
      intro y1 y2 h6 h7 h8 h9 h10 h11 h12
      refine En_Ps 2 (pc' := 8) (lv' := [(0, .ref 159), (1, .int a), (2, .int b), (3, .int y1), (4, .int y2)]) (st' := [.int a, .int y2]) rfl ?_
      refine En_icGe _ rfl rfl rfl (fun h13 => ?_) (fun h13 => ?_)
      · refine En_Ps 1 (pc' := 65) (lv' := [(0, .ref 159), (1, .int a), (2, .int b), (3, .int y1), (4, .int y2)]) (st' := [.int y1]) rfl ?_
        exact En_ret (v := some (.int y1)) rfl rfl rfl ⟨hσ0, hF0, y1, rfl, ⟨by omega, by omega, AFT_yes h12 (by omega) (by omega)⟩⟩
      · refine En_Ps 1 (pc' := 12) (lv' := [(0, .ref 159), (1, .int a), (2, .int b), (3, .int y1), (4, .int y2)]) (st' := [.ref 159]) rfl ?_
        refine En_getU (j := 1) (u := 160) (g' := 36) (q := 0) rfl rfl rfl tgz_159 (by decide +kernel) hσ0 (by decide +kernel) (by decide +kernel) (fun h14 => ?_)
        refine En_Ps 4 (pc' := 21) (lv' := [(0, .ref 159), (1, .int a), (2, .int b), (3, .int y1), (4, .int y2)]) (st' := [.int ((((Int32.ofInt 2)) * a)), .int (((Int16.ofInt 154).toInt32)), .ref 160]) rfl ?_
        refine En_top (mulI (by decide : (Int32.ofInt 2).toInt = 2) rfl (Z := 2 * a.toInt) (by first | exact q_9c4c04fc55 | omega) (by first | exact q_1f719a6719 hl_a | omega) (by first | exact q_6084c30cbd hu_a | omega)) (fun z16 h17 => ?_)
        refine En_Ps 1 (pc' := 22) (lv' := [(0, .ref 159), (1, .int a), (2, .int b), (3, .int y1), (4, .int y2)]) (st' := [.int (((((Int16.ofInt 154).toInt32)) + z16)), .ref 160]) rfl ?_
        refine En_top (addI (by decide : ((Int16.ofInt 154).toInt32).toInt = 154) rfl (by first | exact q_2a493b5167 h17 h13 h8 | omega) (by first | exact q_37b8e4bcc4 h17 hu_a | omega)) (fun z18 h19 => ?_)
        refine En_Ps 2 (pc' := 24) (lv' := [(0, .ref 159), (1, .int a), (2, .int b), (3, .int y1), (4, .int y2)]) (st' := [.int ((z18 + ((Int32.ofInt 1)))), .ref 160]) rfl ?_
        refine En_top (addI rfl (by decide : (Int32.ofInt 1).toInt = 1) (by first | exact q_e805c90172 h19 h17 h13 h8 | omega) (by first | exact q_ec28dd8106 h19 h17 hu_a | omega)) (fun z20 h21 => ?_)
        refine En_iald (l := 0) (u := 63) rfl rfl tgz_160 (by decide +kernel) hσ0 (by first | exact q_36622a292a h21 h19 h17 h13 h8 | omega) (lnI (by decide +kernel : LN _ = 226) (by first | exact q_9650422e8f h21 h19 h17 hu_a | omega)) (FTrow 36 157 2 5 (by decide +kernel) (by first | exact q_fb66f228a0 h21 h19 h17 h13 h8 | omega) (by first | exact q_756310faf7 h21 h19 h17 hu_a | omega) (by first | exact q_951b0f7e1b h17 h19 h21 | omega)) (fun z23 h22 h24 h25 => ?_)
        refine En_Ps 1 (pc' := 27) (lv' := [(0, .ref 159), (1, .int a), (2, .int b), (3, .int y1), (4, .int y2)]) (st' := [.int y2, .int z23]) rfl ?_
        refine En_callS rfl rfl rfl rfl rfl rfl rfl rfl rfl (c_202a σ0 hσ0 z23 y2 (geI rfl (by first | exact q_58e6e51dcc h24 | omega)) (leI rfl (by first | exact q_8bf848900a h25 | omega)) (geI rfl (by first | exact q_58e6e51dcc h8 | omega)) (leI rfl (by first | exact q_c4fbf921fa h9 | omega))) (by decide) (by decide) (fun v27 σ28 h26 => ?_)
        obtain ⟨h29, h30, z32, rfl, h31⟩ := h26
        have h33 := h31.2.2
        obtain rfl : σ0 = σ28 := Fr_nil h30
        refine En_iNe _ rfl rfl (fun h34 => ?_) (fun h34 => ?_)
        · refine En_Ps 2 (pc' := 39) (lv' := [(0, .ref 159), (1, .int a), (2, .int b), (3, .int y1), (4, .int y2)]) (st' := [.int y2, .int b]) rfl ?_
          refine En_callS rfl rfl rfl rfl rfl rfl rfl rfl rfl (c_202a σ0 hσ0 b y2 (geI rfl (by first | exact q_58e6e51dcc hl_b | omega)) (leI rfl (by first | exact q_8bf848900a hu_b | omega)) (geI rfl (by first | exact q_58e6e51dcc h8 | omega)) (leI rfl (by first | exact q_c4fbf921fa h9 | omega))) (by decide) (by decide) (fun v36 σ37 h35 => ?_)
          obtain ⟨h38, h39, z41, rfl, h40⟩ := h35
          have h42 := h40.2.2
          obtain rfl : σ0 = σ37 := Fr_nil h39
          refine En_iNe _ rfl rfl (fun h43 => ?_) (fun h43 => ?_)
          · refine En_Ps 3 (pc' := 51) (lv' := [(0, .ref 159), (1, .int a), (2, .int b), (3, .int y1), (4, .int y2)]) (st' := [.int y2, .ref 159, .int y1]) rfl ?_
            refine En_callV rfl rfl rfl rfl rfl rfl rfl rfl tgz_159 (by decide +kernel) rfl (c_294 σ0 hσ0 y2 (geI rfl (by first | exact q_58e6e51dcc h8 | omega)) (leI rfl (by first | exact q_d9092b5ca1 h9 | omega))) (by decide) (by decide) (fun v45 σ46 h44 => ?_)
            obtain ⟨h47, h48, z50, rfl, h49⟩ := h44
            have h51 := h49.2.2
            obtain rfl : σ0 = σ46 := Fr_nil h48
            refine En_callS rfl rfl rfl rfl rfl rfl rfl rfl rfl (c_10 σ0 hσ0 y1 z50) (by decide) (by decide) (fun v53 σ54 h52 => ?_)
            obtain ⟨h55, h56, z58, rfl, h57⟩ := h52
            obtain rfl : σ0 = σ54 := Fr_nil h56
            refine En_Ps 2 (pc' := 61) (lv' := [(4, .int ((y2 + Int32.ofInt 1))), (3, .int z58), (0, .ref 159), (1, .int a), (2, .int b)]) (st' := []) rfl ?_
            refine En_lv1 (addI rfl (by decide : (Int32.ofInt 1).toInt = 1) (by first | exact q_465ab79ac1 h8 | omega) (by first | exact q_aeda34609f h9 | omega)) (fun z59 h60 => ?_)
            refine En_Ps 1 (pc' := 5) (lv' := [(4, .int z59), (3, .int z58), (0, .ref 159), (1, .int a), (2, .int b)]) (st' := []) rfl ?_
            refine En_lv (lv := [(0, .ref 159), (1, .int a), (2, .int b), (3, .int z58), (4, .int z59)]) ⟨rfl, rfl, rfl, rfl, rfl, trivial⟩ ?_
            exact ih5 z58 z59 (by first | exact q_f062bc8aa8 h57.1 h6 | omega) (by omega) (by first | exact q_35104ce9d3 h60 h8 | omega) (by first | exact q_b880857b86 h60 h13 hu_a | omega) (by first | exact q_ae2dbf4292 h13 h60 | omega) (by first | exact q_8d03a5a7cb h60 h11 | omega) (AFL_y hσ0 h12 h22 (by omega) h33 (by omega) h42 (by omega) h51 (by omega) (by omega) (by omega) (by omega) (by omega) (by omega) (by omega) (by omega) (by omega))
          · refine En_Ps 1 (pc' := 46) (lv' := [(0, .ref 159), (1, .int a), (2, .int b), (3, .int y1), (4, .int y2)]) (st' := [.int ((Int32.ofInt (-1)))]) rfl ?_
            refine En_top (by decide : (Int32.ofInt (-1)).toInt = -1) (fun z61 h62 => ?_)
            exact En_ret (v := some (.int z61)) rfl rfl rfl ⟨hσ0, hF0, z61, rfl, ⟨by omega, by omega, AFT_no hσ0 h22 (by omega) h33 (by omega) h42 (by omega) (by omega) (by omega) (by omega) (by omega) (by omega)⟩⟩
        · refine En_Ps 2 (pc' := 61) (lv' := [(4, .int ((y2 + Int32.ofInt 1))), (0, .ref 159), (1, .int a), (2, .int b), (3, .int y1)]) (st' := []) rfl ?_
          refine En_lv1 (addI rfl (by decide : (Int32.ofInt 1).toInt = 1) (by first | exact q_465ab79ac1 h8 | omega) (by first | exact q_aeda34609f h9 | omega)) (fun z63 h64 => ?_)
          refine En_Ps 1 (pc' := 5) (lv' := [(4, .int z63), (0, .ref 159), (1, .int a), (2, .int b), (3, .int y1)]) (st' := []) rfl ?_
          refine En_lv (lv := [(0, .ref 159), (1, .int a), (2, .int b), (3, .int y1), (4, .int z63)]) ⟨rfl, rfl, rfl, rfl, rfl, trivial⟩ ?_
          exact ih5 y1 z63 (by first | exact q_58e6e51dcc h6 | omega) (by first | exact q_a18ee2e349 h7 | omega) (by first | exact q_35104ce9d3 h64 h8 | omega) (by first | exact q_b880857b86 h64 h13 hu_a | omega) (by first | exact q_ae2dbf4292 h13 h64 | omega) (by first | exact q_8d03a5a7cb h64 h11 | omega) (AFL_n hσ0 h12 h22 (by omega) h33 (by omega) (by omega) (by omega) (by omega) (by omega))
  have := (by decide : (Int32.ofInt 0).toInt = 0)
  have := (by decide : (Int32.ofInt 0).toInt = 0)
  refine En_lv (lv := [(0, .ref 159), (1, .int a), (2, .int b), (3, .int ((Int32.ofInt 0))), (4, .int ((Int32.ofInt 0)))]) ⟨rfl, rfl, rfl, rfl, rfl, trivial⟩ ?_
  exact key5 (Int.toNat (a.toInt) + 1) ((Int32.ofInt 0)) ((Int32.ofInt 0)) (by decide) (by decide) (by decide) (by decide) (by omega) (by first | exact toN_lt _ | omega) (AFL_0 (by decide) (by decide))
/-- DoorSchoolModel.isDoor(I)Z -/
abbrev P_254 (σ0 : SG) (a : Int32) (nd : Int32) : PO := fun v σ => WT σ ∧ Fr [] σ0 σ ∧ ∃ ret : Int32, v = some (.int ret) ∧ -ret.toInt ≤ 0 ∧ ret.toInt - 1 ≤ 0 ∧ (-ret.toInt + 1 ≤ 0 → -a.toInt ≤ 0 ∧ a.toInt - nd.toInt + 1 ≤ 0) ∧ (-a.toInt ≤ 0 ∧ a.toInt - nd.toInt + 1 ≤ 0 → -ret.toInt + 1 ≤ 0) ∧ (ret.toInt - 1 ≤ 0 ∧ -ret.toInt + 1 ≤ 0 → -a.toInt ≤ 0 ∧ a.toInt - 3 ≤ 0)
set_option maxRecDepth 10000 in
set_option maxHeartbeats 4000000 in
theorem c_254 (σ0 : SG) (hσ0 : WT σ0) (a : Int32) (nd : Int32) (h_nd : (σ0 160)[(2 : Int).toNat]? = some (.int nd)) : En 1 25 none mr_254 (P_254 σ0 a nd) 0 [(0, .ref 159), (1, .int a)] [] σ0 := by
  obtain ⟨hl_nd, hu_nd⟩ := WT_int hσ0 (g := 36) (by decide +kernel) (by decide +kernel) (l := 0) (u := 4) (by decide +kernel) h_nd
  have hF0 : Fr [] σ0 σ0 := Fr_rfl
  refine En_Ps 4 (pc' := 4) (lv' := [(0, .ref 159), (1, .int a)]) (st' := [.ref 159, .long ((Int64.ofNat 0)), .long a.toInt64]) rfl ?_
  refine En_getU (j := 1) (u := 160) (g' := 36) (q := 0) rfl rfl rfl tgz_159 (by decide +kernel) hσ0 (by decide +kernel) (by decide +kernel) (fun h1 => ?_)
  refine En_Ps 1 (pc' := 8) (lv' := [(0, .ref 159), (1, .int a)]) (st' := [.int ((Int32.ofInt 2)), .ref 160, .long ((Int64.ofNat 0)), .long a.toInt64]) rfl ?_
  refine En_ialdK h_nd rfl (by decide : (Int32.ofInt 2).toInt = 2) tgz_160 (by decide +kernel) hσ0 (by decide) (lnI (by decide +kernel : LN _ = 226) (by decide)) ?_
  refine En_Ps 2 (pc' := 11) (lv' := [(0, .ref 159), (1, .int a)]) (st' := [.int ((nd - ((Int32.ofInt 1)))), .long ((Int64.ofNat 0)), .long a.toInt64]) rfl ?_
  refine En_top (subI rfl (by decide : (Int32.ofInt 1).toInt = 1) (by first | exact q_93f9478bef hl_nd | omega) (by first | exact q_cc3cee8591 hu_nd | omega)) (fun z4 h5 => ?_)
  refine En_Ps 1 (pc' := 12) (lv' := [(0, .ref 159), (1, .int a)]) (st' := [.long z4.toInt64, .long ((Int64.ofNat 0)), .long a.toInt64]) rfl ?_
  have : a.toInt64.toInt = a.toInt := (i2lI rfl)
  have := (by decide : ((Int64.ofNat 0)).toInt = 0)
  have : z4.toInt64.toInt = z4.toInt := (i2lI rfl)
  refine En_callS rfl rfl rfl rfl rfl rfl rfl rfl rfl (c_249 σ0 hσ0 a.toInt64 ((Int64.ofNat 0)) z4.toInt64) (by decide) (by decide) (fun v7 σ8 h6 => ?_)
  obtain ⟨h9, h10, z12, rfl, h11⟩ := h6
  have h13 := Fr_trans hF0 h10 (by decide +kernel)
  exact En_ret (v := some (.int z12)) rfl rfl (retZ rfl rfl (by first | exact q_ef1e8e38bf h11.1 | omega) (by first | exact q_733c8bfbae h11.2.1 | omega)) ⟨h9, h13, z12, rfl, ⟨by first | exact q_a555021d16 h11.1 | omega, by first | exact q_ad5b726bf8 h11.2.1 | omega, fun _ => by omega, fun _ => by omega, fun _ => by omega⟩⟩
/-- DoorSchoolModel.isSchool()Z -/
abbrev P_264 (σ0 : SG) (sc : Int32) : PO := fun v σ => WT σ ∧ Fr [] σ0 σ ∧ ∃ ret : Int32, v = some (.int ret) ∧ -ret.toInt ≤ 0 ∧ ret.toInt - 1 ≤ 0 ∧ (-ret.toInt + 1 ≤ 0 → -sc.toInt + 1 ≤ 0) ∧ (ret.toInt ≤ 0 → sc.toInt ≤ 0)
set_option maxRecDepth 10000 in
set_option maxHeartbeats 4000000 in
theorem c_264 (σ0 : SG) (hσ0 : WT σ0) (sc : Int32) (h_sc : (σ0 160)[(7 : Int).toNat]? = some (.int sc)) : En 0 0 none mr_264 (P_264 σ0 sc) 0 [(0, .ref 159)] [] σ0 := by
  obtain ⟨hl_sc, hu_sc⟩ := WT_int hσ0 (g := 36) (by decide +kernel) (by decide +kernel) (l := 0) (u := 1600) (by decide +kernel) h_sc
  have hF0 : Fr [] σ0 σ0 := Fr_rfl
  refine En_Ps 1 (pc' := 1) (lv' := [(0, .ref 159)]) (st' := [.ref 159]) rfl ?_
  refine En_getU (j := 1) (u := 160) (g' := 36) (q := 0) rfl rfl rfl tgz_159 (by decide +kernel) hσ0 (by decide +kernel) (by decide +kernel) (fun h1 => ?_)
  refine En_Ps 1 (pc' := 6) (lv' := [(0, .ref 159)]) (st' := [.int (((Int8.ofInt 7).toInt32)), .ref 160]) rfl ?_
  refine En_ialdK h_sc rfl (by decide : ((Int8.ofInt 7).toInt32).toInt = 7) tgz_160 (by decide +kernel) hσ0 (by decide) (lnI (by decide +kernel : LN _ = 226) (by decide)) ?_
  refine En_iLe _ rfl rfl (fun h4 => ?_) (fun h4 => ?_)
  · refine En_Ps 1 (pc' := 15) (lv' := [(0, .ref 159)]) (st' := [.int ((Int32.ofInt 0))]) rfl ?_
    refine En_top (by decide : (Int32.ofInt 0).toInt = 0) (fun z5 h6 => ?_)
    exact En_ret (v := some (.int z5)) rfl rfl (retZ rfl rfl (by first | exact q_55451d0a83 h6 | omega) (by first | exact q_87849c3859 h6 | omega)) ⟨hσ0, hF0, z5, rfl, ⟨by first | exact q_097a37c2ae h6 | omega, by first | exact q_e269517bee h6 | omega, fun _ => by omega, fun _ => by omega⟩⟩
  · refine En_Ps 2 (pc' := 15) (lv' := [(0, .ref 159)]) (st' := [.int ((Int32.ofInt 1))]) rfl ?_
    refine En_top (by decide : (Int32.ofInt 1).toInt = 1) (fun z7 h8 => ?_)
    exact En_ret (v := some (.int z7)) rfl rfl (retZ rfl rfl (by first | exact q_2b07c97645 h8 | omega) (by first | exact q_d9e7cbb253 h8 | omega)) ⟨hσ0, hF0, z7, rfl, ⟨by first | exact q_ad3eee31ca h8 | omega, by first | exact q_81cf297dc4 h8 | omega, fun _ => by omega, fun _ => by omega⟩⟩
/-- DoorSchoolModel.knocks()I -/
abbrev P_269 (σ0 : SG) (s : Int32) (sc : Int32) : PO := fun v σ => WT σ ∧ Fr [] σ0 σ ∧ ∃ ret : Int32, v = some (.int ret) ∧ -ret.toInt ≤ 0 ∧ ret.toInt - 16 ≤ 0 ∧ ret.toInt = kI sc.toInt s.toInt
set_option maxRecDepth 10000 in
set_option maxHeartbeats 4000000 in
theorem c_269 (σ0 : SG) (hσ0 : WT σ0) (s : Int32) (h_s : (σ0 160)[(0 : Int).toNat]? = some (.int s)) (sc : Int32) (h_sc : (σ0 160)[(7 : Int).toNat]? = some (.int sc)) : En 1 20 none mr_269 (P_269 σ0 s sc) 0 [(0, .ref 159)] [] σ0 := by
  obtain ⟨hl_s, hu_s⟩ := WT_int hσ0 (g := 36) (by decide +kernel) (by decide +kernel) (l := 0) (u := 4) (by decide +kernel) h_s
  obtain ⟨hl_sc, hu_sc⟩ := WT_int hσ0 (g := 36) (by decide +kernel) (by decide +kernel) (l := 0) (u := 1600) (by decide +kernel) h_sc
  have hF0 : Fr [] σ0 σ0 := Fr_rfl
  have := kI_val sc.toInt s.toInt
  refine En_Ps 1 (pc' := 1) (lv' := [(0, .ref 159)]) (st' := [.ref 159]) rfl ?_
  refine En_callV rfl rfl rfl rfl rfl rfl rfl rfl tgz_159 (by decide +kernel) rfl (c_264 σ0 hσ0 sc h_sc) (by decide) (by decide) (fun v2 σ3 h1 => ?_)
  obtain ⟨h4, h5, z7, rfl, h6⟩ := h1
  have h8 := Fr_trans hF0 h5 (by decide +kernel)
  refine En_iEq _ rfl rfl (fun h9 => ?_) (fun h9 => ?_)
  · refine En_Ps 1 (pc' := 19) (lv' := [(0, .ref 159)]) (st' := [.int ((Int32.ofInt 0))]) rfl ?_
    refine En_top (by decide : (Int32.ofInt 0).toInt = 0) (fun z10 h11 => ?_)
    exact En_ret (v := some (.int z10)) rfl rfl rfl ⟨h4, h8, z10, rfl, (by omega)⟩
  · refine En_Ps 2 (pc' := 9) (lv' := [(0, .ref 159)]) (st' := [.ref 159, .int ((Int32.ofInt 1))]) rfl ?_
    refine En_getU (j := 1) (u := 160) (g' := 36) (q := 0) rfl rfl rfl tgz_159 (by decide +kernel) h4 (by decide +kernel) (by decide +kernel) (fun h12 => ?_)
    refine En_Ps 1 (pc' := 13) (lv' := [(0, .ref 159)]) (st' := [.int ((Int32.ofInt 0)), .ref 160, .int ((Int32.ofInt 1))]) rfl ?_
    refine En_ialdK ((h5 _ _ (inWa tgz_160 (by decide +kernel))).trans h_s) rfl (by decide : (Int32.ofInt 0).toInt = 0) tgz_160 (by decide +kernel) h4 (by decide) (lnI (by decide +kernel : LN _ = 226) (by decide)) ?_
    refine En_Ps 1 (pc' := 15) (lv' := [(0, .ref 159)]) (st' := [.int ((((Int32.ofInt 1)) <<< (s &&& 31)))]) rfl ?_
    refine En_nam (fun z15 h16 => ?_)
    have h17 := shl1_v (y := s) rfl (by omega) (by omega)
    rw [← h16] at h17
    have h18 := shl1_p (y := s) 4 rfl (by omega) (by omega) (by decide)
    rw [← h16] at h18
    refine En_Ps 1 (pc' := 19) (lv' := [(0, .ref 159)]) (st' := [.int z15]) rfl ?_
    exact En_ret (v := some (.int z15)) rfl rfl rfl ⟨h4, h8, z15, rfl, (by omega)⟩
/-- DoorSchoolModel.bits(I)I of a small set -/
abbrev P_203a (σ0 : SG) (a : Int32) : PO := fun v σ => WT σ ∧ Fr [] σ0 σ ∧ ∃ ret : Int32, v = some (.int ret) ∧ -ret.toInt ≤ 0 ∧ ret.toInt - 4 ≤ 0 ∧ ret.toInt = bcI a.toInt
set_option maxRecDepth 10000 in
set_option maxHeartbeats 4000000 in
theorem c_203a (σ0 : SG) (hσ0 : WT σ0) (a : Int32) (hl_a : 0 ≤ a.toInt) (hu_a : a.toInt ≤ 15) : En 0 0 none mr_203 (P_203a σ0 a) 0 [(0, .int a)] [] σ0 := by
  have hF0 : Fr [] σ0 σ0 := Fr_rfl
  refine En_Ps 29 (pc' := 35) (lv' := [(2, .int ((((a - (((a.toUInt32 >>> ((Int32.ofInt 1).toUInt32 &&& Int32.toUInt32 31)).toInt32) &&& (1431655765 : Int32))) &&& (858993459 : Int32)) + ((((a - (((a.toUInt32 >>> ((Int32.ofInt 1).toUInt32 &&& Int32.toUInt32 31)).toInt32) &&& (1431655765 : Int32))).toUInt32 >>> ((Int32.ofInt 2).toUInt32 &&& Int32.toUInt32 31)).toInt32) &&& (858993459 : Int32))))), (1, .int ((a - (((a.toUInt32 >>> ((Int32.ofInt 1).toUInt32 &&& Int32.toUInt32 31)).toInt32) &&& (1431655765 : Int32))))), (0, .int a)]) (st' := [.int (((((((((a - (((a.toUInt32 >>> ((Int32.ofInt 1).toUInt32 &&& Int32.toUInt32 31)).toInt32) &&& (1431655765 : Int32))) &&& (858993459 : Int32)) + ((((a - (((a.toUInt32 >>> ((Int32.ofInt 1).toUInt32 &&& Int32.toUInt32 31)).toInt32) &&& (1431655765 : Int32))).toUInt32 >>> ((Int32.ofInt 2).toUInt32 &&& Int32.toUInt32 31)).toInt32) &&& (858993459 : Int32))) + (((((a - (((a.toUInt32 >>> ((Int32.ofInt 1).toUInt32 &&& Int32.toUInt32 31)).toInt32) &&& (1431655765 : Int32))) &&& (858993459 : Int32)) + ((((a - (((a.toUInt32 >>> ((Int32.ofInt 1).toUInt32 &&& Int32.toUInt32 31)).toInt32) &&& (1431655765 : Int32))).toUInt32 >>> ((Int32.ofInt 2).toUInt32 &&& Int32.toUInt32 31)).toInt32) &&& (858993459 : Int32))).toUInt32 >>> ((Int32.ofInt 4).toUInt32 &&& Int32.toUInt32 31)).toInt32)) &&& (252645135 : Int32)) * (16843009 : Int32)).toUInt32 >>> (((Int8.ofInt 24).toInt32).toUInt32 &&& Int32.toUInt32 31)).toInt32))]) rfl ?_
  refine En_nam (fun z hz => ?_)
  have hb := bits_small (fun x => ((((((((x - (((x.toUInt32 >>> ((Int32.ofInt 1).toUInt32 &&& Int32.toUInt32 31)).toInt32) &&& (1431655765 : Int32))) &&& (858993459 : Int32)) + ((((x - (((x.toUInt32 >>> ((Int32.ofInt 1).toUInt32 &&& Int32.toUInt32 31)).toInt32) &&& (1431655765 : Int32))).toUInt32 >>> ((Int32.ofInt 2).toUInt32 &&& Int32.toUInt32 31)).toInt32) &&& (858993459 : Int32))) + (((((x - (((x.toUInt32 >>> ((Int32.ofInt 1).toUInt32 &&& Int32.toUInt32 31)).toInt32) &&& (1431655765 : Int32))) &&& (858993459 : Int32)) + ((((x - (((x.toUInt32 >>> ((Int32.ofInt 1).toUInt32 &&& Int32.toUInt32 31)).toInt32) &&& (1431655765 : Int32))).toUInt32 >>> ((Int32.ofInt 2).toUInt32 &&& Int32.toUInt32 31)).toInt32) &&& (858993459 : Int32))).toUInt32 >>> ((Int32.ofInt 4).toUInt32 &&& Int32.toUInt32 31)).toInt32)) &&& (252645135 : Int32)) * (16843009 : Int32)).toUInt32 >>> (((Int8.ofInt 24).toInt32).toUInt32 &&& Int32.toUInt32 31)).toInt32)) hz (by decide +kernel) hl_a hu_a
  have hr := bcI_rng a.toInt
  exact En_ret (v := some (.int z)) rfl rfl rfl ⟨hσ0, hF0, z, rfl, (by omega)⟩
/-- DoorSchoolModel.bits(I)I -/
abbrev P_203b (σ0 : SG) (a : Int32) : PO := fun v σ => WT σ ∧ Fr [] σ0 σ ∧ ∃ ret : Int32, v = some (.int ret) ∧ True
set_option maxRecDepth 10000 in
set_option maxHeartbeats 4000000 in
theorem c_203b (σ0 : SG) (hσ0 : WT σ0) (a : Int32) : En 0 0 none mr_203 (P_203b σ0 a) 0 [(0, .int a)] [] σ0 := by
  have hF0 : Fr [] σ0 σ0 := Fr_rfl
  refine En_Ps 4 (pc' := 4) (lv' := [(0, .int a)]) (st' := [.int (((a.toUInt32 >>> (((Int32.ofInt 1)).toUInt32 &&& Int32.toUInt32 31)).toInt32)), .int a]) rfl ?_
  refine En_hav (fun z1 => ?_)
  refine En_Ps 2 (pc' := 7) (lv' := [(0, .int a)]) (st' := [.int ((z1 &&& ((1431655765 : Int32)))), .int a]) rfl ?_
  refine En_rng (l := 0) (u := 1431655765) (andR_rng (by decide : (1431655765 : Int32).toInt = 1431655765) (by decide)) (fun z2 h3 h4 => ?_)
  refine En_Ps 1 (pc' := 8) (lv' := [(0, .int a)]) (st' := [.int ((a - z2))]) rfl ?_
  refine En_hav (fun z5 => ?_)
  refine En_Ps 4 (pc' := 13) (lv' := [(1, .int z5), (0, .int a)]) (st' := [.int ((z5 &&& ((858993459 : Int32))))]) rfl ?_
  refine En_rng (l := 0) (u := 858993459) (andR_rng (by decide : (858993459 : Int32).toInt = 858993459) (by decide)) (fun z6 h7 h8 => ?_)
  refine En_Ps 3 (pc' := 16) (lv' := [(1, .int z5), (0, .int a)]) (st' := [.int (((z5.toUInt32 >>> (((Int32.ofInt 2)).toUInt32 &&& Int32.toUInt32 31)).toInt32)), .int z6]) rfl ?_
  refine En_hav (fun z9 => ?_)
  refine En_Ps 2 (pc' := 19) (lv' := [(1, .int z5), (0, .int a)]) (st' := [.int ((z9 &&& ((858993459 : Int32)))), .int z6]) rfl ?_
  refine En_rng (l := 0) (u := 858993459) (andR_rng (by decide : (858993459 : Int32).toInt = 858993459) (by decide)) (fun z10 h11 h12 => ?_)
  refine En_Ps 1 (pc' := 20) (lv' := [(1, .int z5), (0, .int a)]) (st' := [.int ((z6 + z10))]) rfl ?_
  refine En_top (addI rfl rfl (by first | exact q_3bb374bebc h7 h11 | omega) (by first | exact q_ce39e5e0e0 h8 h12 | omega)) (fun z13 h14 => ?_)
  refine En_Ps 5 (pc' := 25) (lv' := [(2, .int z13), (1, .int z5), (0, .int a)]) (st' := [.int (((z13.toUInt32 >>> (((Int32.ofInt 4)).toUInt32 &&& Int32.toUInt32 31)).toInt32)), .int z13]) rfl ?_
  refine En_hav (fun z15 => ?_)
  refine En_Ps 1 (pc' := 26) (lv' := [(2, .int z13), (1, .int z5), (0, .int a)]) (st' := [.int ((z13 + z15))]) rfl ?_
  refine En_hav (fun z16 => ?_)
  refine En_Ps 2 (pc' := 29) (lv' := [(2, .int z13), (1, .int z5), (0, .int a)]) (st' := [.int ((z16 &&& ((252645135 : Int32))))]) rfl ?_
  refine En_rng (l := 0) (u := 252645135) (andR_rng (by decide : (252645135 : Int32).toInt = 252645135) (by decide)) (fun z17 h18 h19 => ?_)
  refine En_Ps 2 (pc' := 32) (lv' := [(2, .int z13), (1, .int z5), (0, .int a)]) (st' := [.int ((z17 * ((16843009 : Int32))))]) rfl ?_
  refine En_hav (fun z20 => ?_)
  refine En_Ps 2 (pc' := 35) (lv' := [(2, .int z13), (1, .int z5), (0, .int a)]) (st' := [.int (((z20.toUInt32 >>> ((((Int8.ofInt 24).toInt32)).toUInt32 &&& Int32.toUInt32 31)).toInt32))]) rfl ?_
  refine En_hav (fun z21 => ?_)
  exact En_ret (v := some (.int z21)) rfl rfl rfl ⟨hσ0, hF0, z21, rfl, trivial⟩

