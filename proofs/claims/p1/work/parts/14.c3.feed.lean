/-! feed and row, of both -/
/-- java/util/Arrays.fill([JJ)V -/
abbrev P_2 (σ0 : SG) (a : Nat) (v : Int64) : PO := fun v σ => WT σ ∧ Fr [(33, 0)] σ0 σ ∧ v = none ∧ True
set_option maxRecDepth 10000 in
set_option maxHeartbeats 4000000 in
theorem c_2 (σ0 : SG) (hσ0 : WT σ0) (a : Nat) (ha : TG a = 33) (v : Int64) : En 0 0 none mr_2 (P_2 σ0 a v) 0 [(0, .ref a), (1, .long v)] [] σ0 := by
  have hF0 : Fr [(33, 0)] σ0 σ0 := Fr_rfl
  refine En_Ps 3 (pc' := 3) (lv' := [(3, .int ((Int32.ofInt 0))), (0, .ref a), (1, .long v)]) (st' := [.ref a]) rfl ?_
  refine En_alenN (n := 60) rfl ha (by decide +kernel) (by decide +kernel) hσ0 ?_
  refine En_Ps 1 (pc' := 6) (lv' := [(4, .int ((Int32.ofNat 60))), (3, .int ((Int32.ofInt 0))), (0, .ref a), (1, .long v)]) (st' := []) rfl ?_
  have key6 : ∀ (n : Nat) (σ2 : SG) (y1 : Int32), WT σ2 → Fr [(33, 0)] σ0 σ2 → 0 ≤ y1.toInt → y1.toInt ≤ 60 → -y1.toInt + 60 < (n : Int) → En 0 0 none mr_2 (P_2 σ0 a v) 6 [(0, .ref a), (1, .long v), (3, .int y1), (4, .int ((Int32.ofNat 60)))] [] σ2 := by
    intro n
    induction n with
    | zero =>
      intro σ2 y1 h3 h4 h5 h6 h7
      exfalso; omega
    | succ n ih =>
      intro σ2 y1 h3 h4 h5 h6 h7
      refine En_Ps 2 (pc' := 9) (lv' := [(0, .ref a), (1, .long v), (3, .int y1), (4, .int ((Int32.ofNat 60)))]) (st' := [.int ((Int32.ofNat 60)), .int y1]) rfl ?_
      refine En_icGe _ rfl (by decide : (Int32.ofNat 60).toInt = 60) rfl (fun h8 => ?_) (fun h8 => ?_)
      · exact En_ret (v := none) rfl rfl rfl ⟨h3, h4, rfl, trivial⟩
      · refine En_Ps 3 (pc' := 15) (lv' := [(0, .ref a), (1, .long v), (3, .int y1), (4, .int ((Int32.ofNat 60)))]) (st' := [.long v, .int y1, .ref a]) rfl ?_
        refine En_last (l := (-9223372036854775808)) (u := 9223372036854775807) rfl rfl ha (by decide +kernel) (by omega) (lnI (by decide +kernel : LN _ = 60) (by omega)) (FTsgl (by decide +kernel)) (fullL _) h3 h4 (by decide +kernel) (fun σ9 h10 h11 h12 h13 => ?_)
        refine En_Ps 1 (pc' := 19) (lv' := [(3, .int ((y1 + Int32.ofInt 1))), (0, .ref a), (1, .long v), (4, .int ((Int32.ofNat 60)))]) (st' := []) rfl ?_
        refine En_lv1 (addI rfl (by decide : (Int32.ofInt 1).toInt = 1) (by omega) (by omega)) (fun z14 h15 => ?_)
        refine En_Ps 1 (pc' := 6) (lv' := [(3, .int z14), (0, .ref a), (1, .long v), (4, .int ((Int32.ofNat 60)))]) (st' := []) rfl ?_
        refine En_lv (lv := [(0, .ref a), (1, .long v), (3, .int z14), (4, .int ((Int32.ofNat 60)))]) ⟨rfl, rfl, rfl, rfl, trivial⟩ ?_
        exact ih σ9 z14 h10 h11 (by omega) (by omega) (by omega)
  have := (by decide : (Int32.ofInt 0).toInt = 0)
  refine En_lv (lv := [(0, .ref a), (1, .long v), (3, .int ((Int32.ofInt 0))), (4, .int ((Int32.ofNat 60)))]) ⟨rfl, rfl, rfl, rfl, trivial⟩ ?_
  exact key6 (Int.toNat (60) + 1) σ0 ((Int32.ofInt 0)) hσ0 hF0 (by omega) (by omega) (by omega)
/-- DoorSchool$Tape.append(I)V -/
abbrev P_81 (σ0 : SG) (x : Int32) (m : Int32) : PO := fun v σ => WT σ ∧ Fr [(1, 1), (2, 0)] σ0 σ ∧ ∃ m1 : Int32, (σ 1)[1]? = some (.int m1) ∧ v = none ∧ -m1.toInt + 4 ≤ 0 ∧ m1.toInt - 1600 ≤ 0 ∧ -m1.toInt + m.toInt + 4 ≤ 0 ∧ m1.toInt - m.toInt - 4 ≤ 0
set_option maxRecDepth 10000 in
set_option maxHeartbeats 4000000 in
theorem c_81 (σ0 : SG) (hσ0 : WT σ0) (x : Int32) (m : Int32) (h_m : (σ0 1)[1]? = some (.int m)) (hp0 : m.toInt - 1596 ≤ 0) : En 0 0 none mr_81 (P_81 σ0 x m) 0 [(0, .ref 1), (1, .int x)] [] σ0 := by
  obtain ⟨hl_m, hu_m⟩ := WT_int hσ0 (g := 1) (by decide +kernel) (by decide +kernel) (l := 0) (u := 1600) (by decide +kernel) h_m
  have hF0 : Fr [(1, 1), (2, 0)] σ0 σ0 := Fr_rfl
  refine En_Ps 2 (pc' := 3) (lv' := [(2, .int (((Int8.ofInt 24).toInt32))), (0, .ref 1), (1, .int x)]) (st' := []) rfl ?_
  have key3 : ∀ (n : Nat) (σ3 : SG) (y1 : Int32) (y2 : Int32), WT σ3 → Fr [(1, 1), (2, 0)] σ0 σ3 → (σ3 1)[1]? = some (.int y2) → (-8) ≤ y1.toInt → y1.toInt ≤ 24 → 0 ≤ y2.toInt → y2.toInt ≤ 1600 → y1.toInt + 8 * y2.toInt - 8 * m.toInt - 24 ≤ 0 → 8 * m.toInt - y1.toInt - 8 * y2.toInt + 24 ≤ 0 → y1.toInt + 8 < (n : Int) → En 0 0 none mr_81 (P_81 σ0 x m) 3 [(0, .ref 1), (1, .int x), (2, .int y1)] [] σ3 := by
    intro n
    induction n with
    | zero =>
      intro σ3 y1 y2 h4 h5 h6 h7 h8 h9 h10 h11 h12 h13
      exfalso; omega
    | succ n ih =>
      intro σ3 y1 y2 h4 h5 h6 h7 h8 h9 h10 h11 h12 h13
      refine En_Ps 1 (pc' := 4) (lv' := [(0, .ref 1), (1, .int x), (2, .int y1)]) (st' := [.int y1]) rfl ?_
      refine En_iLt _ rfl rfl (fun h14 => ?_) (fun h14 => ?_)
      · exact En_ret (v := none) rfl rfl rfl ⟨h4, h5, y2, h6, rfl, (by omega)⟩
      · refine En_Ps 1 (pc' := 8) (lv' := [(0, .ref 1), (1, .int x), (2, .int y1)]) (st' := [.ref 1]) rfl ?_
        refine En_getK (j := 1) h6 rfl rfl rfl (by decide +kernel : TG 1 = 1) (by decide +kernel) ?_
        refine En_Ps 1 (pc' := 12) (lv' := [(0, .ref 1), (1, .int x), (2, .int y1)]) (st' := [.ref 1, .int y2]) rfl ?_
        refine En_getU (j := 0) (u := 2) (g' := 2) (q := 0) rfl rfl rfl (by decide +kernel : TG 1 = 1) (by decide +kernel) h4 (by decide +kernel) (by decide +kernel) (fun h15 => ?_)
        refine En_alenN (n := 1600) rfl (by decide +kernel : TG 2 = 2) (by decide +kernel) (by decide +kernel) h4 ?_
        refine En_icGe _ rfl (by decide : (Int32.ofNat 1600).toInt = 1600) rfl (fun hx => by exfalso; omega) (fun h17 => ?_)
        refine En_Ps 1 (pc' := 20) (lv' := [(0, .ref 1), (1, .int x), (2, .int y1)]) (st' := [.ref 1]) rfl ?_
        refine En_getK (j := 0) h15 rfl rfl rfl (by decide +kernel : TG 1 = 1) (by decide +kernel) ?_
        refine En_Ps 1 (pc' := 24) (lv' := [(0, .ref 1), (1, .int x), (2, .int y1)]) (st' := [.ref 1, .ref 2]) rfl ?_
        refine En_getK (j := 1) h6 rfl rfl rfl (by decide +kernel : TG 1 = 1) (by decide +kernel) ?_
        refine En_Ps 3 (pc' := 30) (lv' := [(0, .ref 1), (1, .int x), (2, .int y1)]) (st' := [.int (((x.toUInt32 >>> (y1.toUInt32 &&& Int32.toUInt32 31)).toInt32)), .int y2, .ref 2]) rfl ?_
        refine En_hav (fun z18 => ?_)
        refine En_Ps 1 (pc' := 31) (lv' := [(0, .ref 1), (1, .int x), (2, .int y1)]) (st' := [.int ((z18.toInt8.toInt32)), .int y2, .ref 2]) rfl ?_
        refine En_rng (l := -128) (u := 127) (i2b_rng _) (fun z19 h20 h21 => ?_)
        refine En_bast (l := (-128)) (u := 127) rfl rfl (by decide +kernel : TG 2 = 2) (by decide +kernel) (narB rfl (by omega) (by omega)) (by omega) (lnI (by decide +kernel : LN _ = 1600) (by omega)) (FTsgl (by decide +kernel)) (rngI rfl (by omega) (by omega)) h4 h5 (by decide +kernel) (fun σ22 h23 h24 h25 h26 => ?_)
        refine En_Ps 2 (pc' := 34) (lv' := [(0, .ref 1), (1, .int x), (2, .int y1)]) (st' := [.ref 1, .ref 1]) rfl ?_
        refine En_getK (j := 1) ((h26 _ _ (Or.inl (neTG (by decide +kernel : TG 1 = 1) (by decide +kernel : TG 2 = 2) (by decide)))).trans h6) rfl rfl rfl (by decide +kernel : TG 1 = 1) (by decide +kernel) ?_
        refine En_Ps 2 (pc' := 39) (lv' := [(0, .ref 1), (1, .int x), (2, .int y1)]) (st' := [.int ((y2 + ((Int32.ofInt 1)))), .ref 1]) rfl ?_
        refine En_top (addI rfl (by decide : (Int32.ofInt 1).toInt = 1) (by omega) (by omega)) (fun z27 h28 => ?_)
        refine En_put (j := 1) rfl rfl rfl (by decide +kernel : TG 1 = 1) (by decide +kernel) rfl (vI (l := 0) (u := 1600) (by decide +kernel) rfl (by omega) (by omega)) h23 h24 (by decide +kernel) (fun σ29 h30 h31 h32 h33 => ?_)
        refine En_Ps 1 (pc' := 45) (lv' := [(2, .int ((y1 + Int32.ofInt (-8)))), (0, .ref 1), (1, .int x)]) (st' := []) rfl ?_
        refine En_lv1 (addI rfl (by decide : (Int32.ofInt (-8)).toInt = -8) (by omega) (by omega)) (fun z34 h35 => ?_)
        refine En_Ps 1 (pc' := 3) (lv' := [(2, .int z34), (0, .ref 1), (1, .int x)]) (st' := []) rfl ?_
        refine En_lv (lv := [(0, .ref 1), (1, .int x), (2, .int z34)]) ⟨rfl, rfl, rfl, trivial⟩ ?_
        exact ih σ29 z34 z27 h30 h31 h32 (by omega) (by omega) (by omega) (by omega) (by omega) (by omega) (by omega)
  have := (by decide : ((Int8.ofInt 24).toInt32).toInt = 24)
  refine En_lv (lv := [(0, .ref 1), (1, .int x), (2, .int (((Int8.ofInt 24).toInt32)))]) ⟨rfl, rfl, rfl, trivial⟩ ?_
  exact key3 (Int.toNat (32) + 1) σ0 (((Int8.ofInt 24).toInt32)) m hσ0 hF0 h_m (by omega) (by omega) (by omega) (by omega) (by omega) (by omega) (by omega)
/-- DoorSchool.feed(IIIII)I -/
abbrev P_113 (σ0 : SG) (a : Int32) (b : Int32) (c : Int32) (d : Int32) (e : Int32) (m : Int32) : PO := fun v σ => WT σ ∧ Fr [(1, 1), (2, 0)] σ0 σ ∧ ∃ m1 : Int32, (σ 1)[1]? = some (.int m1) ∧ ∃ ret : Int32, v = some (.int ret) ∧ -ret.toInt - 1 ≤ 0 ∧ ret.toInt - 1600 ≤ 0 ∧ -m1.toInt + 20 ≤ 0 ∧ m1.toInt - 1600 ≤ 0 ∧ -m1.toInt + m.toInt ≤ 0 ∧ m1.toInt - m.toInt - 20 ≤ 0 ∧ (m.toInt - 1580 ≤ 0 → ret.toInt - m.toInt - 20 ≤ 0 ∧ -ret.toInt + m.toInt + 20 ≤ 0 ∧ m1.toInt - m.toInt - 20 ≤ 0 ∧ -m1.toInt + m.toInt + 20 ≤ 0) ∧ (-m.toInt + 1581 ≤ 0 → ret.toInt + 1 ≤ 0 ∧ -ret.toInt - 1 ≤ 0 ∧ m1.toInt - m.toInt ≤ 0 ∧ -m1.toInt + m.toInt ≤ 0)
set_option maxRecDepth 10000 in
set_option maxHeartbeats 4000000 in
theorem c_113 (σ0 : SG) (hσ0 : WT σ0) (a : Int32) (b : Int32) (c : Int32) (d : Int32) (e : Int32) (m : Int32) (h_m : (σ0 1)[1]? = some (.int m)) : En 1 22 none mr_113 (P_113 σ0 a b c d e m) 0 [(0, .ref 0), (1, .int a), (2, .int b), (3, .int c), (4, .int d), (5, .int e)] [] σ0 := by
  obtain ⟨hl_m, hu_m⟩ := WT_int hσ0 (g := 1) (by decide +kernel) (by decide +kernel) (l := 0) (u := 1600) (by decide +kernel) h_m
  have hF0 : Fr [(1, 1), (2, 0)] σ0 σ0 := Fr_rfl
  refine En_Ps 1 (pc' := 1) (lv' := [(0, .ref 0), (1, .int a), (2, .int b), (3, .int c), (4, .int d), (5, .int e)]) (st' := [.ref 0]) rfl ?_
  refine En_getU (j := 0) (u := 1) (g' := 1) (q := 0) rfl rfl rfl (by decide +kernel : TG 0 = 0) (by decide +kernel) hσ0 (by decide +kernel) (by decide +kernel) (fun h1 => ?_)
  refine En_getK (j := 1) h_m rfl rfl rfl (by decide +kernel : TG 1 = 1) (by decide +kernel) ?_
  refine En_Ps 2 (pc' := 10) (lv' := [(0, .ref 0), (1, .int a), (2, .int b), (3, .int c), (4, .int d), (5, .int e)]) (st' := [.int ((m + (((Int8.ofInt 20).toInt32))))]) rfl ?_
  refine En_top (addI rfl (by decide : ((Int8.ofInt 20).toInt32).toInt = 20) (by omega) (by omega)) (fun z3 h4 => ?_)
  refine En_Ps 1 (pc' := 13) (lv' := [(0, .ref 0), (1, .int a), (2, .int b), (3, .int c), (4, .int d), (5, .int e)]) (st' := [.int (((Int16.ofInt 1600).toInt32)), .int z3]) rfl ?_
  refine En_icLe _ rfl (by decide : ((Int16.ofInt 1600).toInt32).toInt = 1600) rfl (fun h5 => ?_) (fun h5 => ?_)
  · refine En_Ps 1 (pc' := 19) (lv' := [(0, .ref 0), (1, .int a), (2, .int b), (3, .int c), (4, .int d), (5, .int e)]) (st' := [.ref 0]) rfl ?_
    refine En_getK (j := 0) h1 rfl rfl rfl (by decide +kernel : TG 0 = 0) (by decide +kernel) ?_
    refine En_Ps 1 (pc' := 23) (lv' := [(0, .ref 0), (1, .int a), (2, .int b), (3, .int c), (4, .int d), (5, .int e)]) (st' := [.int a, .ref 1]) rfl ?_
    refine En_callV rfl rfl rfl rfl rfl rfl rfl rfl (by decide +kernel : TG 1 = 1) (by decide +kernel) rfl (c_81 σ0 hσ0 a m h_m (by omega)) (by decide) (by decide) (fun v7 σ8 h6 => ?_)
    obtain ⟨h9, h10, z12, h13, rfl, h11⟩ := h6
    have h14 := Fr_trans hF0 h10 (by decide +kernel)
    refine En_Ps 1 (pc' := 27) (lv' := [(0, .ref 0), (1, .int a), (2, .int b), (3, .int c), (4, .int d), (5, .int e)]) (st' := [.ref 0]) rfl ?_
    refine En_getK (j := 0) ((h10 _ _ (inW (by decide +kernel : TG 0 = 0) (by decide +kernel))).trans h1) rfl rfl rfl (by decide +kernel : TG 0 = 0) (by decide +kernel) ?_
    refine En_Ps 1 (pc' := 31) (lv' := [(0, .ref 0), (1, .int a), (2, .int b), (3, .int c), (4, .int d), (5, .int e)]) (st' := [.int b, .ref 1]) rfl ?_
    refine En_callV rfl rfl rfl rfl rfl rfl rfl rfl (by decide +kernel : TG 1 = 1) (by decide +kernel) rfl (c_81 σ8 h9 b z12 h13 (by omega)) (by decide) (by decide) (fun v16 σ17 h15 => ?_)
    obtain ⟨h18, h19, z21, h22, rfl, h20⟩ := h15
    have h23 := Fr_trans h14 h19 (by decide +kernel)
    refine En_Ps 1 (pc' := 35) (lv' := [(0, .ref 0), (1, .int a), (2, .int b), (3, .int c), (4, .int d), (5, .int e)]) (st' := [.ref 0]) rfl ?_
    refine En_getK (j := 0) ((h19 _ _ (inW (by decide +kernel : TG 0 = 0) (by decide +kernel))).trans ((h10 _ _ (inW (by decide +kernel : TG 0 = 0) (by decide +kernel))).trans h1)) rfl rfl rfl (by decide +kernel : TG 0 = 0) (by decide +kernel) ?_
    refine En_Ps 1 (pc' := 39) (lv' := [(0, .ref 0), (1, .int a), (2, .int b), (3, .int c), (4, .int d), (5, .int e)]) (st' := [.int c, .ref 1]) rfl ?_
    refine En_callV rfl rfl rfl rfl rfl rfl rfl rfl (by decide +kernel : TG 1 = 1) (by decide +kernel) rfl (c_81 σ17 h18 c z21 h22 (by omega)) (by decide) (by decide) (fun v25 σ26 h24 => ?_)
    obtain ⟨h27, h28, z30, h31, rfl, h29⟩ := h24
    have h32 := Fr_trans h23 h28 (by decide +kernel)
    refine En_Ps 1 (pc' := 43) (lv' := [(0, .ref 0), (1, .int a), (2, .int b), (3, .int c), (4, .int d), (5, .int e)]) (st' := [.ref 0]) rfl ?_
    refine En_getK (j := 0) ((h28 _ _ (inW (by decide +kernel : TG 0 = 0) (by decide +kernel))).trans ((h19 _ _ (inW (by decide +kernel : TG 0 = 0) (by decide +kernel))).trans ((h10 _ _ (inW (by decide +kernel : TG 0 = 0) (by decide +kernel))).trans h1))) rfl rfl rfl (by decide +kernel : TG 0 = 0) (by decide +kernel) ?_
    refine En_Ps 1 (pc' := 48) (lv' := [(0, .ref 0), (1, .int a), (2, .int b), (3, .int c), (4, .int d), (5, .int e)]) (st' := [.int d, .ref 1]) rfl ?_
    refine En_callV rfl rfl rfl rfl rfl rfl rfl rfl (by decide +kernel : TG 1 = 1) (by decide +kernel) rfl (c_81 σ26 h27 d z30 h31 (by omega)) (by decide) (by decide) (fun v34 σ35 h33 => ?_)
    obtain ⟨h36, h37, z39, h40, rfl, h38⟩ := h33
    have h41 := Fr_trans h32 h37 (by decide +kernel)
    refine En_Ps 1 (pc' := 52) (lv' := [(0, .ref 0), (1, .int a), (2, .int b), (3, .int c), (4, .int d), (5, .int e)]) (st' := [.ref 0]) rfl ?_
    refine En_getK (j := 0) ((h37 _ _ (inW (by decide +kernel : TG 0 = 0) (by decide +kernel))).trans ((h28 _ _ (inW (by decide +kernel : TG 0 = 0) (by decide +kernel))).trans ((h19 _ _ (inW (by decide +kernel : TG 0 = 0) (by decide +kernel))).trans ((h10 _ _ (inW (by decide +kernel : TG 0 = 0) (by decide +kernel))).trans h1)))) rfl rfl rfl (by decide +kernel : TG 0 = 0) (by decide +kernel) ?_
    refine En_Ps 1 (pc' := 57) (lv' := [(0, .ref 0), (1, .int a), (2, .int b), (3, .int c), (4, .int d), (5, .int e)]) (st' := [.int e, .ref 1]) rfl ?_
    refine En_callV rfl rfl rfl rfl rfl rfl rfl rfl (by decide +kernel : TG 1 = 1) (by decide +kernel) rfl (c_81 σ35 h36 e z39 h40 (by omega)) (by decide) (by decide) (fun v43 σ44 h42 => ?_)
    obtain ⟨h45, h46, z48, h49, rfl, h47⟩ := h42
    have h50 := Fr_trans h41 h46 (by decide +kernel)
    refine En_Ps 1 (pc' := 61) (lv' := [(0, .ref 0), (1, .int a), (2, .int b), (3, .int c), (4, .int d), (5, .int e)]) (st' := [.ref 0]) rfl ?_
    refine En_getK (j := 0) ((h46 _ _ (inW (by decide +kernel : TG 0 = 0) (by decide +kernel))).trans ((h37 _ _ (inW (by decide +kernel : TG 0 = 0) (by decide +kernel))).trans ((h28 _ _ (inW (by decide +kernel : TG 0 = 0) (by decide +kernel))).trans ((h19 _ _ (inW (by decide +kernel : TG 0 = 0) (by decide +kernel))).trans ((h10 _ _ (inW (by decide +kernel : TG 0 = 0) (by decide +kernel))).trans h1))))) rfl rfl rfl (by decide +kernel : TG 0 = 0) (by decide +kernel) ?_
    refine En_getK (j := 1) h49 rfl rfl rfl (by decide +kernel : TG 1 = 1) (by decide +kernel) ?_
    exact En_ret (v := some (.int z48)) rfl rfl rfl ⟨h45, h50, z48, h49, z48, rfl, (by omega)⟩
  · refine En_Ps 1 (pc' := 17) (lv' := [(0, .ref 0), (1, .int a), (2, .int b), (3, .int c), (4, .int d), (5, .int e)]) (st' := [.int ((Int32.ofInt (-1)))]) rfl ?_
    refine En_top (by decide : (Int32.ofInt (-1)).toInt = -1) (fun z51 h52 => ?_)
    exact En_ret (v := some (.int z51)) rfl rfl rfl ⟨hσ0, hF0, m, h_m, z51, rfl, (by omega)⟩
/-- DoorSchoolModel.feed(IIIII)I -/
abbrev P_217 (σ0 : SG) (a : Int32) (b : Int32) (c : Int32) (d : Int32) (e : Int32) (m : Int32) : PO := fun v σ => WT σ ∧ Fr [(34, 5), (38, 0), (39, 0)] σ0 σ ∧ ∃ m1 : Int32, (σ 159)[5]? = some (.int m1) ∧ ∃ ret : Int32, v = some (.int ret) ∧ -ret.toInt - 1 ≤ 0 ∧ ret.toInt - 1600 ≤ 0 ∧ -m1.toInt + 20 ≤ 0 ∧ m1.toInt - 1600 ≤ 0 ∧ -m1.toInt + m.toInt ≤ 0 ∧ m1.toInt - m.toInt - 20 ≤ 0 ∧ (m.toInt - 1580 ≤ 0 → ret.toInt - m.toInt - 20 ≤ 0 ∧ -ret.toInt + m.toInt + 20 ≤ 0 ∧ m1.toInt - m.toInt - 20 ≤ 0 ∧ -m1.toInt + m.toInt + 20 ≤ 0) ∧ (-m.toInt + 1581 ≤ 0 → ret.toInt + 1 ≤ 0 ∧ -ret.toInt - 1 ≤ 0 ∧ m1.toInt - m.toInt ≤ 0 ∧ -m1.toInt + m.toInt ≤ 0)
set_option maxRecDepth 10000 in
set_option maxHeartbeats 4000000 in
theorem c_217 (σ0 : SG) (hσ0 : WT σ0) (a : Int32) (b : Int32) (c : Int32) (d : Int32) (e : Int32) (m : Int32) (h_m : (σ0 159)[5]? = some (.int m)) : En 0 0 none mr_217 (P_217 σ0 a b c d e m) 0 [(0, .ref 159), (1, .int a), (2, .int b), (3, .int c), (4, .int d), (5, .int e)] [] σ0 := by
  obtain ⟨hl_m, hu_m⟩ := WT_int hσ0 (g := 34) (by decide +kernel) (by decide +kernel) (l := 0) (u := 1600) (by decide +kernel) h_m
  have hF0 : Fr [(34, 5), (38, 0), (39, 0)] σ0 σ0 := Fr_rfl
  refine En_Ps 1 (pc' := 1) (lv' := [(0, .ref 159), (1, .int a), (2, .int b), (3, .int c), (4, .int d), (5, .int e)]) (st' := [.ref 159]) rfl ?_
  refine En_getK (j := 5) h_m rfl rfl rfl (by decide +kernel : TG 159 = 34) (by decide +kernel) ?_
  refine En_Ps 2 (pc' := 7) (lv' := [(0, .ref 159), (1, .int a), (2, .int b), (3, .int c), (4, .int d), (5, .int e)]) (st' := [.int ((m + (((Int8.ofInt 20).toInt32))))]) rfl ?_
  refine En_top (addI rfl (by decide : ((Int8.ofInt 20).toInt32).toInt = 20) (by omega) (by omega)) (fun z1 h2 => ?_)
  refine En_Ps 1 (pc' := 10) (lv' := [(0, .ref 159), (1, .int a), (2, .int b), (3, .int c), (4, .int d), (5, .int e)]) (st' := [.int (((Int16.ofInt 1600).toInt32)), .int z1]) rfl ?_
  refine En_icLe _ rfl (by decide : ((Int16.ofInt 1600).toInt32).toInt = 1600) rfl (fun h3 => ?_) (fun h3 => ?_)
  · refine En_Ps 1 (pc' := 16) (lv' := [(0, .ref 159), (1, .int a), (2, .int b), (3, .int c), (4, .int d), (5, .int e)]) (st' := [.ref 159]) rfl ?_
    refine En_getU (j := 6) (u := 164) (g' := 39) (q := 0) rfl rfl rfl (by decide +kernel : TG 159 = 34) (by decide +kernel) hσ0 (by decide +kernel) (by decide +kernel) (fun h4 => ?_)
    refine En_Ps 2 (pc' := 21) (lv' := [(0, .ref 159), (1, .int a), (2, .int b), (3, .int c), (4, .int d), (5, .int e)]) (st' := [.int a, .int ((Int32.ofInt 0)), .ref 164]) rfl ?_
    refine En_iast (l := (-2147483648)) (u := 2147483647) rfl (by decide : (Int32.ofInt 0).toInt = 0) (by decide +kernel : TG 164 = 39) (by decide +kernel) (by omega) (lnI (by decide +kernel : LN _ = 5) (by omega)) (FTsgl (by decide +kernel)) (fullI _) hσ0 hF0 (by decide +kernel) (fun σ6 h7 h8 h9 h10 => ?_)
    refine En_Ps 1 (pc' := 23) (lv' := [(0, .ref 159), (1, .int a), (2, .int b), (3, .int c), (4, .int d), (5, .int e)]) (st' := [.ref 159]) rfl ?_
    refine En_getK (j := 6) ((h10 _ _ (Or.inl (neTG (by decide +kernel : TG 159 = 34) (by decide +kernel : TG 164 = 39) (by decide)))).trans h4) rfl rfl rfl (by decide +kernel : TG 159 = 34) (by decide +kernel) ?_
    refine En_Ps 2 (pc' := 28) (lv' := [(0, .ref 159), (1, .int a), (2, .int b), (3, .int c), (4, .int d), (5, .int e)]) (st' := [.int b, .int ((Int32.ofInt 1)), .ref 164]) rfl ?_
    refine En_iast (l := (-2147483648)) (u := 2147483647) rfl (by decide : (Int32.ofInt 1).toInt = 1) (by decide +kernel : TG 164 = 39) (by decide +kernel) (by omega) (lnI (by decide +kernel : LN _ = 5) (by omega)) (FTsgl (by decide +kernel)) (fullI _) h7 h8 (by decide +kernel) (fun σ11 h12 h13 h14 h15 => ?_)
    refine En_Ps 1 (pc' := 30) (lv' := [(0, .ref 159), (1, .int a), (2, .int b), (3, .int c), (4, .int d), (5, .int e)]) (st' := [.ref 159]) rfl ?_
    refine En_getK (j := 6) ((h15 _ _ (Or.inl (neTG (by decide +kernel : TG 159 = 34) (by decide +kernel : TG 164 = 39) (by decide)))).trans ((h10 _ _ (Or.inl (neTG (by decide +kernel : TG 159 = 34) (by decide +kernel : TG 164 = 39) (by decide)))).trans h4)) rfl rfl rfl (by decide +kernel : TG 159 = 34) (by decide +kernel) ?_
    refine En_Ps 2 (pc' := 35) (lv' := [(0, .ref 159), (1, .int a), (2, .int b), (3, .int c), (4, .int d), (5, .int e)]) (st' := [.int c, .int ((Int32.ofInt 2)), .ref 164]) rfl ?_
    refine En_iast (l := (-2147483648)) (u := 2147483647) rfl (by decide : (Int32.ofInt 2).toInt = 2) (by decide +kernel : TG 164 = 39) (by decide +kernel) (by omega) (lnI (by decide +kernel : LN _ = 5) (by omega)) (FTsgl (by decide +kernel)) (fullI _) h12 h13 (by decide +kernel) (fun σ16 h17 h18 h19 h20 => ?_)
    refine En_Ps 1 (pc' := 37) (lv' := [(0, .ref 159), (1, .int a), (2, .int b), (3, .int c), (4, .int d), (5, .int e)]) (st' := [.ref 159]) rfl ?_
    refine En_getK (j := 6) ((h20 _ _ (Or.inl (neTG (by decide +kernel : TG 159 = 34) (by decide +kernel : TG 164 = 39) (by decide)))).trans ((h15 _ _ (Or.inl (neTG (by decide +kernel : TG 159 = 34) (by decide +kernel : TG 164 = 39) (by decide)))).trans ((h10 _ _ (Or.inl (neTG (by decide +kernel : TG 159 = 34) (by decide +kernel : TG 164 = 39) (by decide)))).trans h4))) rfl rfl rfl (by decide +kernel : TG 159 = 34) (by decide +kernel) ?_
    refine En_Ps 2 (pc' := 43) (lv' := [(0, .ref 159), (1, .int a), (2, .int b), (3, .int c), (4, .int d), (5, .int e)]) (st' := [.int d, .int ((Int32.ofInt 3)), .ref 164]) rfl ?_
    refine En_iast (l := (-2147483648)) (u := 2147483647) rfl (by decide : (Int32.ofInt 3).toInt = 3) (by decide +kernel : TG 164 = 39) (by decide +kernel) (by omega) (lnI (by decide +kernel : LN _ = 5) (by omega)) (FTsgl (by decide +kernel)) (fullI _) h17 h18 (by decide +kernel) (fun σ21 h22 h23 h24 h25 => ?_)
    refine En_Ps 1 (pc' := 45) (lv' := [(0, .ref 159), (1, .int a), (2, .int b), (3, .int c), (4, .int d), (5, .int e)]) (st' := [.ref 159]) rfl ?_
    refine En_getK (j := 6) ((h25 _ _ (Or.inl (neTG (by decide +kernel : TG 159 = 34) (by decide +kernel : TG 164 = 39) (by decide)))).trans ((h20 _ _ (Or.inl (neTG (by decide +kernel : TG 159 = 34) (by decide +kernel : TG 164 = 39) (by decide)))).trans ((h15 _ _ (Or.inl (neTG (by decide +kernel : TG 159 = 34) (by decide +kernel : TG 164 = 39) (by decide)))).trans ((h10 _ _ (Or.inl (neTG (by decide +kernel : TG 159 = 34) (by decide +kernel : TG 164 = 39) (by decide)))).trans h4)))) rfl rfl rfl (by decide +kernel : TG 159 = 34) (by decide +kernel) ?_
    refine En_Ps 2 (pc' := 51) (lv' := [(0, .ref 159), (1, .int a), (2, .int b), (3, .int c), (4, .int d), (5, .int e)]) (st' := [.int e, .int ((Int32.ofInt 4)), .ref 164]) rfl ?_
    refine En_iast (l := (-2147483648)) (u := 2147483647) rfl (by decide : (Int32.ofInt 4).toInt = 4) (by decide +kernel : TG 164 = 39) (by decide +kernel) (by omega) (lnI (by decide +kernel : LN _ = 5) (by omega)) (FTsgl (by decide +kernel)) (fullI _) h22 h23 (by decide +kernel) (fun σ26 h27 h28 h29 h30 => ?_)
    refine En_Ps 2 (pc' := 55) (lv' := [(6, .int ((Int32.ofInt 0))), (0, .ref 159), (1, .int a), (2, .int b), (3, .int c), (4, .int d), (5, .int e)]) (st' := []) rfl ?_
    have key55 : ∀ (n : Nat) (σ32 : SG) (y31 : Int32), WT σ32 → Fr [(34, 5), (38, 0), (39, 0)] σ0 σ32 → (σ32 159)[5]? = some (.int m) → (σ32 159)[6]? = some (.ref 164) → 0 ≤ y31.toInt → y31.toInt ≤ 20 → -y31.toInt + 20 < (n : Int) → En 0 0 none mr_217 (P_217 σ0 a b c d e m) 55 [(0, .ref 159), (1, .int a), (2, .int b), (3, .int c), (4, .int d), (5, .int e), (6, .int y31)] [] σ32 := by
      intro n
      induction n with
      | zero =>
        intro σ32 y31 h33 h34 h35 h36 h37 h38 h39
        exfalso; omega
      | succ n ih =>
        intro σ32 y31 h33 h34 h35 h36 h37 h38 h39
        refine En_Ps 2 (pc' := 59) (lv' := [(0, .ref 159), (1, .int a), (2, .int b), (3, .int c), (4, .int d), (5, .int e), (6, .int y31)]) (st' := [.int (((Int8.ofInt 20).toInt32)), .int y31]) rfl ?_
        refine En_icGe _ rfl (by decide : ((Int8.ofInt 20).toInt32).toInt = 20) rfl (fun h40 => ?_) (fun h40 => ?_)
        · refine En_Ps 2 (pc' := 103) (lv' := [(0, .ref 159), (1, .int a), (2, .int b), (3, .int c), (4, .int d), (5, .int e), (6, .int y31)]) (st' := [.ref 159, .ref 159]) rfl ?_
          refine En_getK (j := 5) h35 rfl rfl rfl (by decide +kernel : TG 159 = 34) (by decide +kernel) ?_
          refine En_Ps 2 (pc' := 109) (lv' := [(0, .ref 159), (1, .int a), (2, .int b), (3, .int c), (4, .int d), (5, .int e), (6, .int y31)]) (st' := [.int ((m + (((Int8.ofInt 20).toInt32)))), .ref 159]) rfl ?_
          refine En_top (addI rfl (by decide : ((Int8.ofInt 20).toInt32).toInt = 20) (by omega) (by omega)) (fun z41 h42 => ?_)
          refine En_put (j := 5) rfl rfl rfl (by decide +kernel : TG 159 = 34) (by decide +kernel) rfl (vI (l := 0) (u := 1600) (by decide +kernel) rfl (by omega) (by omega)) h33 h34 (by decide +kernel) (fun σ43 h44 h45 h46 h47 => ?_)
          refine En_Ps 1 (pc' := 113) (lv' := [(0, .ref 159), (1, .int a), (2, .int b), (3, .int c), (4, .int d), (5, .int e), (6, .int y31)]) (st' := [.ref 159]) rfl ?_
          refine En_getK (j := 5) h46 rfl rfl rfl (by decide +kernel : TG 159 = 34) (by decide +kernel) ?_
          exact En_ret (v := some (.int z41)) rfl rfl rfl ⟨h44, h45, z41, h46, z41, rfl, (by omega)⟩
        · refine En_Ps 1 (pc' := 63) (lv' := [(0, .ref 159), (1, .int a), (2, .int b), (3, .int c), (4, .int d), (5, .int e), (6, .int y31)]) (st' := [.ref 159]) rfl ?_
          refine En_getU (j := 4) (u := 163) (g' := 38) (q := 0) rfl rfl rfl (by decide +kernel : TG 159 = 34) (by decide +kernel) h33 (by decide +kernel) (by decide +kernel) (fun h48 => ?_)
          refine En_Ps 1 (pc' := 67) (lv' := [(0, .ref 159), (1, .int a), (2, .int b), (3, .int c), (4, .int d), (5, .int e), (6, .int y31)]) (st' := [.ref 159, .ref 163]) rfl ?_
          refine En_getK (j := 5) h35 rfl rfl rfl (by decide +kernel : TG 159 = 34) (by decide +kernel) ?_
          refine En_Ps 2 (pc' := 73) (lv' := [(0, .ref 159), (1, .int a), (2, .int b), (3, .int c), (4, .int d), (5, .int e), (6, .int y31)]) (st' := [.int ((m + y31)), .ref 163]) rfl ?_
          refine En_top (addI rfl rfl (by omega) (by omega)) (fun z50 h51 => ?_)
          refine En_Ps 1 (pc' := 74) (lv' := [(0, .ref 159), (1, .int a), (2, .int b), (3, .int c), (4, .int d), (5, .int e), (6, .int y31)]) (st' := [.ref 159, .int z50, .ref 163]) rfl ?_
          refine En_getK (j := 6) h36 rfl rfl rfl (by decide +kernel : TG 159 = 34) (by decide +kernel) ?_
          refine En_Ps 2 (pc' := 80) (lv' := [(0, .ref 159), (1, .int a), (2, .int b), (3, .int c), (4, .int d), (5, .int e), (6, .int y31)]) (st' := [.int ((Int32.ofInt 4)), .int y31, .ref 164, .int z50, .ref 163]) rfl ?_
          refine En_idiv (c := 4) rfl rfl (by decide : (Int32.ofInt 4).toInt = 4) (by omega) (by decide) (fun z52 h53 => ?_)
          refine En_iald (l := (-2147483648)) (u := 2147483647) rfl rfl (by decide +kernel : TG 164 = 39) (by decide +kernel) h33 (by omega) (lnI (by decide +kernel : LN _ = 5) (by omega)) (FTsgl (by decide +kernel)) (fun z55 h54 h56 h57 => ?_)
          refine En_Ps 4 (pc' := 89) (lv' := [(0, .ref 159), (1, .int a), (2, .int b), (3, .int c), (4, .int d), (5, .int e), (6, .int y31)]) (st' := [.int ((Int32.ofInt 4)), .int y31, .int (((Int8.ofInt 8).toInt32)), .int (((Int8.ofInt 24).toInt32)), .int z55, .int z50, .ref 163]) rfl ?_
          refine En_irem (c := 4) rfl rfl (by decide : (Int32.ofInt 4).toInt = 4) (by omega) (by decide) (fun z58 h59 => ?_)
          refine En_Ps 1 (pc' := 91) (lv' := [(0, .ref 159), (1, .int a), (2, .int b), (3, .int c), (4, .int d), (5, .int e), (6, .int y31)]) (st' := [.int (((((Int8.ofInt 8).toInt32)) * z58)), .int (((Int8.ofInt 24).toInt32)), .int z55, .int z50, .ref 163]) rfl ?_
          refine En_top (mulI (by decide : ((Int8.ofInt 8).toInt32).toInt = 8) rfl (Z := 8 * z58.toInt) (by omega) (by omega) (by omega)) (fun z60 h61 => ?_)
          refine En_Ps 1 (pc' := 92) (lv' := [(0, .ref 159), (1, .int a), (2, .int b), (3, .int c), (4, .int d), (5, .int e), (6, .int y31)]) (st' := [.int (((((Int8.ofInt 24).toInt32)) - z60)), .int z55, .int z50, .ref 163]) rfl ?_
          refine En_top (subI (by decide : ((Int8.ofInt 24).toInt32).toInt = 24) rfl (by omega) (by omega)) (fun z62 h63 => ?_)
          refine En_Ps 1 (pc' := 93) (lv' := [(0, .ref 159), (1, .int a), (2, .int b), (3, .int c), (4, .int d), (5, .int e), (6, .int y31)]) (st' := [.int ((z55 >>> (z62 &&& 31))), .int z50, .ref 163]) rfl ?_
          refine En_hav (fun z64 => ?_)
          refine En_Ps 1 (pc' := 94) (lv' := [(0, .ref 159), (1, .int a), (2, .int b), (3, .int c), (4, .int d), (5, .int e), (6, .int y31)]) (st' := [.int ((z64.toInt8.toInt32)), .int z50, .ref 163]) rfl ?_
          refine En_rng (l := -128) (u := 127) (i2b_rng _) (fun z65 h66 h67 => ?_)
          refine En_bast (l := (-128)) (u := 127) rfl rfl (by decide +kernel : TG 163 = 38) (by decide +kernel) (narB rfl (by omega) (by omega)) (by omega) (lnI (by decide +kernel : LN _ = 1600) (by omega)) (FTsgl (by decide +kernel)) (rngI rfl (by omega) (by omega)) h33 h34 (by decide +kernel) (fun σ68 h69 h70 h71 h72 => ?_)
          refine En_Ps 1 (pc' := 98) (lv' := [(6, .int ((y31 + Int32.ofInt 1))), (0, .ref 159), (1, .int a), (2, .int b), (3, .int c), (4, .int d), (5, .int e)]) (st' := []) rfl ?_
          refine En_lv1 (addI rfl (by decide : (Int32.ofInt 1).toInt = 1) (by omega) (by omega)) (fun z73 h74 => ?_)
          refine En_Ps 1 (pc' := 55) (lv' := [(6, .int z73), (0, .ref 159), (1, .int a), (2, .int b), (3, .int c), (4, .int d), (5, .int e)]) (st' := []) rfl ?_
          refine En_lv (lv := [(0, .ref 159), (1, .int a), (2, .int b), (3, .int c), (4, .int d), (5, .int e), (6, .int z73)]) ⟨rfl, rfl, rfl, rfl, rfl, rfl, rfl, trivial⟩ ?_
          exact ih σ68 z73 h69 h70 ((h72 _ _ (Or.inl (neTG (by decide +kernel : TG 159 = 34) (by decide +kernel : TG 163 = 38) (by decide)))).trans h35) ((h72 _ _ (Or.inl (neTG (by decide +kernel : TG 159 = 34) (by decide +kernel : TG 163 = 38) (by decide)))).trans h36) (by omega) (by omega) (by omega)
    have := (by decide : (Int32.ofInt 0).toInt = 0)
    refine En_lv (lv := [(0, .ref 159), (1, .int a), (2, .int b), (3, .int c), (4, .int d), (5, .int e), (6, .int ((Int32.ofInt 0)))]) ⟨rfl, rfl, rfl, rfl, rfl, rfl, rfl, trivial⟩ ?_
    exact key55 (Int.toNat (20) + 1) σ26 ((Int32.ofInt 0)) h27 h28 ((h30 _ _ (Or.inl (neTG (by decide +kernel : TG 159 = 34) (by decide +kernel : TG 164 = 39) (by decide)))).trans ((h25 _ _ (Or.inl (neTG (by decide +kernel : TG 159 = 34) (by decide +kernel : TG 164 = 39) (by decide)))).trans ((h20 _ _ (Or.inl (neTG (by decide +kernel : TG 159 = 34) (by decide +kernel : TG 164 = 39) (by decide)))).trans ((h15 _ _ (Or.inl (neTG (by decide +kernel : TG 159 = 34) (by decide +kernel : TG 164 = 39) (by decide)))).trans ((h10 _ _ (Or.inl (neTG (by decide +kernel : TG 159 = 34) (by decide +kernel : TG 164 = 39) (by decide)))).trans h_m))))) ((h30 _ _ (Or.inl (neTG (by decide +kernel : TG 159 = 34) (by decide +kernel : TG 164 = 39) (by decide)))).trans ((h25 _ _ (Or.inl (neTG (by decide +kernel : TG 159 = 34) (by decide +kernel : TG 164 = 39) (by decide)))).trans ((h20 _ _ (Or.inl (neTG (by decide +kernel : TG 159 = 34) (by decide +kernel : TG 164 = 39) (by decide)))).trans ((h15 _ _ (Or.inl (neTG (by decide +kernel : TG 159 = 34) (by decide +kernel : TG 164 = 39) (by decide)))).trans ((h10 _ _ (Or.inl (neTG (by decide +kernel : TG 159 = 34) (by decide +kernel : TG 164 = 39) (by decide)))).trans h4))))) (by omega) (by omega) (by omega)
  · refine En_Ps 1 (pc' := 14) (lv' := [(0, .ref 159), (1, .int a), (2, .int b), (3, .int c), (4, .int d), (5, .int e)]) (st' := [.int ((Int32.ofInt (-1)))]) rfl ?_
    refine En_top (by decide : (Int32.ofInt (-1)).toInt = -1) (fun z75 h76 => ?_)
    exact En_ret (v := some (.int z75)) rfl rfl rfl ⟨hσ0, hF0, m, h_m, z75, rfl, (by omega)⟩
/-- DoorSchool.isSlot(I)Z -/
abbrev P_138 (σ0 : SG) (x : Int32) : PO := fun v σ => WT σ ∧ Fr [] σ0 σ ∧ ∃ ret : Int32, v = some (.int ret) ∧ -ret.toInt ≤ 0 ∧ ret.toInt - 1 ≤ 0 ∧ (ret.toInt - 1 ≤ 0 ∧ -ret.toInt + 1 ≤ 0 → -x.toInt ≤ 0 ∧ x.toInt - 3 ≤ 0) ∧ (-x.toInt ≤ 0 ∧ x.toInt - 3 ≤ 0 → ret.toInt - 1 ≤ 0 ∧ -ret.toInt + 1 ≤ 0)
set_option maxRecDepth 10000 in
set_option maxHeartbeats 4000000 in
theorem c_138 (σ0 : SG) (hσ0 : WT σ0) (x : Int32) : En 0 0 none mr_138 (P_138 σ0 x) 0 [(0, .int x)] [] σ0 := by
  have hF0 : Fr [] σ0 σ0 := Fr_rfl
  refine En_Ps 1 (pc' := 1) (lv' := [(0, .int x)]) (st' := [.int x]) rfl ?_
  refine En_iLt _ rfl rfl (fun h1 => ?_) (fun h1 => ?_)
  · refine En_Ps 1 (pc' := 14) (lv' := [(0, .int x)]) (st' := [.int ((Int32.ofInt 0))]) rfl ?_
    refine En_top (by decide : (Int32.ofInt 0).toInt = 0) (fun z2 h3 => ?_)
    exact En_ret (v := some (.int z2)) rfl rfl (retZ rfl rfl (by omega) (by omega)) ⟨hσ0, hF0, z2, rfl, (by omega)⟩
  · refine En_Ps 2 (pc' := 6) (lv' := [(0, .int x)]) (st' := [.int ((Int32.ofInt 4)), .int x]) rfl ?_
    refine En_icGe _ rfl (by decide : (Int32.ofInt 4).toInt = 4) rfl (fun h4 => ?_) (fun h4 => ?_)
    · refine En_Ps 1 (pc' := 14) (lv' := [(0, .int x)]) (st' := [.int ((Int32.ofInt 0))]) rfl ?_
      refine En_top (by decide : (Int32.ofInt 0).toInt = 0) (fun z5 h6 => ?_)
      exact En_ret (v := some (.int z5)) rfl rfl (retZ rfl rfl (by omega) (by omega)) ⟨hσ0, hF0, z5, rfl, (by omega)⟩
    · refine En_Ps 2 (pc' := 14) (lv' := [(0, .int x)]) (st' := [.int ((Int32.ofInt 1))]) rfl ?_
      refine En_top (by decide : (Int32.ofInt 1).toInt = 1) (fun z7 h8 => ?_)
      exact En_ret (v := some (.int z7)) rfl rfl (retZ rfl rfl (by omega) (by omega)) ⟨hσ0, hF0, z7, rfl, (by omega)⟩
/-- DoorSchool$Slot.begin(II)V -/
abbrev P_75 (σ0 : SG) (a : Nat) (w : Int32) (n : Int32) : PO := fun v σ => WT σ ∧ Fr [(32, 1), (32, 2), (32, 3), (33, 0)] σ0 σ ∧ v = none ∧ True
set_option maxRecDepth 10000 in
set_option maxHeartbeats 4000000 in
theorem c_75 (σ0 : SG) (hσ0 : WT σ0) (a : Nat) (ha : TG a = 32) (w : Int32) (n : Int32) (hl_w : 0 ≤ w.toInt) (hu_w : w.toInt ≤ 3) (hl_n : 0 ≤ n.toInt) (hu_n : n.toInt ≤ 60) : En 1 24 none mr_75 (P_75 σ0 a w n) 0 [(0, .ref a), (1, .int w), (2, .int n)] [] σ0 := by
  have hF0 : Fr [(32, 1), (32, 2), (32, 3), (33, 0)] σ0 σ0 := Fr_rfl
  refine En_Ps 2 (pc' := 2) (lv' := [(0, .ref a), (1, .int w), (2, .int n)]) (st' := [.int ((Int32.ofInt 1)), .ref a]) rfl ?_
  refine En_put (j := 1) rfl rfl rfl ha (by decide +kernel) (okZ (by decide : (Int32.ofInt 1).toInt = 1) (by omega) (by omega)) (vI (l := 0) (u := 1) (by decide +kernel) (by decide : (Int32.ofInt 1).toInt = 1) (by omega) (by omega)) hσ0 hF0 (by decide +kernel) (fun σ1 h2 h3 h4 h5 => ?_)
  refine En_Ps 2 (pc' := 7) (lv' := [(0, .ref a), (1, .int w), (2, .int n)]) (st' := [.int w, .ref a]) rfl ?_
  refine En_put (j := 2) rfl rfl rfl ha (by decide +kernel) rfl (vI (l := 0) (u := 3) (by decide +kernel) rfl (by omega) (by omega)) h2 h3 (by decide +kernel) (fun σ6 h7 h8 h9 h10 => ?_)
  refine En_Ps 2 (pc' := 12) (lv' := [(0, .ref a), (1, .int w), (2, .int n)]) (st' := [.int n, .ref a]) rfl ?_
  refine En_put (j := 3) rfl rfl rfl ha (by decide +kernel) rfl (vI (l := 0) (u := 60) (by decide +kernel) rfl (by omega) (by omega)) h7 h8 (by decide +kernel) (fun σ11 h12 h13 h14 h15 => ?_)
  refine En_Ps 1 (pc' := 16) (lv' := [(0, .ref a), (1, .int w), (2, .int n)]) (st' := [.ref a]) rfl ?_
  refine En_getR (j := 0) (g' := 33) (u := 0) rfl rfl rfl ha (by decide +kernel) h12 (by decide +kernel) (fun a17 h16 ha17 => ?_)
  refine En_Ps 1 (pc' := 20) (lv' := [(0, .ref a), (1, .int w), (2, .int n)]) (st' := [.long ((Int64.ofNat 0)), .ref a17]) rfl ?_
  have := (by decide : ((Int64.ofNat 0)).toInt = 0)
  refine En_callS rfl rfl rfl rfl rfl rfl rfl rfl rfl (c_2 σ11 h12 a17 ha17 ((Int64.ofNat 0))) (by decide) (by decide) (fun v19 σ20 h18 => ?_)
  obtain ⟨h21, h22, rfl, h23⟩ := h18
  have h24 := Fr_trans h13 h22 (by decide +kernel)
  exact En_ret (v := none) rfl rfl rfl ⟨h21, h24, rfl, trivial⟩
/-- DoorSchool.row(III)I -/
abbrev P_156 (σ0 : SG) (a : Int32) (b : Int32) (c : Int32) : PO := fun v σ => WT σ ∧ Fr [(32, 1), (32, 2), (32, 3), (33, 0)] σ0 σ ∧ ∃ ret : Int32, v = some (.int ret) ∧ -ret.toInt - 3 ≤ 0 ∧ ret.toInt ≤ 0 ∧ (a.toInt + 1 ≤ 0 → ret.toInt + 2 ≤ 0 ∧ -ret.toInt - 2 ≤ 0) ∧ (-a.toInt + 4 ≤ 0 → ret.toInt + 2 ≤ 0 ∧ -ret.toInt - 2 ≤ 0) ∧ (b.toInt + 1 ≤ 0 → ret.toInt + 2 ≤ 0 ∧ -ret.toInt - 2 ≤ 0) ∧ (-b.toInt + 4 ≤ 0 → ret.toInt + 2 ≤ 0 ∧ -ret.toInt - 2 ≤ 0) ∧ (-c.toInt + 61 ≤ 0 → ret.toInt + 2 ≤ 0 ∧ -ret.toInt - 2 ≤ 0) ∧ (-a.toInt ≤ 0 ∧ a.toInt - 3 ≤ 0 ∧ -b.toInt ≤ 0 ∧ b.toInt - 3 ≤ 0 ∧ c.toInt + 1 ≤ 0 → ret.toInt + 3 ≤ 0 ∧ -ret.toInt - 3 ≤ 0) ∧ (-a.toInt ≤ 0 ∧ a.toInt - 3 ≤ 0 ∧ -b.toInt ≤ 0 ∧ b.toInt - 3 ≤ 0 ∧ -c.toInt ≤ 0 ∧ c.toInt - 60 ≤ 0 → ret.toInt ≤ 0 ∧ -ret.toInt ≤ 0)
set_option maxRecDepth 10000 in
set_option maxHeartbeats 4000000 in
theorem c_156 (σ0 : SG) (hσ0 : WT σ0) (a : Int32) (b : Int32) (c : Int32) : En 2 46 none mr_156 (P_156 σ0 a b c) 0 [(0, .ref 0), (1, .int a), (2, .int b), (3, .int c)] [] σ0 := by
  have hF0 : Fr [(32, 1), (32, 2), (32, 3), (33, 0)] σ0 σ0 := Fr_rfl
  refine En_Ps 1 (pc' := 1) (lv' := [(0, .ref 0), (1, .int a), (2, .int b), (3, .int c)]) (st' := [.int a]) rfl ?_
  refine En_callS rfl rfl rfl rfl rfl rfl rfl rfl rfl (c_138 σ0 hσ0 a) (by decide) (by decide) (fun v2 σ3 h1 => ?_)
  obtain ⟨h4, h5, z7, rfl, h6⟩ := h1
  have h8 := Fr_trans hF0 h5 (by decide +kernel)
  refine En_iEq _ rfl rfl (fun h9 => ?_) (fun h9 => ?_)
  · refine En_Ps 1 (pc' := 24) (lv' := [(0, .ref 0), (1, .int a), (2, .int b), (3, .int c)]) (st' := [.int (((Int8.ofInt (-2)).toInt32))]) rfl ?_
    refine En_top (by decide : ((Int8.ofInt (-2)).toInt32).toInt = -2) (fun z10 h11 => ?_)
    exact En_ret (v := some (.int z10)) rfl rfl rfl ⟨h4, h8, z10, rfl, (by omega)⟩
  · refine En_Ps 1 (pc' := 8) (lv' := [(0, .ref 0), (1, .int a), (2, .int b), (3, .int c)]) (st' := [.int b]) rfl ?_
    refine En_iLt _ rfl rfl (fun h12 => ?_) (fun h12 => ?_)
    · refine En_Ps 1 (pc' := 24) (lv' := [(0, .ref 0), (1, .int a), (2, .int b), (3, .int c)]) (st' := [.int (((Int8.ofInt (-2)).toInt32))]) rfl ?_
      refine En_top (by decide : ((Int8.ofInt (-2)).toInt32).toInt = -2) (fun z13 h14 => ?_)
      exact En_ret (v := some (.int z13)) rfl rfl rfl ⟨h4, h8, z13, rfl, (by omega)⟩
    · refine En_Ps 2 (pc' := 13) (lv' := [(0, .ref 0), (1, .int a), (2, .int b), (3, .int c)]) (st' := [.int ((Int32.ofInt 4)), .int b]) rfl ?_
      refine En_icGe _ rfl (by decide : (Int32.ofInt 4).toInt = 4) rfl (fun h15 => ?_) (fun h15 => ?_)
      · refine En_Ps 1 (pc' := 24) (lv' := [(0, .ref 0), (1, .int a), (2, .int b), (3, .int c)]) (st' := [.int (((Int8.ofInt (-2)).toInt32))]) rfl ?_
        refine En_top (by decide : ((Int8.ofInt (-2)).toInt32).toInt = -2) (fun z16 h17 => ?_)
        exact En_ret (v := some (.int z16)) rfl rfl rfl ⟨h4, h8, z16, rfl, (by omega)⟩
      · refine En_Ps 2 (pc' := 19) (lv' := [(0, .ref 0), (1, .int a), (2, .int b), (3, .int c)]) (st' := [.int (((Int8.ofInt 60).toInt32)), .int c]) rfl ?_
        refine En_icLe _ rfl (by decide : ((Int8.ofInt 60).toInt32).toInt = 60) rfl (fun h18 => ?_) (fun h18 => ?_)
        · refine En_Ps 1 (pc' := 26) (lv' := [(0, .ref 0), (1, .int a), (2, .int b), (3, .int c)]) (st' := [.int c]) rfl ?_
          refine En_iGe _ rfl rfl (fun h19 => ?_) (fun h19 => ?_)
          · refine En_Ps 1 (pc' := 33) (lv' := [(0, .ref 0), (1, .int a), (2, .int b), (3, .int c)]) (st' := [.ref 0]) rfl ?_
            refine En_getU (j := 6) (u := 150) (g' := 31) (q := 0) rfl rfl rfl (by decide +kernel : TG 0 = 0) (by decide +kernel) h4 (by decide +kernel) (by decide +kernel) (fun h20 => ?_)
            refine En_Ps 1 (pc' := 37) (lv' := [(0, .ref 0), (1, .int a), (2, .int b), (3, .int c)]) (st' := [.int a, .ref 150]) rfl ?_
            refine En_aald (g' := 32) (u := 0) rfl rfl (by decide +kernel : TG 150 = 31) (by decide +kernel) h4 (by omega) (lnI (by decide +kernel : LN _ = 4) (by omega)) (FTsgl (by decide +kernel)) (fun a23 h22 ha23 => ?_)
            refine En_Ps 2 (pc' := 40) (lv' := [(0, .ref 0), (1, .int a), (2, .int b), (3, .int c)]) (st' := [.int c, .int b, .ref a23]) rfl ?_
            refine En_callV rfl rfl rfl rfl rfl rfl rfl rfl ha23 (by decide +kernel) rfl (c_75 σ3 h4 a23 ha23 b c (geI rfl (by omega)) (leI rfl (by omega)) (geI rfl (by omega)) (leI rfl (by omega))) (by decide) (by decide) (fun v25 σ26 h24 => ?_)
            obtain ⟨h27, h28, rfl, h29⟩ := h24
            have h30 := Fr_trans h8 h28 (by decide +kernel)
            refine En_Ps 1 (pc' := 44) (lv' := [(0, .ref 0), (1, .int a), (2, .int b), (3, .int c)]) (st' := [.int ((Int32.ofInt 0))]) rfl ?_
            refine En_top (by decide : (Int32.ofInt 0).toInt = 0) (fun z31 h32 => ?_)
            exact En_ret (v := some (.int z31)) rfl rfl rfl ⟨h27, h30, z31, rfl, (by omega)⟩
          · refine En_Ps 1 (pc' := 31) (lv' := [(0, .ref 0), (1, .int a), (2, .int b), (3, .int c)]) (st' := [.int (((Int8.ofInt (-3)).toInt32))]) rfl ?_
            refine En_top (by decide : ((Int8.ofInt (-3)).toInt32).toInt = -3) (fun z33 h34 => ?_)
            exact En_ret (v := some (.int z33)) rfl rfl rfl ⟨h4, h8, z33, rfl, (by omega)⟩
        · refine En_Ps 1 (pc' := 24) (lv' := [(0, .ref 0), (1, .int a), (2, .int b), (3, .int c)]) (st' := [.int (((Int8.ofInt (-2)).toInt32))]) rfl ?_
          refine En_top (by decide : ((Int8.ofInt (-2)).toInt32).toInt = -2) (fun z35 h36 => ?_)
          exact En_ret (v := some (.int z35)) rfl rfl rfl ⟨h4, h8, z35, rfl, (by omega)⟩
/-- DoorSchoolModel.in(JJJ)Z -/
abbrev P_240 (σ0 : SG) (x : Int64) (y : Int64) (w : Int64) : PO := fun v σ => WT σ ∧ Fr [] σ0 σ ∧ ∃ ret : Int32, v = some (.int ret) ∧ -ret.toInt ≤ 0 ∧ ret.toInt - 1 ≤ 0 ∧ (-ret.toInt + 1 ≤ 0 → y.toInt - x.toInt ≤ 0 ∧ x.toInt - w.toInt ≤ 0) ∧ (y.toInt - x.toInt ≤ 0 ∧ x.toInt - w.toInt ≤ 0 → -ret.toInt + 1 ≤ 0)
set_option maxRecDepth 10000 in
set_option maxHeartbeats 4000000 in
theorem c_240 (σ0 : SG) (hσ0 : WT σ0) (x : Int64) (y : Int64) (w : Int64) : En 0 0 none mr_240 (P_240 σ0 x y w) 0 [(0, .long x), (2, .long y), (4, .long w)] [] σ0 := by
  have hF0 : Fr [] σ0 σ0 := Fr_rfl
  refine En_Ps 3 (pc' := 3) (lv' := [(0, .long x), (2, .long y), (4, .long w)]) (st' := [.int (lg_cmp x y)]) rfl ?_
  refine En_lgLt _ rfl rfl rfl (fun h1 => ?_) (fun h1 => ?_)
  · refine En_Ps 1 (pc' := 18) (lv' := [(0, .long x), (2, .long y), (4, .long w)]) (st' := [.int ((Int32.ofInt 0))]) rfl ?_
    refine En_top (by decide : (Int32.ofInt 0).toInt = 0) (fun z2 h3 => ?_)
    exact En_ret (v := some (.int z2)) rfl rfl (retZ rfl rfl (by omega) (by omega)) ⟨hσ0, hF0, z2, rfl, (by omega)⟩
  · refine En_Ps 3 (pc' := 10) (lv' := [(0, .long x), (2, .long y), (4, .long w)]) (st' := [.int (lg_cmp x w)]) rfl ?_
    refine En_lgGt _ rfl rfl rfl (fun h4 => ?_) (fun h4 => ?_)
    · refine En_Ps 1 (pc' := 18) (lv' := [(0, .long x), (2, .long y), (4, .long w)]) (st' := [.int ((Int32.ofInt 0))]) rfl ?_
      refine En_top (by decide : (Int32.ofInt 0).toInt = 0) (fun z5 h6 => ?_)
      exact En_ret (v := some (.int z5)) rfl rfl (retZ rfl rfl (by omega) (by omega)) ⟨hσ0, hF0, z5, rfl, (by omega)⟩
    · refine En_Ps 2 (pc' := 18) (lv' := [(0, .long x), (2, .long y), (4, .long w)]) (st' := [.int ((Int32.ofInt 1))]) rfl ?_
      refine En_top (by decide : (Int32.ofInt 1).toInt = 1) (fun z7 h8 => ?_)
      exact En_ret (v := some (.int z7)) rfl rfl (retZ rfl rfl (by omega) (by omega)) ⟨hσ0, hF0, z7, rfl, (by omega)⟩
/-- DoorSchoolModel.isSlot(I)Z -/
abbrev P_257 (σ0 : SG) (x : Int32) : PO := fun v σ => WT σ ∧ Fr [] σ0 σ ∧ ∃ ret : Int32, v = some (.int ret) ∧ -ret.toInt ≤ 0 ∧ ret.toInt - 1 ≤ 0 ∧ (ret.toInt - 1 ≤ 0 ∧ -ret.toInt + 1 ≤ 0 → -x.toInt ≤ 0 ∧ x.toInt - 3 ≤ 0) ∧ (-x.toInt ≤ 0 ∧ x.toInt - 3 ≤ 0 → ret.toInt - 1 ≤ 0 ∧ -ret.toInt + 1 ≤ 0)
set_option maxRecDepth 10000 in
set_option maxHeartbeats 4000000 in
theorem c_257 (σ0 : SG) (hσ0 : WT σ0) (x : Int32) : En 1 25 none mr_257 (P_257 σ0 x) 0 [(0, .int x)] [] σ0 := by
  have hF0 : Fr [] σ0 σ0 := Fr_rfl
  refine En_Ps 4 (pc' := 6) (lv' := [(0, .int x)]) (st' := [.long ((3 : Int64)), .long ((Int64.ofNat 0)), .long x.toInt64]) rfl ?_
  have : x.toInt64.toInt = x.toInt := (i2lI rfl)
  have := (by decide : ((Int64.ofNat 0)).toInt = 0)
  have := (by decide : ((3 : Int64)).toInt = 3)
  refine En_callS rfl rfl rfl rfl rfl rfl rfl rfl rfl (c_240 σ0 hσ0 x.toInt64 ((Int64.ofNat 0)) ((3 : Int64))) (by decide) (by decide) (fun v2 σ3 h1 => ?_)
  obtain ⟨h4, h5, z7, rfl, h6⟩ := h1
  have h8 := Fr_trans hF0 h5 (by decide +kernel)
  exact En_ret (v := some (.int z7)) rfl rfl (retZ rfl rfl (by omega) (by omega)) ⟨h4, h8, z7, rfl, (by omega)⟩
/-- DoorSchoolModel.row(III)I -/
abbrev P_299 (σ0 : SG) (a : Int32) (b : Int32) (c : Int32) : PO := fun v σ => WT σ ∧ Fr [(52, 0), (53, 0), (54, 0)] σ0 σ ∧ ∃ ret : Int32, v = some (.int ret) ∧ -ret.toInt - 3 ≤ 0 ∧ ret.toInt ≤ 0 ∧ (a.toInt + 1 ≤ 0 → ret.toInt + 2 ≤ 0 ∧ -ret.toInt - 2 ≤ 0) ∧ (-a.toInt + 4 ≤ 0 → ret.toInt + 2 ≤ 0 ∧ -ret.toInt - 2 ≤ 0) ∧ (b.toInt + 1 ≤ 0 → ret.toInt + 2 ≤ 0 ∧ -ret.toInt - 2 ≤ 0) ∧ (-b.toInt + 4 ≤ 0 → ret.toInt + 2 ≤ 0 ∧ -ret.toInt - 2 ≤ 0) ∧ (-c.toInt + 61 ≤ 0 → ret.toInt + 2 ≤ 0 ∧ -ret.toInt - 2 ≤ 0) ∧ (-a.toInt ≤ 0 ∧ a.toInt - 3 ≤ 0 ∧ -b.toInt ≤ 0 ∧ b.toInt - 3 ≤ 0 ∧ c.toInt + 1 ≤ 0 → ret.toInt + 3 ≤ 0 ∧ -ret.toInt - 3 ≤ 0) ∧ (-a.toInt ≤ 0 ∧ a.toInt - 3 ≤ 0 ∧ -b.toInt ≤ 0 ∧ b.toInt - 3 ≤ 0 ∧ -c.toInt ≤ 0 ∧ c.toInt - 60 ≤ 0 → ret.toInt ≤ 0 ∧ -ret.toInt ≤ 0)
set_option maxRecDepth 10000 in
set_option maxHeartbeats 4000000 in
theorem c_299 (σ0 : SG) (hσ0 : WT σ0) (a : Int32) (b : Int32) (c : Int32) : En 2 45 none mr_299 (P_299 σ0 a b c) 0 [(0, .ref 159), (1, .int a), (2, .int b), (3, .int c)] [] σ0 := by
  have hF0 : Fr [(52, 0), (53, 0), (54, 0)] σ0 σ0 := Fr_rfl
  refine En_Ps 1 (pc' := 1) (lv' := [(0, .ref 159), (1, .int a), (2, .int b), (3, .int c)]) (st' := [.int a]) rfl ?_
  refine En_callS rfl rfl rfl rfl rfl rfl rfl rfl rfl (c_257 σ0 hσ0 a) (by decide) (by decide) (fun v2 σ3 h1 => ?_)
  obtain ⟨h4, h5, z7, rfl, h6⟩ := h1
  have h8 := Fr_trans hF0 h5 (by decide +kernel)
  refine En_iEq _ rfl rfl (fun h9 => ?_) (fun h9 => ?_)
  · refine En_Ps 1 (pc' := 27) (lv' := [(0, .ref 159), (1, .int a), (2, .int b), (3, .int c)]) (st' := [.int (((Int8.ofInt (-2)).toInt32))]) rfl ?_
    refine En_top (by decide : ((Int8.ofInt (-2)).toInt32).toInt = -2) (fun z10 h11 => ?_)
    exact En_ret (v := some (.int z10)) rfl rfl rfl ⟨h4, h8, z10, rfl, (by omega)⟩
  · refine En_Ps 4 (pc' := 13) (lv' := [(0, .ref 159), (1, .int a), (2, .int b), (3, .int c)]) (st' := [.long ((3 : Int64)), .long ((Int64.ofNat 0)), .long b.toInt64]) rfl ?_
    have : b.toInt64.toInt = b.toInt := (i2lI rfl)
    have := (by decide : ((Int64.ofNat 0)).toInt = 0)
    have := (by decide : ((3 : Int64)).toInt = 3)
    refine En_callS rfl rfl rfl rfl rfl rfl rfl rfl rfl (c_240 σ3 h4 b.toInt64 ((Int64.ofNat 0)) ((3 : Int64))) (by decide) (by decide) (fun v13 σ14 h12 => ?_)
    obtain ⟨h15, h16, z18, rfl, h17⟩ := h12
    have h19 := Fr_trans h8 h16 (by decide +kernel)
    refine En_iEq _ rfl rfl (fun h20 => ?_) (fun h20 => ?_)
    · refine En_Ps 1 (pc' := 27) (lv' := [(0, .ref 159), (1, .int a), (2, .int b), (3, .int c)]) (st' := [.int (((Int8.ofInt (-2)).toInt32))]) rfl ?_
      refine En_top (by decide : ((Int8.ofInt (-2)).toInt32).toInt = -2) (fun z21 h22 => ?_)
      exact En_ret (v := some (.int z21)) rfl rfl rfl ⟨h15, h19, z21, rfl, (by omega)⟩
    · refine En_Ps 2 (pc' := 22) (lv' := [(0, .ref 159), (1, .int a), (2, .int b), (3, .int c)]) (st' := [.int (((Int8.ofInt 60).toInt32)), .int c]) rfl ?_
      refine En_icLe _ rfl (by decide : ((Int8.ofInt 60).toInt32).toInt = 60) rfl (fun h23 => ?_) (fun h23 => ?_)
      · refine En_Ps 1 (pc' := 29) (lv' := [(0, .ref 159), (1, .int a), (2, .int b), (3, .int c)]) (st' := [.int c]) rfl ?_
        refine En_iGe _ rfl rfl (fun h24 => ?_) (fun h24 => ?_)
        · refine En_Ps 1 (pc' := 36) (lv' := [(0, .ref 159), (1, .int a), (2, .int b), (3, .int c)]) (st' := [.ref 159]) rfl ?_
          refine En_getU (j := 32) (u := 177) (g' := 52) (q := 0) rfl rfl rfl (by decide +kernel : TG 159 = 34) (by decide +kernel) h15 (by decide +kernel) (by decide +kernel) (fun h25 => ?_)
          refine En_Ps 2 (pc' := 41) (lv' := [(0, .ref 159), (1, .int a), (2, .int b), (3, .int c)]) (st' := [.int c, .int a, .ref 177]) rfl ?_
          refine En_iast (l := (-1)) (u := 60) rfl rfl (by decide +kernel : TG 177 = 52) (by decide +kernel) (by omega) (lnI (by decide +kernel : LN _ = 4) (by omega)) (FTsgl (by decide +kernel)) (rngI rfl (by omega) (by omega)) h15 h19 (by decide +kernel) (fun σ27 h28 h29 h30 h31 => ?_)
          refine En_Ps 1 (pc' := 43) (lv' := [(0, .ref 159), (1, .int a), (2, .int b), (3, .int c)]) (st' := [.ref 159]) rfl ?_
          refine En_getU (j := 33) (u := 178) (g' := 53) (q := 0) rfl rfl rfl (by decide +kernel : TG 159 = 34) (by decide +kernel) h28 (by decide +kernel) (by decide +kernel) (fun h32 => ?_)
          refine En_Ps 2 (pc' := 48) (lv' := [(0, .ref 159), (1, .int a), (2, .int b), (3, .int c)]) (st' := [.int b, .int a, .ref 178]) rfl ?_
          refine En_iast (l := 0) (u := 3) rfl rfl (by decide +kernel : TG 178 = 53) (by decide +kernel) (by omega) (lnI (by decide +kernel : LN _ = 4) (by omega)) (FTsgl (by decide +kernel)) (rngI rfl (by omega) (by omega)) h28 h29 (by decide +kernel) (fun σ34 h35 h36 h37 h38 => ?_)
          refine En_Ps 2 (pc' := 52) (lv' := [(4, .int ((Int32.ofInt 0))), (0, .ref 159), (1, .int a), (2, .int b), (3, .int c)]) (st' := []) rfl ?_
          have key52 : ∀ (n : Nat) (σ40 : SG) (y39 : Int32), WT σ40 → Fr [(52, 0), (53, 0), (54, 0)] σ0 σ40 → (σ40 159)[32]? = some (.ref 177) → (σ40 159)[33]? = some (.ref 178) → 0 ≤ y39.toInt → y39.toInt ≤ 60 → -y39.toInt + 60 < (n : Int) → En 2 45 none mr_299 (P_299 σ0 a b c) 52 [(0, .ref 159), (1, .int a), (2, .int b), (3, .int c), (4, .int y39)] [] σ40 := by
            intro n
            induction n with
            | zero =>
              intro σ40 y39 h41 h42 h43 h44 h45 h46 h47
              exfalso; omega
            | succ n ih =>
              intro σ40 y39 h41 h42 h43 h44 h45 h46 h47
              refine En_Ps 2 (pc' := 56) (lv' := [(0, .ref 159), (1, .int a), (2, .int b), (3, .int c), (4, .int y39)]) (st' := [.int (((Int8.ofInt 60).toInt32)), .int y39]) rfl ?_
              refine En_icGe _ rfl (by decide : ((Int8.ofInt 60).toInt32).toInt = 60) rfl (fun h48 => ?_) (fun h48 => ?_)
              · refine En_Ps 1 (pc' := 79) (lv' := [(0, .ref 159), (1, .int a), (2, .int b), (3, .int c), (4, .int y39)]) (st' := [.int ((Int32.ofInt 0))]) rfl ?_
                refine En_top (by decide : (Int32.ofInt 0).toInt = 0) (fun z49 h50 => ?_)
                exact En_ret (v := some (.int z49)) rfl rfl rfl ⟨h41, h42, z49, rfl, (by omega)⟩
              · refine En_Ps 1 (pc' := 60) (lv' := [(0, .ref 159), (1, .int a), (2, .int b), (3, .int c), (4, .int y39)]) (st' := [.ref 159]) rfl ?_
                refine En_getU (j := 34) (u := 179) (g' := 54) (q := 0) rfl rfl rfl (by decide +kernel : TG 159 = 34) (by decide +kernel) h41 (by decide +kernel) (by decide +kernel) (fun h51 => ?_)
                refine En_Ps 3 (pc' := 67) (lv' := [(0, .ref 159), (1, .int a), (2, .int b), (3, .int c), (4, .int y39)]) (st' := [.int (((((Int8.ofInt 60).toInt32)) * a)), .ref 179]) rfl ?_
                refine En_top (mulI (by decide : ((Int8.ofInt 60).toInt32).toInt = 60) rfl (Z := 60 * a.toInt) (by omega) (by omega) (by omega)) (fun z53 h54 => ?_)
                refine En_Ps 2 (pc' := 70) (lv' := [(0, .ref 159), (1, .int a), (2, .int b), (3, .int c), (4, .int y39)]) (st' := [.int ((z53 + y39)), .ref 179]) rfl ?_
                refine En_top (addI rfl rfl (by omega) (by omega)) (fun z55 h56 => ?_)
                refine En_Ps 1 (pc' := 71) (lv' := [(0, .ref 159), (1, .int a), (2, .int b), (3, .int c), (4, .int y39)]) (st' := [.long ((Int64.ofNat 0)), .int z55, .ref 179]) rfl ?_
                refine En_last (l := (-9223372036854775808)) (u := 9223372036854775807) rfl rfl (by decide +kernel : TG 179 = 54) (by decide +kernel) (by omega) (lnI (by decide +kernel : LN _ = 240) (by omega)) (FTsgl (by decide +kernel)) (fullL _) h41 h42 (by decide +kernel) (fun σ57 h58 h59 h60 h61 => ?_)
                refine En_Ps 1 (pc' := 75) (lv' := [(4, .int ((y39 + Int32.ofInt 1))), (0, .ref 159), (1, .int a), (2, .int b), (3, .int c)]) (st' := []) rfl ?_
                refine En_lv1 (addI rfl (by decide : (Int32.ofInt 1).toInt = 1) (by omega) (by omega)) (fun z62 h63 => ?_)
                refine En_Ps 1 (pc' := 52) (lv' := [(4, .int z62), (0, .ref 159), (1, .int a), (2, .int b), (3, .int c)]) (st' := []) rfl ?_
                refine En_lv (lv := [(0, .ref 159), (1, .int a), (2, .int b), (3, .int c), (4, .int z62)]) ⟨rfl, rfl, rfl, rfl, rfl, trivial⟩ ?_
                exact ih σ57 z62 h58 h59 ((h61 _ _ (Or.inl (neTG (by decide +kernel : TG 159 = 34) (by decide +kernel : TG 179 = 54) (by decide)))).trans h43) ((h61 _ _ (Or.inl (neTG (by decide +kernel : TG 159 = 34) (by decide +kernel : TG 179 = 54) (by decide)))).trans h44) (by omega) (by omega) (by omega)
          have := (by decide : (Int32.ofInt 0).toInt = 0)
          refine En_lv (lv := [(0, .ref 159), (1, .int a), (2, .int b), (3, .int c), (4, .int ((Int32.ofInt 0)))]) ⟨rfl, rfl, rfl, rfl, rfl, trivial⟩ ?_
          exact key52 (Int.toNat (60) + 1) σ34 ((Int32.ofInt 0)) h35 h36 ((h38 _ _ (Or.inl (neTG (by decide +kernel : TG 159 = 34) (by decide +kernel : TG 178 = 53) (by decide)))).trans ((h31 _ _ (Or.inl (neTG (by decide +kernel : TG 159 = 34) (by decide +kernel : TG 177 = 52) (by decide)))).trans h25)) ((h38 _ _ (Or.inl (neTG (by decide +kernel : TG 159 = 34) (by decide +kernel : TG 178 = 53) (by decide)))).trans h32) (by omega) (by omega) (by omega)
        · refine En_Ps 1 (pc' := 34) (lv' := [(0, .ref 159), (1, .int a), (2, .int b), (3, .int c)]) (st' := [.int (((Int8.ofInt (-3)).toInt32))]) rfl ?_
          refine En_top (by decide : ((Int8.ofInt (-3)).toInt32).toInt = -3) (fun z64 h65 => ?_)
          exact En_ret (v := some (.int z64)) rfl rfl rfl ⟨h15, h19, z64, rfl, (by omega)⟩
      · refine En_Ps 1 (pc' := 27) (lv' := [(0, .ref 159), (1, .int a), (2, .int b), (3, .int c)]) (st' := [.int (((Int8.ofInt (-2)).toInt32))]) rfl ?_
        refine En_top (by decide : ((Int8.ofInt (-2)).toInt32).toInt = -2) (fun z66 h67 => ?_)
        exact En_ret (v := some (.int z66)) rfl rfl rfl ⟨h15, h19, z66, rfl, (by omega)⟩
