/-- DoorSchoolModel.takesOf(I)I -/
abbrev P_319 (σ0 : SG) (a : Int32) : PO := fun v σ => WT σ ∧ Fr [] σ0 σ ∧ ∃ ret : Int32, v = some (.int ret) ∧ -ret.toInt ≤ 0 ∧ ret.toInt - 9 ≤ 0
set_option maxRecDepth 10000 in
set_option maxHeartbeats 4000000 in
theorem c_319 (σ0 : SG) (hσ0 : WT σ0) (a : Int32) (hl_a : 0 ≤ a.toInt) (hu_a : a.toInt ≤ 5) : En 0 0 none mr_319 (P_319 σ0 a) 0 [(0, .ref 159), (1, .int a)] [] σ0 := by
  have hF0 : Fr [] σ0 σ0 := Fr_rfl
  refine En_Ps 1 (pc' := 1) (lv' := [(0, .ref 159), (1, .int a)]) (st' := [.ref 159]) rfl ?_
  refine En_getU (j := 1) (u := 160) (g' := 36) (q := 0) rfl rfl rfl (by decide +kernel : TG 159 = 35) (by decide +kernel) hσ0 (by decide +kernel) (by decide +kernel) (fun h1 => ?_)
  refine En_Ps 4 (pc' := 10) (lv' := [(0, .ref 159), (1, .int a)]) (st' := [.int ((((Int32.ofInt 2)) * a)), .int (((Int16.ofInt 154).toInt32)), .ref 160]) rfl ?_
  refine En_top (mulI (by decide : (Int32.ofInt 2).toInt = 2) rfl (Z := 2 * a.toInt) (by omega) (by omega) (by omega)) (fun z3 h4 => ?_)
  refine En_Ps 1 (pc' := 11) (lv' := [(0, .ref 159), (1, .int a)]) (st' := [.int (((((Int16.ofInt 154).toInt32)) + z3)), .ref 160]) rfl ?_
  refine En_top (addI (by decide : ((Int16.ofInt 154).toInt32).toInt = 154) rfl (by omega) (by omega)) (fun z5 h6 => ?_)
  refine En_iald (l := 0) (u := 9) rfl rfl (by decide +kernel : TG 160 = 36) (by decide +kernel) hσ0 (by omega) (lnI (by decide +kernel : LN _ = 226) (by omega)) (FTrow 36 154 2 6 (by decide +kernel) (by omega) (by omega) (by omega)) (fun z8 h7 h9 h10 => ?_)
  exact En_ret (v := some (.int z8)) rfl rfl rfl ⟨hσ0, hF0, z8, rfl, (by omega)⟩
/-- DoorSchoolModel.overOf(I)I -/
abbrev P_294 (σ0 : SG) (a : Int32) : PO := fun v σ => WT σ ∧ Fr [] σ0 σ ∧ ∃ ret : Int32, v = some (.int ret) ∧ True
set_option maxRecDepth 10000 in
set_option maxHeartbeats 4000000 in
theorem c_294 (σ0 : SG) (hσ0 : WT σ0) (a : Int32) (hl_a : 0 ≤ a.toInt) (hu_a : a.toInt ≤ 5) : En 1 21 none mr_294 (P_294 σ0 a) 0 [(0, .ref 159), (1, .int a)] [] σ0 := by
  have hF0 : Fr [] σ0 σ0 := Fr_rfl
  refine En_Ps 1 (pc' := 1) (lv' := [(0, .ref 159), (1, .int a)]) (st' := [.ref 159]) rfl ?_
  refine En_getU (j := 27) (u := 173) (g' := 49) (q := 0) rfl rfl rfl (by decide +kernel : TG 159 = 35) (by decide +kernel) hσ0 (by decide +kernel) (by decide +kernel) (fun h1 => ?_)
  refine En_Ps 1 (pc' := 5) (lv' := [(0, .ref 159), (1, .int a)]) (st' := [.int a, .ref 173]) rfl ?_
  refine En_iald (l := (-2147483648)) (u := 2147483647) rfl rfl (by decide +kernel : TG 173 = 49) (by decide +kernel) hσ0 (by omega) (lnI (by decide +kernel : LN _ = 6) (by omega)) (FTsgl (by decide +kernel)) (fun z4 h3 h5 h6 => ?_)
  refine En_Ps 2 (pc' := 8) (lv' := [(0, .ref 159), (1, .int a)]) (st' := [.int a, .ref 159, .int z4]) rfl ?_
  refine En_callV rfl rfl rfl rfl rfl rfl rfl rfl (by decide +kernel : TG 159 = 35) (by decide +kernel) rfl (c_319 σ0 hσ0 a (geI rfl (by omega)) (leI rfl (by omega))) (by decide) (by decide) (fun v8 σ9 h7 => ?_)
  obtain ⟨h10, h11, z13, rfl, h12⟩ := h7
  have h14 := Fr_trans hF0 h11 (by decide +kernel)
  refine En_Ps 1 (pc' := 12) (lv' := [(0, .ref 159), (1, .int a)]) (st' := [.int ((z4 + z13))]) rfl ?_
  refine En_hav (fun z15 => ?_)
  exact En_ret (v := some (.int z15)) rfl rfl rfl ⟨h10, h14, z15, rfl, trivial⟩
/-- DoorSchoolModel.afterAll(II)I -/
abbrev P_190 (σ0 : SG) (a : Int32) (b : Int32) : PO := fun v σ => WT σ ∧ Fr [] σ0 σ ∧ ∃ ret : Int32, v = some (.int ret) ∧ -ret.toInt - 1 ≤ 0
set_option maxRecDepth 10000 in
set_option maxHeartbeats 4000000 in
theorem c_190 (σ0 : SG) (hσ0 : WT σ0) (a : Int32) (b : Int32) (hl_a : 0 ≤ a.toInt) (hu_a : a.toInt ≤ 5) : En 2 42 none mr_190 (P_190 σ0 a b) 0 [(0, .ref 159), (1, .int a), (2, .int b)] [] σ0 := by
  have hF0 : Fr [] σ0 σ0 := Fr_rfl
  refine En_Ps 4 (pc' := 5) (lv' := [(4, .int ((Int32.ofInt 0))), (3, .int ((Int32.ofInt 0))), (0, .ref 159), (1, .int a), (2, .int b)]) (st' := []) rfl ?_
  have key5 : ∀ (n5 : Nat) (σ3 : SG) (y1 : Int32) (y2 : Int32), WT σ3 → Fr [] σ0 σ3 → 0 ≤ y1.toInt → 0 ≤ y2.toInt → y2.toInt ≤ 5 → y2.toInt - a.toInt ≤ 0 → a.toInt - y2.toInt < (n5 : Int) → En 2 42 none mr_190 (P_190 σ0 a b) 5 [(0, .ref 159), (1, .int a), (2, .int b), (3, .int y1), (4, .int y2)] [] σ3 := by
    intro n5
    induction n5 with
    | zero =>
      intro σ3 y1 y2 h4 h5 h6 h7 h8 h9 h10
      exfalso; omega
    | succ n5 ih5 =>
      intro σ3 y1 y2 h4 h5 h6 h7 h8 h9 h10
      refine En_Ps 2 (pc' := 8) (lv' := [(0, .ref 159), (1, .int a), (2, .int b), (3, .int y1), (4, .int y2)]) (st' := [.int a, .int y2]) rfl ?_
      refine En_icGe _ rfl rfl rfl (fun h11 => ?_) (fun h11 => ?_)
      · refine En_Ps 1 (pc' := 65) (lv' := [(0, .ref 159), (1, .int a), (2, .int b), (3, .int y1), (4, .int y2)]) (st' := [.int y1]) rfl ?_
        exact En_ret (v := some (.int y1)) rfl rfl rfl ⟨h4, h5, y1, rfl, (by omega)⟩
      · refine En_Ps 1 (pc' := 12) (lv' := [(0, .ref 159), (1, .int a), (2, .int b), (3, .int y1), (4, .int y2)]) (st' := [.ref 159]) rfl ?_
        refine En_getU (j := 1) (u := 160) (g' := 36) (q := 0) rfl rfl rfl (by decide +kernel : TG 159 = 35) (by decide +kernel) h4 (by decide +kernel) (by decide +kernel) (fun h12 => ?_)
        refine En_Ps 4 (pc' := 21) (lv' := [(0, .ref 159), (1, .int a), (2, .int b), (3, .int y1), (4, .int y2)]) (st' := [.int ((((Int32.ofInt 2)) * a)), .int (((Int16.ofInt 154).toInt32)), .ref 160]) rfl ?_
        refine En_top (mulI (by decide : (Int32.ofInt 2).toInt = 2) rfl (Z := 2 * a.toInt) (by omega) (by omega) (by omega)) (fun z14 h15 => ?_)
        refine En_Ps 1 (pc' := 22) (lv' := [(0, .ref 159), (1, .int a), (2, .int b), (3, .int y1), (4, .int y2)]) (st' := [.int (((((Int16.ofInt 154).toInt32)) + z14)), .ref 160]) rfl ?_
        refine En_top (addI (by decide : ((Int16.ofInt 154).toInt32).toInt = 154) rfl (by omega) (by omega)) (fun z16 h17 => ?_)
        refine En_Ps 2 (pc' := 24) (lv' := [(0, .ref 159), (1, .int a), (2, .int b), (3, .int y1), (4, .int y2)]) (st' := [.int ((z16 + ((Int32.ofInt 1)))), .ref 160]) rfl ?_
        refine En_top (addI rfl (by decide : (Int32.ofInt 1).toInt = 1) (by omega) (by omega)) (fun z18 h19 => ?_)
        refine En_iald (l := 0) (u := 63) rfl rfl (by decide +kernel : TG 160 = 36) (by decide +kernel) h4 (by omega) (lnI (by decide +kernel : LN _ = 226) (by omega)) (FTrow 36 157 2 5 (by decide +kernel) (by omega) (by omega) (by omega)) (fun z21 h20 h22 h23 => ?_)
        refine En_Ps 1 (pc' := 27) (lv' := [(0, .ref 159), (1, .int a), (2, .int b), (3, .int y1), (4, .int y2)]) (st' := [.int y2, .int z21]) rfl ?_
        refine En_callS rfl rfl rfl rfl rfl rfl rfl rfl rfl (c_202 σ3 h4 z21 y2) (by decide) (by decide) (fun v25 σ26 h24 => ?_)
        obtain ⟨h27, h28, z30, rfl, h29⟩ := h24
        have h31 := Fr_trans h5 h28 (by decide +kernel)
        refine En_iNe _ rfl rfl (fun h32 => ?_) (fun h32 => ?_)
        · refine En_Ps 2 (pc' := 39) (lv' := [(0, .ref 159), (1, .int a), (2, .int b), (3, .int y1), (4, .int y2)]) (st' := [.int y2, .int b]) rfl ?_
          refine En_callS rfl rfl rfl rfl rfl rfl rfl rfl rfl (c_202 σ26 h27 b y2) (by decide) (by decide) (fun v34 σ35 h33 => ?_)
          obtain ⟨h36, h37, z39, rfl, h38⟩ := h33
          have h40 := Fr_trans h31 h37 (by decide +kernel)
          refine En_iNe _ rfl rfl (fun h41 => ?_) (fun h41 => ?_)
          · refine En_Ps 3 (pc' := 51) (lv' := [(0, .ref 159), (1, .int a), (2, .int b), (3, .int y1), (4, .int y2)]) (st' := [.int y2, .ref 159, .int y1]) rfl ?_
            refine En_callV rfl rfl rfl rfl rfl rfl rfl rfl (by decide +kernel : TG 159 = 35) (by decide +kernel) rfl (c_294 σ35 h36 y2 (geI rfl (by omega)) (leI rfl (by omega))) (by decide) (by decide) (fun v43 σ44 h42 => ?_)
            obtain ⟨h45, h46, z48, rfl, h47⟩ := h42
            have h49 := Fr_trans h40 h46 (by decide +kernel)
            refine En_callS rfl rfl rfl rfl rfl rfl rfl rfl rfl (c_10 σ44 h45 y1 z48) (by decide) (by decide) (fun v51 σ52 h50 => ?_)
            obtain ⟨h53, h54, z56, rfl, h55⟩ := h50
            have h57 := Fr_trans h49 h54 (by decide +kernel)
            refine En_Ps 2 (pc' := 61) (lv' := [(4, .int ((y2 + Int32.ofInt 1))), (3, .int z56), (0, .ref 159), (1, .int a), (2, .int b)]) (st' := []) rfl ?_
            refine En_lv1 (addI rfl (by decide : (Int32.ofInt 1).toInt = 1) (by omega) (by omega)) (fun z58 h59 => ?_)
            refine En_Ps 1 (pc' := 5) (lv' := [(4, .int z58), (3, .int z56), (0, .ref 159), (1, .int a), (2, .int b)]) (st' := []) rfl ?_
            refine En_lv (lv := [(0, .ref 159), (1, .int a), (2, .int b), (3, .int z56), (4, .int z58)]) ⟨rfl, rfl, rfl, rfl, rfl, trivial⟩ ?_
            exact ih5 σ52 z56 z58 h53 h57 (by omega) (by omega) (by omega) (by omega) (by omega)
          · refine En_Ps 1 (pc' := 46) (lv' := [(0, .ref 159), (1, .int a), (2, .int b), (3, .int y1), (4, .int y2)]) (st' := [.int ((Int32.ofInt (-1)))]) rfl ?_
            refine En_top (by decide : (Int32.ofInt (-1)).toInt = -1) (fun z60 h61 => ?_)
            exact En_ret (v := some (.int z60)) rfl rfl rfl ⟨h36, h40, z60, rfl, (by omega)⟩
        · refine En_Ps 2 (pc' := 61) (lv' := [(4, .int ((y2 + Int32.ofInt 1))), (0, .ref 159), (1, .int a), (2, .int b), (3, .int y1)]) (st' := []) rfl ?_
          refine En_lv1 (addI rfl (by decide : (Int32.ofInt 1).toInt = 1) (by omega) (by omega)) (fun z62 h63 => ?_)
          refine En_Ps 1 (pc' := 5) (lv' := [(4, .int z62), (0, .ref 159), (1, .int a), (2, .int b), (3, .int y1)]) (st' := []) rfl ?_
          refine En_lv (lv := [(0, .ref 159), (1, .int a), (2, .int b), (3, .int y1), (4, .int z62)]) ⟨rfl, rfl, rfl, rfl, rfl, trivial⟩ ?_
          exact ih5 σ26 y1 z62 h27 h31 (by omega) (by omega) (by omega) (by omega) (by omega)
  have := (by decide : (Int32.ofInt 0).toInt = 0)
  have := (by decide : (Int32.ofInt 0).toInt = 0)
  refine En_lv (lv := [(0, .ref 159), (1, .int a), (2, .int b), (3, .int ((Int32.ofInt 0))), (4, .int ((Int32.ofInt 0)))]) ⟨rfl, rfl, rfl, rfl, rfl, trivial⟩ ?_
  exact key5 (Int.toNat (a.toInt) + 1) σ0 ((Int32.ofInt 0)) ((Int32.ofInt 0)) hσ0 hF0 (by omega) (by omega) (by omega) (by omega) (by omega)
/-- DoorSchoolModel.isDoor(I)Z -/
abbrev P_254 (σ0 : SG) (a : Int32) (nd : Int32) : PO := fun v σ => WT σ ∧ Fr [] σ0 σ ∧ ∃ ret : Int32, v = some (.int ret) ∧ -ret.toInt ≤ 0 ∧ ret.toInt - 1 ≤ 0 ∧ (-ret.toInt + 1 ≤ 0 → -a.toInt ≤ 0 ∧ a.toInt - nd.toInt + 1 ≤ 0) ∧ (-a.toInt ≤ 0 ∧ a.toInt - nd.toInt + 1 ≤ 0 → -ret.toInt + 1 ≤ 0) ∧ (ret.toInt - 1 ≤ 0 ∧ -ret.toInt + 1 ≤ 0 → -a.toInt ≤ 0 ∧ a.toInt - 3 ≤ 0)
set_option maxRecDepth 10000 in
set_option maxHeartbeats 4000000 in
theorem c_254 (σ0 : SG) (hσ0 : WT σ0) (a : Int32) (nd : Int32) (h_nd : (σ0 160)[(2 : Int).toNat]? = some (.int nd)) : En 1 25 none mr_254 (P_254 σ0 a nd) 0 [(0, .ref 159), (1, .int a)] [] σ0 := by
  obtain ⟨hl_nd, hu_nd⟩ := WT_int hσ0 (g := 36) (by decide +kernel) (by decide +kernel) (l := 0) (u := 4) (by decide +kernel) h_nd
  have hF0 : Fr [] σ0 σ0 := Fr_rfl
  refine En_Ps 4 (pc' := 4) (lv' := [(0, .ref 159), (1, .int a)]) (st' := [.ref 159, .long ((Int64.ofNat 0)), .long a.toInt64]) rfl ?_
  refine En_getU (j := 1) (u := 160) (g' := 36) (q := 0) rfl rfl rfl (by decide +kernel : TG 159 = 35) (by decide +kernel) hσ0 (by decide +kernel) (by decide +kernel) (fun h1 => ?_)
  refine En_Ps 1 (pc' := 8) (lv' := [(0, .ref 159), (1, .int a)]) (st' := [.int ((Int32.ofInt 2)), .ref 160, .long ((Int64.ofNat 0)), .long a.toInt64]) rfl ?_
  refine En_ialdK h_nd rfl (by decide : (Int32.ofInt 2).toInt = 2) (by decide +kernel : TG 160 = 36) (by decide +kernel) hσ0 (by omega) (lnI (by decide +kernel : LN _ = 226) (by omega)) ?_
  refine En_Ps 2 (pc' := 11) (lv' := [(0, .ref 159), (1, .int a)]) (st' := [.int ((nd - ((Int32.ofInt 1)))), .long ((Int64.ofNat 0)), .long a.toInt64]) rfl ?_
  refine En_top (subI rfl (by decide : (Int32.ofInt 1).toInt = 1) (by omega) (by omega)) (fun z4 h5 => ?_)
  refine En_Ps 1 (pc' := 12) (lv' := [(0, .ref 159), (1, .int a)]) (st' := [.long z4.toInt64, .long ((Int64.ofNat 0)), .long a.toInt64]) rfl ?_
  have : a.toInt64.toInt = a.toInt := (i2lI rfl)
  have := (by decide : ((Int64.ofNat 0)).toInt = 0)
  have : z4.toInt64.toInt = z4.toInt := (i2lI rfl)
  refine En_callS rfl rfl rfl rfl rfl rfl rfl rfl rfl (c_249 σ0 hσ0 a.toInt64 ((Int64.ofNat 0)) z4.toInt64) (by decide) (by decide) (fun v7 σ8 h6 => ?_)
  obtain ⟨h9, h10, z12, rfl, h11⟩ := h6
  have h13 := Fr_trans hF0 h10 (by decide +kernel)
  exact En_ret (v := some (.int z12)) rfl rfl (retZ rfl rfl (by omega) (by omega)) ⟨h9, h13, z12, rfl, (by omega)⟩
/-- DoorSchoolModel.alike(I)I -/
abbrev P_191 (σ0 : SG) (a : Int32) : PO := fun v σ => WT σ ∧ Fr [(35, 18), (35, 21), (42, 0), (43, 0), (44, 0), (45, 0), (46, 0)] σ0 σ ∧ ∃ ret : Int32, v = some (.int ret) ∧ -ret.toInt - 2 ≤ 0 ∧ ret.toInt - 15 ≤ 0
set_option maxRecDepth 10000 in
set_option maxHeartbeats 4000000 in
theorem c_191 (σ0 : SG) (hσ0 : WT σ0) (a : Int32) : En 5 112 none mr_191 (P_191 σ0 a) 0 [(0, .ref 159), (1, .int a)] [] σ0 := by
  have hF0 : Fr [(35, 18), (35, 21), (42, 0), (43, 0), (44, 0), (45, 0), (46, 0)] σ0 σ0 := Fr_rfl
  refine En_Ps 2 (pc' := 2) (lv' := [(0, .ref 159), (1, .int a)]) (st' := [.int a, .ref 159]) rfl ?_
  obtain ⟨z2, h1, h3, h4⟩ := WT_peekI hσ0 (by decide +kernel : TG 160 = 36) (by decide +kernel : FT 36 (2 : Int).toNat = (0, 0, 4)) (by decide +kernel)
  refine En_callV rfl rfl rfl rfl rfl rfl rfl rfl (by decide +kernel : TG 159 = 35) (by decide +kernel) rfl (c_254 σ0 hσ0 a z2 h1) (by decide) (by decide) (fun v6 σ7 h5 => ?_)
  obtain ⟨h8, h9, z11, rfl, h10⟩ := h5
  have h12 := Fr_trans hF0 h9 (by decide +kernel)
  refine En_iNe _ rfl rfl (fun h13 => ?_) (fun h13 => ?_)
  · refine En_Ps 2 (pc' := 13) (lv' := [(0, .ref 159), (1, .int a)]) (st' := [.int a, .ref 159]) rfl ?_
    refine En_callV rfl rfl rfl rfl rfl rfl rfl rfl (by decide +kernel : TG 159 = 35) (by decide +kernel) rfl (c_213 σ7 h8 a (geI rfl (by omega)) (leI rfl (by omega))) (by decide) (by decide) (fun v15 σ16 h14 => ?_)
    obtain ⟨h17, h18, z20, h21, z22, rfl, h19⟩ := h14
    have h23 := Fr_trans h12 h18 (by decide +kernel)
    refine En_Ps 5 (pc' := 22) (lv' := [(4, .int ((Int32.ofInt 0))), (3, .int ((Int32.ofInt 0))), (2, .int z22), (0, .ref 159), (1, .int a)]) (st' := []) rfl ?_
    have key22 : ∀ (n22 : Nat) (σ27 : SG) (y24 : Int32) (y25 : Int32) (y26 : Int32), WT σ27 → Fr [(35, 18), (35, 21), (42, 0), (43, 0), (44, 0), (45, 0), (46, 0)] σ0 σ27 → (σ27 160)[(2 : Int).toNat]? = some (.int z2) → (σ27 159)[21]? = some (.int y26) → 0 ≤ y24.toInt → y24.toInt ≤ 15 → 0 ≤ y25.toInt → y25.toInt ≤ 4 → 0 ≤ y26.toInt → y26.toInt ≤ 13 → y25.toInt - z2.toInt ≤ 0 → z2.toInt - y25.toInt < (n22 : Int) → En 5 112 none mr_191 (P_191 σ0 a) 22 [(0, .ref 159), (1, .int a), (2, .int z22), (3, .int y24), (4, .int y25)] [] σ27 := by
      intro n22
      induction n22 with
      | zero =>
        intro σ27 y24 y25 y26 h28 h29 h30 h31 h32 h33 h34 h35 h36 h37 h38 h39
        exfalso; omega
      | succ n22 ih22 =>
        intro σ27 y24 y25 y26 h28 h29 h30 h31 h32 h33 h34 h35 h36 h37 h38 h39
        refine En_Ps 2 (pc' := 25) (lv' := [(0, .ref 159), (1, .int a), (2, .int z22), (3, .int y24), (4, .int y25)]) (st' := [.ref 159, .int y25]) rfl ?_
        refine En_getU (j := 1) (u := 160) (g' := 36) (q := 0) rfl rfl rfl (by decide +kernel : TG 159 = 35) (by decide +kernel) h28 (by decide +kernel) (by decide +kernel) (fun h40 => ?_)
        refine En_Ps 1 (pc' := 29) (lv' := [(0, .ref 159), (1, .int a), (2, .int z22), (3, .int y24), (4, .int y25)]) (st' := [.int ((Int32.ofInt 2)), .ref 160, .int y25]) rfl ?_
        refine En_ialdK h30 rfl (by decide : (Int32.ofInt 2).toInt = 2) (by decide +kernel : TG 160 = 36) (by decide +kernel) h28 (by omega) (lnI (by decide +kernel : LN _ = 226) (by omega)) ?_
        refine En_icGe _ rfl rfl rfl (fun h43 => ?_) (fun h43 => ?_)
        · refine En_Ps 1 (pc' := 67) (lv' := [(0, .ref 159), (1, .int a), (2, .int z22), (3, .int y24), (4, .int y25)]) (st' := [.int y24]) rfl ?_
          exact En_ret (v := some (.int y24)) rfl rfl rfl ⟨h28, h29, y24, rfl, (by omega)⟩
        · refine En_Ps 3 (pc' := 37) (lv' := [(0, .ref 159), (1, .int a), (2, .int z22), (3, .int y24), (4, .int y25)]) (st' := [.int a, .int y25, .int y24]) rfl ?_
          refine En_icEq _ rfl rfl rfl (fun h44 => ?_) (fun h44 => ?_)
          · refine En_Ps 2 (pc' := 59) (lv' := [(0, .ref 159), (1, .int a), (2, .int z22), (3, .int y24), (4, .int y25)]) (st' := [.int ((y24 ||| ((Int32.ofInt 0))))]) rfl ?_
            refine En_rng (l := 0) (u := 15) (or_rng 4 rfl (by decide : (Int32.ofInt 0).toInt = 0) (by omega) (by omega) (by omega) (by omega) (by decide)) (fun z45 h46 h47 => ?_)
            refine En_Ps 2 (pc' := 63) (lv' := [(4, .int ((y25 + Int32.ofInt 1))), (3, .int z45), (0, .ref 159), (1, .int a), (2, .int z22)]) (st' := []) rfl ?_
            refine En_lv1 (addI rfl (by decide : (Int32.ofInt 1).toInt = 1) (by omega) (by omega)) (fun z48 h49 => ?_)
            refine En_Ps 1 (pc' := 22) (lv' := [(4, .int z48), (3, .int z45), (0, .ref 159), (1, .int a), (2, .int z22)]) (st' := []) rfl ?_
            refine En_lv (lv := [(0, .ref 159), (1, .int a), (2, .int z22), (3, .int z45), (4, .int z48)]) ⟨rfl, rfl, rfl, rfl, rfl, trivial⟩ ?_
            exact ih22 σ27 z45 z48 y26 h28 h29 h30 h31 (by omega) (by omega) (by omega) (by omega) (by omega) (by omega) (by omega) (by omega)
          · refine En_Ps 2 (pc' := 43) (lv' := [(0, .ref 159), (1, .int a), (2, .int z22), (3, .int y24), (4, .int y25)]) (st' := [.int y25, .ref 159, .int y24]) rfl ?_
            refine En_callV rfl rfl rfl rfl rfl rfl rfl rfl (by decide +kernel : TG 159 = 35) (by decide +kernel) rfl (c_213 σ27 h28 y25 (geI rfl (by omega)) (leI rfl (by omega))) (by decide) (by decide) (fun v51 σ52 h50 => ?_)
            obtain ⟨h53, h54, z56, h57, z58, rfl, h55⟩ := h50
            have h59 := Fr_trans h29 h54 (by decide +kernel)
            refine En_Ps 1 (pc' := 47) (lv' := [(0, .ref 159), (1, .int a), (2, .int z22), (3, .int y24), (4, .int y25)]) (st' := [.int z22, .int z58, .int y24]) rfl ?_
            refine En_icNe _ rfl rfl rfl (fun h60 => ?_) (fun h60 => ?_)
            · refine En_Ps 2 (pc' := 59) (lv' := [(0, .ref 159), (1, .int a), (2, .int z22), (3, .int y24), (4, .int y25)]) (st' := [.int ((y24 ||| ((Int32.ofInt 0))))]) rfl ?_
              refine En_rng (l := 0) (u := 15) (or_rng 4 rfl (by decide : (Int32.ofInt 0).toInt = 0) (by omega) (by omega) (by omega) (by omega) (by decide)) (fun z61 h62 h63 => ?_)
              refine En_Ps 2 (pc' := 63) (lv' := [(4, .int ((y25 + Int32.ofInt 1))), (3, .int z61), (0, .ref 159), (1, .int a), (2, .int z22)]) (st' := []) rfl ?_
              refine En_lv1 (addI rfl (by decide : (Int32.ofInt 1).toInt = 1) (by omega) (by omega)) (fun z64 h65 => ?_)
              refine En_Ps 1 (pc' := 22) (lv' := [(4, .int z64), (3, .int z61), (0, .ref 159), (1, .int a), (2, .int z22)]) (st' := []) rfl ?_
              refine En_lv (lv := [(0, .ref 159), (1, .int a), (2, .int z22), (3, .int z61), (4, .int z64)]) ⟨rfl, rfl, rfl, rfl, rfl, trivial⟩ ?_
              exact ih22 σ52 z61 z64 z56 h53 h59 ((h54 _ _ (inWa (by decide +kernel : TG 160 = 36) (by decide +kernel))).trans h30) h57 (by omega) (by omega) (by omega) (by omega) (by omega) (by omega) (by omega) (by omega)
            · refine En_Ps 3 (pc' := 54) (lv' := [(0, .ref 159), (1, .int a), (2, .int z22), (3, .int y24), (4, .int y25)]) (st' := [.int ((((Int32.ofInt 1)) <<< (y25 &&& 31))), .int y24]) rfl ?_
              refine En_rng (shl1_p 3 rfl (by omega) (by omega) (by decide)) (fun z66 h67 h68 => ?_)
              refine En_Ps 2 (pc' := 59) (lv' := [(0, .ref 159), (1, .int a), (2, .int z22), (3, .int y24), (4, .int y25)]) (st' := [.int ((y24 ||| z66))]) rfl ?_
              refine En_rng (l := 0) (u := 15) (or_rng 4 rfl rfl (by omega) (by omega) (by omega) (by omega) (by decide)) (fun z69 h70 h71 => ?_)
              refine En_Ps 2 (pc' := 63) (lv' := [(4, .int ((y25 + Int32.ofInt 1))), (3, .int z69), (0, .ref 159), (1, .int a), (2, .int z22)]) (st' := []) rfl ?_
              refine En_lv1 (addI rfl (by decide : (Int32.ofInt 1).toInt = 1) (by omega) (by omega)) (fun z72 h73 => ?_)
              refine En_Ps 1 (pc' := 22) (lv' := [(4, .int z72), (3, .int z69), (0, .ref 159), (1, .int a), (2, .int z22)]) (st' := []) rfl ?_
              refine En_lv (lv := [(0, .ref 159), (1, .int a), (2, .int z22), (3, .int z69), (4, .int z72)]) ⟨rfl, rfl, rfl, rfl, rfl, trivial⟩ ?_
              exact ih22 σ52 z69 z72 z56 h53 h59 ((h54 _ _ (inWa (by decide +kernel : TG 160 = 36) (by decide +kernel))).trans h30) h57 (by omega) (by omega) (by omega) (by omega) (by omega) (by omega) (by omega) (by omega)
    have := (by decide : (Int32.ofInt 0).toInt = 0)
    have := (by decide : (Int32.ofInt 0).toInt = 0)
    refine En_lv (lv := [(0, .ref 159), (1, .int a), (2, .int z22), (3, .int ((Int32.ofInt 0))), (4, .int ((Int32.ofInt 0)))]) ⟨rfl, rfl, rfl, rfl, rfl, trivial⟩ ?_
    exact key22 (Int.toNat (z2.toInt) + 1) σ16 ((Int32.ofInt 0)) ((Int32.ofInt 0)) z20 h17 h23 ((h18 _ _ (inWa (by decide +kernel : TG 160 = 36) (by decide +kernel))).trans ((h9 _ _ (inWa (by decide +kernel : TG 160 = 36) (by decide +kernel))).trans h1)) h21 (by omega) (by omega) (by omega) (by omega) (by omega) (by omega) (by omega) (by omega)
  · refine En_Ps 1 (pc' := 10) (lv' := [(0, .ref 159), (1, .int a)]) (st' := [.int (((Int8.ofInt (-2)).toInt32))]) rfl ?_
    refine En_top (by decide : ((Int8.ofInt (-2)).toInt32).toInt = -2) (fun z74 h75 => ?_)
    exact En_ret (v := some (.int z74)) rfl rfl rfl ⟨h8, h12, z74, rfl, (by omega)⟩
/-- DoorSchoolModel.allKnocks()I -/
abbrev P_192 (σ0 : SG) : PO := fun v σ => WT σ ∧ Fr [] σ0 σ ∧ ∃ ret : Int32, v = some (.int ret) ∧ -ret.toInt ≤ 0 ∧ ret.toInt - 65535 ≤ 0
set_option maxRecDepth 10000 in
set_option maxHeartbeats 4000000 in
theorem c_192 (σ0 : SG) (hσ0 : WT σ0) : En 2 40 none mr_192 (P_192 σ0) 0 [(0, .ref 159)] [] σ0 := by
  have hF0 : Fr [] σ0 σ0 := Fr_rfl
  refine En_Ps 2 (pc' := 2) (lv' := [(0, .ref 159)]) (st' := [.ref 159, .int ((Int32.ofInt 1))]) rfl ?_
  obtain ⟨z2, h1, h3, h4⟩ := WT_peekI hσ0 (by decide +kernel : TG 160 = 36) (by decide +kernel : FT 36 (0 : Int).toNat = (0, 0, 4)) (by decide +kernel)
  obtain ⟨z6, h5, h7, h8⟩ := WT_peekI hσ0 (by decide +kernel : TG 160 = 36) (by decide +kernel : FT 36 (7 : Int).toNat = (0, 0, 1600)) (by decide +kernel)
  refine En_callV rfl rfl rfl rfl rfl rfl rfl rfl (by decide +kernel : TG 159 = 35) (by decide +kernel) rfl (c_269 σ0 hσ0 z2 h1 z6 h5) (by decide) (by decide) (fun v10 σ11 h9 => ?_)
  obtain ⟨h12, h13, z15, rfl, h14⟩ := h9
  have h16 := Fr_trans hF0 h13 (by decide +kernel)
  refine En_Ps 1 (pc' := 6) (lv' := [(0, .ref 159)]) (st' := [.int ((((Int32.ofInt 1)) <<< (z15 &&& 31)))]) rfl ?_
  refine En_rng (shl1_p 16 rfl (by omega) (by omega) (by decide)) (fun z17 h18 h19 => ?_)
  refine En_Ps 2 (pc' := 8) (lv' := [(0, .ref 159)]) (st' := [.int ((z17 - ((Int32.ofInt 1))))]) rfl ?_
  refine En_top (subI rfl (by decide : (Int32.ofInt 1).toInt = 1) (by omega) (by omega)) (fun z20 h21 => ?_)
  exact En_ret (v := some (.int z20)) rfl rfl rfl ⟨h12, h16, z20, rfl, (by omega)⟩
/-- DoorSchoolModel.isHouse(I)Z -/
abbrev P_258 (σ0 : SG) (a : Int32) : PO := fun v σ => WT σ ∧ Fr [] σ0 σ ∧ ∃ ret : Int32, v = some (.int ret) ∧ -ret.toInt ≤ 0 ∧ ret.toInt - 1 ≤ 0 ∧ (ret.toInt - 1 ≤ 0 ∧ -ret.toInt + 1 ≤ 0 → -a.toInt ≤ 0 ∧ a.toInt - 3 ≤ 0)
set_option maxRecDepth 10000 in
set_option maxHeartbeats 4000000 in
theorem c_258 (σ0 : SG) (hσ0 : WT σ0) (a : Int32) : En 1 25 none mr_258 (P_258 σ0 a) 0 [(0, .ref 159), (1, .int a)] [] σ0 := by
  have hF0 : Fr [] σ0 σ0 := Fr_rfl
  refine En_Ps 4 (pc' := 4) (lv' := [(0, .ref 159), (1, .int a)]) (st' := [.ref 159, .long ((Int64.ofNat 0)), .long a.toInt64]) rfl ?_
  refine En_getU (j := 1) (u := 160) (g' := 36) (q := 0) rfl rfl rfl (by decide +kernel : TG 159 = 35) (by decide +kernel) hσ0 (by decide +kernel) (by decide +kernel) (fun h1 => ?_)
  refine En_Ps 1 (pc' := 8) (lv' := [(0, .ref 159), (1, .int a)]) (st' := [.int ((Int32.ofInt 4)), .ref 160, .long ((Int64.ofNat 0)), .long a.toInt64]) rfl ?_
  refine En_iald (l := 0) (u := 4) rfl (by decide : (Int32.ofInt 4).toInt = 4) (by decide +kernel : TG 160 = 36) (by decide +kernel) hσ0 (by omega) (lnI (by decide +kernel : LN _ = 226) (by omega)) (by decide +kernel) (fun z4 h3 h5 h6 => ?_)
  refine En_Ps 2 (pc' := 11) (lv' := [(0, .ref 159), (1, .int a)]) (st' := [.int ((z4 - ((Int32.ofInt 1)))), .long ((Int64.ofNat 0)), .long a.toInt64]) rfl ?_
  refine En_top (subI rfl (by decide : (Int32.ofInt 1).toInt = 1) (by omega) (by omega)) (fun z7 h8 => ?_)
  refine En_Ps 1 (pc' := 12) (lv' := [(0, .ref 159), (1, .int a)]) (st' := [.long z7.toInt64, .long ((Int64.ofNat 0)), .long a.toInt64]) rfl ?_
  have : a.toInt64.toInt = a.toInt := (i2lI rfl)
  have := (by decide : ((Int64.ofNat 0)).toInt = 0)
  have : z7.toInt64.toInt = z7.toInt := (i2lI rfl)
  refine En_callS rfl rfl rfl rfl rfl rfl rfl rfl rfl (c_249 σ0 hσ0 a.toInt64 ((Int64.ofNat 0)) z7.toInt64) (by decide) (by decide) (fun v10 σ11 h9 => ?_)
  obtain ⟨h12, h13, z15, rfl, h14⟩ := h9
  have h16 := Fr_trans hF0 h13 (by decide +kernel)
  exact En_ret (v := some (.int z15)) rfl rfl (retZ rfl rfl (by omega) (by omega)) ⟨h12, h16, z15, rfl, (by omega)⟩
/-- DoorSchoolModel.amissOf(II)I -/
abbrev P_194 (σ0 : SG) (a : Int32) (b : Int32) : PO := fun v σ => WT σ ∧ Fr [(35, 18), (35, 21), (42, 0), (43, 0), (44, 0), (45, 0), (46, 0)] σ0 σ ∧ ∃ ret : Int32, v = some (.int ret) ∧ True
set_option maxRecDepth 10000 in
set_option maxHeartbeats 4000000 in
theorem c_194 (σ0 : SG) (hσ0 : WT σ0) (a : Int32) (b : Int32) (hl_a : 0 ≤ a.toInt) (hu_a : a.toInt ≤ 3) (hl_b : 0 ≤ b.toInt) (hu_b : b.toInt ≤ 3) : En 5 112 none mr_194 (P_194 σ0 a b) 0 [(0, .ref 159), (1, .int a), (2, .int b)] [] σ0 := by
  have hF0 : Fr [(35, 18), (35, 21), (42, 0), (43, 0), (44, 0), (45, 0), (46, 0)] σ0 σ0 := Fr_rfl
  refine En_Ps 2 (pc' := 2) (lv' := [(0, .ref 159), (1, .int a), (2, .int b)]) (st' := [.int a, .ref 159]) rfl ?_
  refine En_callV rfl rfl rfl rfl rfl rfl rfl rfl (by decide +kernel : TG 159 = 35) (by decide +kernel) rfl (c_213 σ0 hσ0 a (geI rfl (by omega)) (leI rfl (by omega))) (by decide) (by decide) (fun v2 σ3 h1 => ?_)
  obtain ⟨h4, h5, z7, h8, z9, rfl, h6⟩ := h1
  have h10 := Fr_trans hF0 h5 (by decide +kernel)
  refine En_Ps 2 (pc' := 7) (lv' := [(0, .ref 159), (1, .int a), (2, .int b)]) (st' := [.ref 159, .ref 159, .int z9]) rfl ?_
  refine En_getU (j := 1) (u := 160) (g' := 36) (q := 0) rfl rfl rfl (by decide +kernel : TG 159 = 35) (by decide +kernel) h4 (by decide +kernel) (by decide +kernel) (fun h11 => ?_)
  refine En_Ps 4 (pc' := 16) (lv' := [(0, .ref 159), (1, .int a), (2, .int b)]) (st' := [.int ((((Int32.ofInt 2)) * b)), .int (((Int16.ofInt 146).toInt32)), .ref 160, .ref 159, .int z9]) rfl ?_
  refine En_top (mulI (by decide : (Int32.ofInt 2).toInt = 2) rfl (Z := 2 * b.toInt) (by omega) (by omega) (by omega)) (fun z13 h14 => ?_)
  refine En_Ps 1 (pc' := 17) (lv' := [(0, .ref 159), (1, .int a), (2, .int b)]) (st' := [.int (((((Int16.ofInt 146).toInt32)) + z13)), .ref 160, .ref 159, .int z9]) rfl ?_
  refine En_top (addI (by decide : ((Int16.ofInt 146).toInt32).toInt = 146) rfl (by omega) (by omega)) (fun z15 h16 => ?_)
  refine En_iald (l := 0) (u := 15) rfl rfl (by decide +kernel : TG 160 = 36) (by decide +kernel) h4 (by omega) (lnI (by decide +kernel : LN _ = 226) (by omega)) (FTrow 36 146 2 4 (by decide +kernel) (by omega) (by omega) (by omega)) (fun z18 h17 h19 h20 => ?_)
  refine En_Ps 1 (pc' := 19) (lv' := [(0, .ref 159), (1, .int a), (2, .int b)]) (st' := [.ref 159, .int z18, .ref 159, .int z9]) rfl ?_
  refine En_getK (j := 1) h11 rfl rfl rfl (by decide +kernel : TG 159 = 35) (by decide +kernel) ?_
  refine En_Ps 4 (pc' := 28) (lv' := [(0, .ref 159), (1, .int a), (2, .int b)]) (st' := [.int ((((Int32.ofInt 2)) * b)), .int (((Int16.ofInt 146).toInt32)), .ref 160, .int z18, .ref 159, .int z9]) rfl ?_
  refine En_top (mulI (by decide : (Int32.ofInt 2).toInt = 2) rfl (Z := 2 * b.toInt) (by omega) (by omega) (by omega)) (fun z21 h22 => ?_)
  refine En_Ps 1 (pc' := 29) (lv' := [(0, .ref 159), (1, .int a), (2, .int b)]) (st' := [.int (((((Int16.ofInt 146).toInt32)) + z21)), .ref 160, .int z18, .ref 159, .int z9]) rfl ?_
  refine En_top (addI (by decide : ((Int16.ofInt 146).toInt32).toInt = 146) rfl (by omega) (by omega)) (fun z23 h24 => ?_)
  refine En_Ps 2 (pc' := 31) (lv' := [(0, .ref 159), (1, .int a), (2, .int b)]) (st' := [.int ((z23 + ((Int32.ofInt 1)))), .ref 160, .int z18, .ref 159, .int z9]) rfl ?_
  refine En_top (addI rfl (by decide : (Int32.ofInt 1).toInt = 1) (by omega) (by omega)) (fun z25 h26 => ?_)
  refine En_iald (l := 0) (u := 15) rfl rfl (by decide +kernel : TG 160 = 36) (by decide +kernel) h4 (by omega) (lnI (by decide +kernel : LN _ = 226) (by omega)) (FTrow 36 147 2 4 (by decide +kernel) (by omega) (by omega) (by omega)) (fun z28 h27 h29 h30 => ?_)
  refine En_callV rfl rfl rfl rfl rfl rfl rfl rfl (by decide +kernel : TG 159 = 35) (by decide +kernel) rfl (c_212 σ3 h4 z18 z28) (by decide) (by decide) (fun v32 σ33 h31 => ?_)
  obtain ⟨h34, h35, z37, rfl, h36⟩ := h31
  have h38 := Fr_trans h10 h35 (by decide +kernel)
  refine En_Ps 1 (pc' := 36) (lv' := [(0, .ref 159), (1, .int a), (2, .int b)]) (st' := [.int ((z9 ^^^ z37))]) rfl ?_
  refine En_hav (fun z39 => ?_)
  refine En_callS rfl rfl rfl rfl rfl rfl rfl rfl rfl (c_203b σ33 h34 z39) (by decide) (by decide) (fun v41 σ42 h40 => ?_)
  obtain ⟨h43, h44, z46, rfl, h45⟩ := h40
  have h47 := Fr_trans h38 h44 (by decide +kernel)
  exact En_ret (v := some (.int z46)) rfl rfl rfl ⟨h43, h47, z46, rfl, trivial⟩
/-- DoorSchoolModel.amiss(II)I -/
abbrev P_193 (σ0 : SG) (a : Int32) (b : Int32) : PO := fun v σ => WT σ ∧ Fr [(35, 18), (35, 21), (42, 0), (43, 0), (44, 0), (45, 0), (46, 0)] σ0 σ ∧ ∃ ret : Int32, v = some (.int ret) ∧ True
set_option maxRecDepth 10000 in
set_option maxHeartbeats 4000000 in
theorem c_193 (σ0 : SG) (hσ0 : WT σ0) (a : Int32) (b : Int32) : En 6 134 none mr_193 (P_193 σ0 a b) 0 [(0, .ref 159), (1, .int a), (2, .int b)] [] σ0 := by
  have hF0 : Fr [(35, 18), (35, 21), (42, 0), (43, 0), (44, 0), (45, 0), (46, 0)] σ0 σ0 := Fr_rfl
  refine En_Ps 2 (pc' := 2) (lv' := [(0, .ref 159), (1, .int a), (2, .int b)]) (st' := [.int a, .ref 159]) rfl ?_
  obtain ⟨z2, h1, h3, h4⟩ := WT_peekI hσ0 (by decide +kernel : TG 160 = 36) (by decide +kernel : FT 36 (2 : Int).toNat = (0, 0, 4)) (by decide +kernel)
  refine En_callV rfl rfl rfl rfl rfl rfl rfl rfl (by decide +kernel : TG 159 = 35) (by decide +kernel) rfl (c_254 σ0 hσ0 a z2 h1) (by decide) (by decide) (fun v6 σ7 h5 => ?_)
  obtain ⟨h8, h9, z11, rfl, h10⟩ := h5
  have h12 := Fr_trans hF0 h9 (by decide +kernel)
  refine En_iEq _ rfl rfl (fun h13 => ?_) (fun h13 => ?_)
  · refine En_Ps 1 (pc' := 27) (lv' := [(0, .ref 159), (1, .int a), (2, .int b)]) (st' := [.int (((Int8.ofInt (-2)).toInt32))]) rfl ?_
    refine En_top (by decide : ((Int8.ofInt (-2)).toInt32).toInt = -2) (fun z14 h15 => ?_)
    exact En_ret (v := some (.int z14)) rfl rfl rfl ⟨h8, h12, z14, rfl, trivial⟩
  · refine En_Ps 2 (pc' := 10) (lv' := [(0, .ref 159), (1, .int a), (2, .int b)]) (st' := [.int b, .ref 159]) rfl ?_
    refine En_callV rfl rfl rfl rfl rfl rfl rfl rfl (by decide +kernel : TG 159 = 35) (by decide +kernel) rfl (c_258 σ7 h8 b) (by decide) (by decide) (fun v17 σ18 h16 => ?_)
    obtain ⟨h19, h20, z22, rfl, h21⟩ := h16
    have h23 := Fr_trans h12 h20 (by decide +kernel)
    refine En_iEq _ rfl rfl (fun h24 => ?_) (fun h24 => ?_)
    · refine En_Ps 1 (pc' := 27) (lv' := [(0, .ref 159), (1, .int a), (2, .int b)]) (st' := [.int (((Int8.ofInt (-2)).toInt32))]) rfl ?_
      refine En_top (by decide : ((Int8.ofInt (-2)).toInt32).toInt = -2) (fun z25 h26 => ?_)
      exact En_ret (v := some (.int z25)) rfl rfl rfl ⟨h19, h23, z25, rfl, trivial⟩
    · refine En_Ps 3 (pc' := 19) (lv' := [(0, .ref 159), (1, .int a), (2, .int b)]) (st' := [.int b, .int a, .ref 159]) rfl ?_
      refine En_callV rfl rfl rfl rfl rfl rfl rfl rfl (by decide +kernel : TG 159 = 35) (by decide +kernel) rfl (c_194 σ18 h19 a b (geI rfl (by omega)) (leI rfl (by omega)) (geI rfl (by omega)) (leI rfl (by omega))) (by decide) (by decide) (fun v28 σ29 h27 => ?_)
      obtain ⟨h30, h31, z33, rfl, h32⟩ := h27
      have h34 := Fr_trans h23 h31 (by decide +kernel)
      refine En_Ps 1 (pc' := 27) (lv' := [(0, .ref 159), (1, .int a), (2, .int b)]) (st' := [.int z33]) rfl ?_
      exact En_ret (v := some (.int z33)) rfl rfl rfl ⟨h30, h34, z33, rfl, trivial⟩
/-- DoorSchoolModel.areDeeds(I)Z -/
abbrev P_195 (σ0 : SG) (a : Int32) : PO := fun v σ => WT σ ∧ Fr [] σ0 σ ∧ ∃ ret : Int32, v = some (.int ret) ∧ -ret.toInt ≤ 0 ∧ ret.toInt - 1 ≤ 0 ∧ (ret.toInt - 1 ≤ 0 ∧ -ret.toInt + 1 ≤ 0 → -a.toInt ≤ 0 ∧ a.toInt - 65535 ≤ 0)
set_option maxRecDepth 10000 in
set_option maxHeartbeats 4000000 in
theorem c_195 (σ0 : SG) (hσ0 : WT σ0) (a : Int32) : En 3 60 none mr_195 (P_195 σ0 a) 0 [(0, .ref 159), (1, .int a)] [] σ0 := by
  have hF0 : Fr [] σ0 σ0 := Fr_rfl
  refine En_Ps 1 (pc' := 1) (lv' := [(0, .ref 159), (1, .int a)]) (st' := [.ref 159]) rfl ?_
  obtain ⟨z2, h1, h3, h4⟩ := WT_peekI hσ0 (by decide +kernel : TG 160 = 36) (by decide +kernel : FT 36 (7 : Int).toNat = (0, 0, 1600)) (by decide +kernel)
  refine En_callV rfl rfl rfl rfl rfl rfl rfl rfl (by decide +kernel : TG 159 = 35) (by decide +kernel) rfl (c_264 σ0 hσ0 z2 h1) (by decide) (by decide) (fun v6 σ7 h5 => ?_)
  obtain ⟨h8, h9, z11, rfl, h10⟩ := h5
  have h12 := Fr_trans hF0 h9 (by decide +kernel)
  refine En_iEq _ rfl rfl (fun h13 => ?_) (fun h13 => ?_)
  · refine En_Ps 1 (pc' := 26) (lv' := [(0, .ref 159), (1, .int a)]) (st' := [.int ((Int32.ofInt 0))]) rfl ?_
    refine En_top (by decide : (Int32.ofInt 0).toInt = 0) (fun z14 h15 => ?_)
    exact En_ret (v := some (.int z14)) rfl rfl (retZ rfl rfl (by omega) (by omega)) ⟨h8, h12, z14, rfl, (by omega)⟩
  · refine En_Ps 4 (pc' := 11) (lv' := [(0, .ref 159), (1, .int a)]) (st' := [.ref 159, .long ((Int64.ofNat 0)), .long a.toInt64]) rfl ?_
    refine En_callV rfl rfl rfl rfl rfl rfl rfl rfl (by decide +kernel : TG 159 = 35) (by decide +kernel) rfl (c_192 σ7 h8) (by decide) (by decide) (fun v17 σ18 h16 => ?_)
    obtain ⟨h19, h20, z22, rfl, h21⟩ := h16
    have h23 := Fr_trans h12 h20 (by decide +kernel)
    refine En_Ps 1 (pc' := 15) (lv' := [(0, .ref 159), (1, .int a)]) (st' := [.long z22.toInt64, .long ((Int64.ofNat 0)), .long a.toInt64]) rfl ?_
    have : a.toInt64.toInt = a.toInt := (i2lI rfl)
    have := (by decide : ((Int64.ofNat 0)).toInt = 0)
    have : z22.toInt64.toInt = z22.toInt := (i2lI rfl)
    refine En_callS rfl rfl rfl rfl rfl rfl rfl rfl rfl (c_249 σ18 h19 a.toInt64 ((Int64.ofNat 0)) z22.toInt64) (by decide) (by decide) (fun v25 σ26 h24 => ?_)
    obtain ⟨h27, h28, z30, rfl, h29⟩ := h24
    have h31 := Fr_trans h23 h28 (by decide +kernel)
    refine En_iEq _ rfl rfl (fun h32 => ?_) (fun h32 => ?_)
    · refine En_Ps 1 (pc' := 26) (lv' := [(0, .ref 159), (1, .int a)]) (st' := [.int ((Int32.ofInt 0))]) rfl ?_
      refine En_top (by decide : (Int32.ofInt 0).toInt = 0) (fun z33 h34 => ?_)
      exact En_ret (v := some (.int z33)) rfl rfl (retZ rfl rfl (by omega) (by omega)) ⟨h27, h31, z33, rfl, (by omega)⟩
    · refine En_Ps 2 (pc' := 26) (lv' := [(0, .ref 159), (1, .int a)]) (st' := [.int ((Int32.ofInt 1))]) rfl ?_
      refine En_top (by decide : (Int32.ofInt 1).toInt = 1) (fun z35 h36 => ?_)
      exact En_ret (v := some (.int z35)) rfl rfl (retZ rfl rfl (by omega) (by omega)) ⟨h27, h31, z35, rfl, (by omega)⟩
/-- DoorSchoolModel.isSlot(I)Z -/
abbrev P_266 (σ0 : SG) (a : Int32) : PO := fun v σ => WT σ ∧ Fr [] σ0 σ ∧ ∃ ret : Int32, v = some (.int ret) ∧ -ret.toInt ≤ 0 ∧ ret.toInt - 1 ≤ 0 ∧ (ret.toInt - 1 ≤ 0 ∧ -ret.toInt + 1 ≤ 0 → -a.toInt ≤ 0 ∧ a.toInt - 3 ≤ 0) ∧ (-a.toInt ≤ 0 ∧ a.toInt - 3 ≤ 0 → ret.toInt - 1 ≤ 0 ∧ -ret.toInt + 1 ≤ 0)
set_option maxRecDepth 10000 in
set_option maxHeartbeats 4000000 in
theorem c_266 (σ0 : SG) (hσ0 : WT σ0) (a : Int32) : En 1 25 none mr_266 (P_266 σ0 a) 0 [(0, .int a)] [] σ0 := by
  have hF0 : Fr [] σ0 σ0 := Fr_rfl
  refine En_Ps 4 (pc' := 6) (lv' := [(0, .int a)]) (st' := [.long ((3 : Int64)), .long ((Int64.ofNat 0)), .long a.toInt64]) rfl ?_
  have : a.toInt64.toInt = a.toInt := (i2lI rfl)
  have := (by decide : ((Int64.ofNat 0)).toInt = 0)
  have := (by decide : ((3 : Int64)).toInt = 3)
  refine En_callS rfl rfl rfl rfl rfl rfl rfl rfl rfl (c_249 σ0 hσ0 a.toInt64 ((Int64.ofNat 0)) ((3 : Int64))) (by decide) (by decide) (fun v2 σ3 h1 => ?_)
  obtain ⟨h4, h5, z7, rfl, h6⟩ := h1
  have h8 := Fr_trans hF0 h5 (by decide +kernel)
  exact En_ret (v := some (.int z7)) rfl rfl (retZ rfl rfl (by omega) (by omega)) ⟨h4, h8, z7, rfl, (by omega)⟩
/-- DoorSchoolModel.numberAt(II)J -/
abbrev P_289 (σ0 : SG) (a : Int32) (b : Int32) : PO := fun v σ => WT σ ∧ Fr [] σ0 σ ∧ ∃ ret : Int64, v = some (.long ret) ∧ True
set_option maxRecDepth 10000 in
set_option maxHeartbeats 4000000 in
theorem c_289 (σ0 : SG) (hσ0 : WT σ0) (a : Int32) (b : Int32) (hl_a : 0 ≤ a.toInt) (hu_a : a.toInt ≤ 3) (hl_b : 0 ≤ b.toInt) (hu_b : b.toInt ≤ 59) : En 0 0 none mr_289 (P_289 σ0 a b) 0 [(0, .ref 159), (1, .int a), (2, .int b)] [] σ0 := by
  have hF0 : Fr [] σ0 σ0 := Fr_rfl
  refine En_Ps 1 (pc' := 1) (lv' := [(0, .ref 159), (1, .int a), (2, .int b)]) (st' := [.ref 159]) rfl ?_
  refine En_getU (j := 34) (u := 179) (g' := 55) (q := 0) rfl rfl rfl (by decide +kernel : TG 159 = 35) (by decide +kernel) hσ0 (by decide +kernel) (by decide +kernel) (fun h1 => ?_)
  refine En_Ps 3 (pc' := 8) (lv' := [(0, .ref 159), (1, .int a), (2, .int b)]) (st' := [.int (((((Int8.ofInt 60).toInt32)) * a)), .ref 179]) rfl ?_
  refine En_top (mulI (by decide : ((Int8.ofInt 60).toInt32).toInt = 60) rfl (Z := 60 * a.toInt) (by omega) (by omega) (by omega)) (fun z3 h4 => ?_)
  refine En_Ps 2 (pc' := 10) (lv' := [(0, .ref 159), (1, .int a), (2, .int b)]) (st' := [.int ((z3 + b)), .ref 179]) rfl ?_
  refine En_top (addI rfl rfl (by omega) (by omega)) (fun z5 h6 => ?_)
  refine En_lald (l := (-9223372036854775808)) (u := 9223372036854775807) rfl rfl (by decide +kernel : TG 179 = 55) (by decide +kernel) hσ0 (by omega) (lnI (by decide +kernel : LN _ = 240) (by omega)) (FTsgl (by decide +kernel)) (fun z8 h7 h9 h10 => ?_)
  exact En_ret (v := some (.long z8)) rfl rfl rfl ⟨hσ0, hF0, z8, rfl, trivial⟩
/-- DoorSchoolModel.isKnock(J)Z -/
abbrev P_259 (σ0 : SG) (a : Int64) : PO := fun v σ => WT σ ∧ Fr [] σ0 σ ∧ ∃ ret : Int32, v = some (.int ret) ∧ -ret.toInt ≤ 0 ∧ ret.toInt - 1 ≤ 0 ∧ (-ret.toInt + 1 ≤ 0 → -a.toInt ≤ 0 ∧ a.toInt - 15 ≤ 0)
set_option maxRecDepth 10000 in
set_option maxHeartbeats 4000000 in
theorem c_259 (σ0 : SG) (hσ0 : WT σ0) (a : Int64) : En 2 40 none mr_259 (P_259 σ0 a) 0 [(0, .ref 159), (1, .long a)] [] σ0 := by
  have hF0 : Fr [] σ0 σ0 := Fr_rfl
  refine En_Ps 3 (pc' := 3) (lv' := [(0, .ref 159), (1, .long a)]) (st' := [.ref 159, .long ((Int64.ofNat 0)), .long a]) rfl ?_
  obtain ⟨z2, h1, h3, h4⟩ := WT_peekI hσ0 (by decide +kernel : TG 160 = 36) (by decide +kernel : FT 36 (0 : Int).toNat = (0, 0, 4)) (by decide +kernel)
  obtain ⟨z6, h5, h7, h8⟩ := WT_peekI hσ0 (by decide +kernel : TG 160 = 36) (by decide +kernel : FT 36 (7 : Int).toNat = (0, 0, 1600)) (by decide +kernel)
  refine En_callV rfl rfl rfl rfl rfl rfl rfl rfl (by decide +kernel : TG 159 = 35) (by decide +kernel) rfl (c_269 σ0 hσ0 z2 h1 z6 h5) (by decide) (by decide) (fun v10 σ11 h9 => ?_)
  obtain ⟨h12, h13, z15, rfl, h14⟩ := h9
  have h16 := Fr_trans hF0 h13 (by decide +kernel)
  refine En_Ps 2 (pc' := 8) (lv' := [(0, .ref 159), (1, .long a)]) (st' := [.int ((z15 - ((Int32.ofInt 1)))), .long ((Int64.ofNat 0)), .long a]) rfl ?_
  refine En_top (subI rfl (by decide : (Int32.ofInt 1).toInt = 1) (by omega) (by omega)) (fun z17 h18 => ?_)
  refine En_Ps 1 (pc' := 9) (lv' := [(0, .ref 159), (1, .long a)]) (st' := [.long z17.toInt64, .long ((Int64.ofNat 0)), .long a]) rfl ?_
  have := (by decide : ((Int64.ofNat 0)).toInt = 0)
  have : z17.toInt64.toInt = z17.toInt := (i2lI rfl)
  refine En_callS rfl rfl rfl rfl rfl rfl rfl rfl rfl (c_249 σ11 h12 a ((Int64.ofNat 0)) z17.toInt64) (by decide) (by decide) (fun v20 σ21 h19 => ?_)
  obtain ⟨h22, h23, z25, rfl, h24⟩ := h19
  have h26 := Fr_trans h16 h23 (by decide +kernel)
  exact En_ret (v := some (.int z25)) rfl rfl (retZ rfl rfl (by omega) (by omega)) ⟨h22, h26, z25, rfl, (by omega)⟩
/-- DoorSchoolModel.put(II)V -/
abbrev P_298 (σ0 : SG) (a : Int32) (b : Int32) : PO := fun v σ => WT σ ∧ Fr [(49, 0), (50, 0)] σ0 σ ∧ v = none ∧ True
set_option maxRecDepth 10000 in
set_option maxHeartbeats 4000000 in
theorem c_298 (σ0 : SG) (hσ0 : WT σ0) (a : Int32) (b : Int32) (hl_a : 0 ≤ a.toInt) (hu_a : a.toInt ≤ 5) (hl_b : 0 ≤ b.toInt) (hu_b : b.toInt ≤ 111) : En 1 21 none mr_298 (P_298 σ0 a b) 0 [(0, .ref 159), (1, .int a), (2, .int b)] [] σ0 := by
  have hF0 : Fr [(49, 0), (50, 0)] σ0 σ0 := Fr_rfl
  refine En_Ps 1 (pc' := 1) (lv' := [(0, .ref 159), (1, .int a), (2, .int b)]) (st' := [.ref 159]) rfl ?_
  refine En_getU (j := 27) (u := 173) (g' := 49) (q := 0) rfl rfl rfl (by decide +kernel : TG 159 = 35) (by decide +kernel) hσ0 (by decide +kernel) (by decide +kernel) (fun h1 => ?_)
  refine En_Ps 2 (pc' := 6) (lv' := [(0, .ref 159), (1, .int a), (2, .int b)]) (st' := [.int b, .int a, .ref 173]) rfl ?_
  refine En_iast (l := (-2147483648)) (u := 2147483647) rfl rfl (by decide +kernel : TG 173 = 49) (by decide +kernel) (by omega) (lnI (by decide +kernel : LN _ = 6) (by omega)) (FTsgl (by decide +kernel)) (fullI _) hσ0 hF0 (by decide +kernel) (fun σ3 h4 h5 h6 h7 => ?_)
  refine En_Ps 2 (pc' := 9) (lv' := [(3, .int b), (0, .ref 159), (1, .int a), (2, .int b)]) (st' := []) rfl ?_
  have key9 : ∀ (n9 : Nat) (σ9 : SG) (y8 : Int32), WT σ9 → Fr [(49, 0), (50, 0)] σ0 σ9 → (σ9 159)[27]? = some (.ref 173) → 0 ≤ y8.toInt → y8.toInt ≤ 127 → b.toInt - y8.toInt ≤ 0 → -y8.toInt + 127 < (n9 : Int) → En 1 21 none mr_298 (P_298 σ0 a b) 9 [(0, .ref 159), (1, .int a), (2, .int b), (3, .int y8)] [] σ9 := by
    intro n9
    induction n9 with
    | zero =>
      intro σ9 y8 h10 h11 h12 h13 h14 h15 h16
      exfalso; omega
    | succ n9 ih9 =>
      intro σ9 y8 h10 h11 h12 h13 h14 h15 h16
      refine En_Ps 4 (pc' := 13) (lv' := [(0, .ref 159), (1, .int a), (2, .int b), (3, .int y8)]) (st' := [.int a, .ref 159, .int b, .int y8]) rfl ?_
      refine En_callV rfl rfl rfl rfl rfl rfl rfl rfl (by decide +kernel : TG 159 = 35) (by decide +kernel) rfl (c_319 σ9 h10 a (geI rfl (by omega)) (leI rfl (by omega))) (by decide) (by decide) (fun v18 σ19 h17 => ?_)
      obtain ⟨h20, h21, z23, rfl, h22⟩ := h17
      have h24 := Fr_trans h11 h21 (by decide +kernel)
      refine En_Ps 1 (pc' := 17) (lv' := [(0, .ref 159), (1, .int a), (2, .int b), (3, .int y8)]) (st' := [.int ((b + z23)), .int y8]) rfl ?_
      refine En_top (addI rfl rfl (by omega) (by omega)) (fun z25 h26 => ?_)
      refine En_icGe _ rfl rfl rfl (fun h27 => ?_) (fun h27 => ?_)
      · exact En_ret (v := none) rfl rfl rfl ⟨h20, h24, rfl, trivial⟩
      · refine En_Ps 1 (pc' := 21) (lv' := [(0, .ref 159), (1, .int a), (2, .int b), (3, .int y8)]) (st' := [.ref 159]) rfl ?_
        refine En_getU (j := 28) (u := 174) (g' := 50) (q := 0) rfl rfl rfl (by decide +kernel : TG 159 = 35) (by decide +kernel) h20 (by decide +kernel) (by decide +kernel) (fun h28 => ?_)
        refine En_Ps 2 (pc' := 26) (lv' := [(0, .ref 159), (1, .int a), (2, .int b), (3, .int y8)]) (st' := [.int y8, .ref 174, .int y8, .ref 174]) rfl ?_
        refine En_iald (l := (-2147483648)) (u := 2147483647) rfl rfl (by decide +kernel : TG 174 = 50) (by decide +kernel) h20 (by omega) (lnI (by decide +kernel : LN _ = 120) (by omega)) (FTsgl (by decide +kernel)) (fun z31 h30 h32 h33 => ?_)
        refine En_Ps 2 (pc' := 29) (lv' := [(0, .ref 159), (1, .int a), (2, .int b), (3, .int y8)]) (st' := [.int ((z31 + ((Int32.ofInt 1)))), .int y8, .ref 174]) rfl ?_
        refine En_hav (fun z34 => ?_)
        refine En_iast (l := (-2147483648)) (u := 2147483647) rfl rfl (by decide +kernel : TG 174 = 50) (by decide +kernel) (by omega) (lnI (by decide +kernel : LN _ = 120) (by omega)) (FTsgl (by decide +kernel)) (fullI _) h20 h24 (by decide +kernel) (fun σ35 h36 h37 h38 h39 => ?_)
        refine En_Ps 1 (pc' := 33) (lv' := [(3, .int ((y8 + Int32.ofInt 1))), (0, .ref 159), (1, .int a), (2, .int b)]) (st' := []) rfl ?_
        refine En_lv1 (addI rfl (by decide : (Int32.ofInt 1).toInt = 1) (by omega) (by omega)) (fun z40 h41 => ?_)
        refine En_Ps 1 (pc' := 9) (lv' := [(3, .int z40), (0, .ref 159), (1, .int a), (2, .int b)]) (st' := []) rfl ?_
        refine En_lv (lv := [(0, .ref 159), (1, .int a), (2, .int b), (3, .int z40)]) ⟨rfl, rfl, rfl, rfl, trivial⟩ ?_
        exact ih9 σ35 z40 h36 h37 ((h39 _ _ (Or.inl (neTG (by decide +kernel : TG 159 = 35) (by decide +kernel : TG 174 = 50) (by decide)))).trans ((h21 _ _ (inW (by decide +kernel : TG 159 = 35) (by decide +kernel))).trans h12)) (by omega) (by omega) (by omega) (by omega)
  refine En_lv (lv := [(0, .ref 159), (1, .int a), (2, .int b), (3, .int b)]) ⟨rfl, rfl, rfl, rfl, trivial⟩ ?_
  exact key9 (Int.toNat (-b.toInt + 127) + 1) σ3 b h4 h5 ((h7 _ _ (Or.inl (neTG (by decide +kernel : TG 159 = 35) (by decide +kernel : TG 173 = 49) (by decide)))).trans h1) (by omega) (by omega) (by omega) (by omega)
/-- DoorSchoolModel.isFree(III)Z -/
abbrev P_256 (σ0 : SG) (a : Int32) (b : Int32) (c : Int32) : PO := fun v σ => WT σ ∧ Fr [] σ0 σ ∧ ∃ ret : Int32, v = some (.int ret) ∧ -ret.toInt ≤ 0 ∧ ret.toInt - 1 ≤ 0 ∧ (ret.toInt ≤ 0 ∧ -ret.toInt ≤ 0 → c.toInt - 2147483647 ≤ 0)
set_option maxRecDepth 10000 in
set_option maxHeartbeats 4000000 in
theorem c_256 (σ0 : SG) (hσ0 : WT σ0) (a : Int32) (b : Int32) (c : Int32) (hl_a : 0 ≤ a.toInt) (hu_a : a.toInt ≤ 111) (hl_b : 0 ≤ b.toInt) (hu_b : b.toInt ≤ 5) : En 1 21 none mr_256 (P_256 σ0 a b c) 0 [(0, .ref 159), (1, .int a), (2, .int b), (3, .int c)] [] σ0 := by
  have hF0 : Fr [] σ0 σ0 := Fr_rfl
  refine En_Ps 2 (pc' := 3) (lv' := [(4, .int a), (0, .ref 159), (1, .int a), (2, .int b), (3, .int c)]) (st' := []) rfl ?_
  have key3 : ∀ (n3 : Nat) (σ2 : SG) (y1 : Int32), WT σ2 → Fr [] σ0 σ2 → 0 ≤ y1.toInt → y1.toInt ≤ 127 → a.toInt - y1.toInt ≤ 0 → -y1.toInt + 127 < (n3 : Int) → En 1 21 none mr_256 (P_256 σ0 a b c) 3 [(0, .ref 159), (1, .int a), (2, .int b), (3, .int c), (4, .int y1)] [] σ2 := by
    intro n3
    induction n3 with
    | zero =>
      intro σ2 y1 h3 h4 h5 h6 h7 h8
      exfalso; omega
    | succ n3 ih3 =>
      intro σ2 y1 h3 h4 h5 h6 h7 h8
      refine En_Ps 4 (pc' := 8) (lv' := [(0, .ref 159), (1, .int a), (2, .int b), (3, .int c), (4, .int y1)]) (st' := [.int b, .ref 159, .int a, .int y1]) rfl ?_
      refine En_callV rfl rfl rfl rfl rfl rfl rfl rfl (by decide +kernel : TG 159 = 35) (by decide +kernel) rfl (c_319 σ2 h3 b (geI rfl (by omega)) (leI rfl (by omega))) (by decide) (by decide) (fun v10 σ11 h9 => ?_)
      obtain ⟨h12, h13, z15, rfl, h14⟩ := h9
      have h16 := Fr_trans h4 h13 (by decide +kernel)
      refine En_Ps 1 (pc' := 12) (lv' := [(0, .ref 159), (1, .int a), (2, .int b), (3, .int c), (4, .int y1)]) (st' := [.int ((a + z15)), .int y1]) rfl ?_
      refine En_top (addI rfl rfl (by omega) (by omega)) (fun z17 h18 => ?_)
      refine En_icGe _ rfl rfl rfl (fun h19 => ?_) (fun h19 => ?_)
      · refine En_Ps 1 (pc' := 35) (lv' := [(0, .ref 159), (1, .int a), (2, .int b), (3, .int c), (4, .int y1)]) (st' := [.int ((Int32.ofInt 1))]) rfl ?_
        refine En_top (by decide : (Int32.ofInt 1).toInt = 1) (fun z20 h21 => ?_)
        exact En_ret (v := some (.int z20)) rfl rfl (retZ rfl rfl (by omega) (by omega)) ⟨h12, h16, z20, rfl, (by omega)⟩
      · refine En_Ps 1 (pc' := 16) (lv' := [(0, .ref 159), (1, .int a), (2, .int b), (3, .int c), (4, .int y1)]) (st' := [.ref 159]) rfl ?_
        refine En_getU (j := 28) (u := 174) (g' := 50) (q := 0) rfl rfl rfl (by decide +kernel : TG 159 = 35) (by decide +kernel) h12 (by decide +kernel) (by decide +kernel) (fun h22 => ?_)
        refine En_Ps 1 (pc' := 21) (lv' := [(0, .ref 159), (1, .int a), (2, .int b), (3, .int c), (4, .int y1)]) (st' := [.int y1, .ref 174]) rfl ?_
        refine En_iald (l := (-2147483648)) (u := 2147483647) rfl rfl (by decide +kernel : TG 174 = 50) (by decide +kernel) h12 (by omega) (lnI (by decide +kernel : LN _ = 120) (by omega)) (FTsgl (by decide +kernel)) (fun z25 h24 h26 h27 => ?_)
        refine En_Ps 1 (pc' := 23) (lv' := [(0, .ref 159), (1, .int a), (2, .int b), (3, .int c), (4, .int y1)]) (st' := [.int c, .int z25]) rfl ?_
        refine En_icLt _ rfl rfl rfl (fun h28 => ?_) (fun h28 => ?_)
        · refine En_Ps 1 (pc' := 31) (lv' := [(4, .int ((y1 + Int32.ofInt 1))), (0, .ref 159), (1, .int a), (2, .int b), (3, .int c)]) (st' := []) rfl ?_
          refine En_lv1 (addI rfl (by decide : (Int32.ofInt 1).toInt = 1) (by omega) (by omega)) (fun z29 h30 => ?_)
          refine En_Ps 1 (pc' := 3) (lv' := [(4, .int z29), (0, .ref 159), (1, .int a), (2, .int b), (3, .int c)]) (st' := []) rfl ?_
          refine En_lv (lv := [(0, .ref 159), (1, .int a), (2, .int b), (3, .int c), (4, .int z29)]) ⟨rfl, rfl, rfl, rfl, rfl, trivial⟩ ?_
          exact ih3 σ11 z29 h12 h16 (by omega) (by omega) (by omega) (by omega)
        · refine En_Ps 1 (pc' := 27) (lv' := [(0, .ref 159), (1, .int a), (2, .int b), (3, .int c), (4, .int y1)]) (st' := [.int ((Int32.ofInt 0))]) rfl ?_
          refine En_top (by decide : (Int32.ofInt 0).toInt = 0) (fun z31 h32 => ?_)
          exact En_ret (v := some (.int z31)) rfl rfl (retZ rfl rfl (by omega) (by omega)) ⟨h12, h16, z31, rfl, (by omega)⟩
  refine En_lv (lv := [(0, .ref 159), (1, .int a), (2, .int b), (3, .int c), (4, .int a)]) ⟨rfl, rfl, rfl, rfl, rfl, trivial⟩ ?_
  exact key3 (Int.toNat (-a.toInt + 127) + 1) σ0 a hσ0 hF0 (by omega) (by omega) (by omega) (by omega)
/-- DoorSchoolModel.isRight(II)Z -/
abbrev P_262 (σ0 : SG) (a : Int32) (b : Int32) : PO := fun v σ => WT σ ∧ Fr [] σ0 σ ∧ ∃ ret : Int32, v = some (.int ret) ∧ -ret.toInt ≤ 0 ∧ ret.toInt - 1 ≤ 0
set_option maxRecDepth 10000 in
set_option maxHeartbeats 4000000 in
theorem c_262 (σ0 : SG) (hσ0 : WT σ0) (a : Int32) (b : Int32) (hl_b : 0 ≤ b.toInt) (hu_b : b.toInt ≤ 11) : En 1 21 none mr_262 (P_262 σ0 a b) 0 [(0, .ref 159), (1, .int a), (2, .int b)] [] σ0 := by
  have hF0 : Fr [] σ0 σ0 := Fr_rfl
  refine En_Ps 2 (pc' := 2) (lv' := [(0, .ref 159), (1, .int a), (2, .int b)]) (st' := [.ref 159, .int a]) rfl ?_
  refine En_getU (j := 1) (u := 160) (g' := 36) (q := 0) rfl rfl rfl (by decide +kernel : TG 159 = 35) (by decide +kernel) hσ0 (by decide +kernel) (by decide +kernel) (fun h1 => ?_)
  refine En_Ps 4 (pc' := 10) (lv' := [(0, .ref 159), (1, .int a), (2, .int b)]) (st' := [.int ((((Int32.ofInt 2)) * b)), .int (((Int8.ofInt 122).toInt32)), .ref 160, .int a]) rfl ?_
  refine En_top (mulI (by decide : (Int32.ofInt 2).toInt = 2) rfl (Z := 2 * b.toInt) (by omega) (by omega) (by omega)) (fun z3 h4 => ?_)
  refine En_Ps 1 (pc' := 11) (lv' := [(0, .ref 159), (1, .int a), (2, .int b)]) (st' := [.int (((((Int8.ofInt 122).toInt32)) + z3)), .ref 160, .int a]) rfl ?_
  refine En_top (addI (by decide : ((Int8.ofInt 122).toInt32).toInt = 122) rfl (by omega) (by omega)) (fun z5 h6 => ?_)
  refine En_iald (l := 0) (u := 15) rfl rfl (by decide +kernel : TG 160 = 36) (by decide +kernel) hσ0 (by omega) (lnI (by decide +kernel : LN _ = 226) (by omega)) (FTrow 36 122 2 12 (by decide +kernel) (by omega) (by omega) (by omega)) (fun z8 h7 h9 h10 => ?_)
  refine En_callS rfl rfl rfl rfl rfl rfl rfl rfl rfl (c_202 σ0 hσ0 a z8) (by decide) (by decide) (fun v12 σ13 h11 => ?_)
  obtain ⟨h14, h15, z17, rfl, h16⟩ := h11
  have h18 := Fr_trans hF0 h15 (by decide +kernel)
  refine En_Ps 1 (pc' := 16) (lv' := [(0, .ref 159), (1, .int a), (2, .int b)]) (st' := [.ref 159, .int z17]) rfl ?_
  refine En_getK (j := 1) ((h15 _ _ (inW (by decide +kernel : TG 159 = 35) (by decide +kernel))).trans h1) rfl rfl rfl (by decide +kernel : TG 159 = 35) (by decide +kernel) ?_
  refine En_Ps 4 (pc' := 24) (lv' := [(0, .ref 159), (1, .int a), (2, .int b)]) (st' := [.int ((((Int32.ofInt 2)) * b)), .int (((Int8.ofInt 122).toInt32)), .ref 160, .int z17]) rfl ?_
  refine En_top (mulI (by decide : (Int32.ofInt 2).toInt = 2) rfl (Z := 2 * b.toInt) (by omega) (by omega) (by omega)) (fun z19 h20 => ?_)
  refine En_Ps 1 (pc' := 25) (lv' := [(0, .ref 159), (1, .int a), (2, .int b)]) (st' := [.int (((((Int8.ofInt 122).toInt32)) + z19)), .ref 160, .int z17]) rfl ?_
  refine En_top (addI (by decide : ((Int8.ofInt 122).toInt32).toInt = 122) rfl (by omega) (by omega)) (fun z21 h22 => ?_)
  refine En_Ps 2 (pc' := 27) (lv' := [(0, .ref 159), (1, .int a), (2, .int b)]) (st' := [.int ((z21 + ((Int32.ofInt 1)))), .ref 160, .int z17]) rfl ?_
  refine En_top (addI rfl (by decide : (Int32.ofInt 1).toInt = 1) (by omega) (by omega)) (fun z23 h24 => ?_)
  refine En_iald (l := 0) (u := 1) rfl rfl (by decide +kernel : TG 160 = 36) (by decide +kernel) h14 (by omega) (lnI (by decide +kernel : LN _ = 226) (by omega)) (FTrow 36 123 2 12 (by decide +kernel) (by omega) (by omega) (by omega)) (fun z26 h25 h27 h28 => ?_)
  refine En_icNe _ rfl rfl rfl (fun h29 => ?_) (fun h29 => ?_)
  · refine En_Ps 1 (pc' := 36) (lv' := [(0, .ref 159), (1, .int a), (2, .int b)]) (st' := [.int ((Int32.ofInt 0))]) rfl ?_
    refine En_top (by decide : (Int32.ofInt 0).toInt = 0) (fun z30 h31 => ?_)
    exact En_ret (v := some (.int z30)) rfl rfl (retZ rfl rfl (by omega) (by omega)) ⟨h14, h18, z30, rfl, (by omega)⟩
  · refine En_Ps 2 (pc' := 36) (lv' := [(0, .ref 159), (1, .int a), (2, .int b)]) (st' := [.int ((Int32.ofInt 1))]) rfl ?_
    refine En_top (by decide : (Int32.ofInt 1).toInt = 1) (fun z32 h33 => ?_)
    exact En_ret (v := some (.int z32)) rfl rfl (retZ rfl rfl (by omega) (by omega)) ⟨h14, h18, z32, rfl, (by omega)⟩
/-- DoorSchoolModel.marksBy(I)I -/
abbrev P_283 (σ0 : SG) (a : Int32) : PO := fun v σ => WT σ ∧ Fr [] σ0 σ ∧ ∃ ret : Int32, v = some (.int ret) ∧ -ret.toInt ≤ 0 ∧ ret.toInt - 13 ≤ 0
set_option maxRecDepth 10000 in
set_option maxHeartbeats 4000000 in
theorem c_283 (σ0 : SG) (hσ0 : WT σ0) (a : Int32) : En 2 43 none mr_283 (P_283 σ0 a) 0 [(0, .ref 159), (1, .int a)] [] σ0 := by
  have hF0 : Fr [] σ0 σ0 := Fr_rfl
  refine En_Ps 4 (pc' := 4) (lv' := [(3, .int ((Int32.ofInt 0))), (2, .int ((Int32.ofInt 0))), (0, .ref 159), (1, .int a)]) (st' := []) rfl ?_
  have key4 : ∀ (n4 : Nat) (σ3 : SG) (y1 : Int32) (y2 : Int32), WT σ3 → Fr [] σ0 σ3 → 0 ≤ y1.toInt → y1.toInt ≤ 13 → 0 ≤ y2.toInt → y2.toInt ≤ 13 → y1.toInt - y2.toInt ≤ 0 → -y2.toInt + 13 < (n4 : Int) → En 2 43 none mr_283 (P_283 σ0 a) 4 [(0, .ref 159), (1, .int a), (2, .int y1), (3, .int y2)] [] σ3 := by
    intro n4
    induction n4 with
    | zero =>
      intro σ3 y1 y2 h4 h5 h6 h7 h8 h9 h10 h11
      exfalso; omega
    | succ n4 ih4 =>
      intro σ3 y1 y2 h4 h5 h6 h7 h8 h9 h10 h11
      refine En_Ps 2 (pc' := 6) (lv' := [(0, .ref 159), (1, .int a), (2, .int y1), (3, .int y2)]) (st' := [.ref 159, .int y2]) rfl ?_
      refine En_getU (j := 1) (u := 160) (g' := 36) (q := 0) rfl rfl rfl (by decide +kernel : TG 159 = 35) (by decide +kernel) h4 (by decide +kernel) (by decide +kernel) (fun h12 => ?_)
      refine En_Ps 1 (pc' := 10) (lv' := [(0, .ref 159), (1, .int a), (2, .int y1), (3, .int y2)]) (st' := [.int ((Int32.ofInt 3)), .ref 160, .int y2]) rfl ?_
      refine En_iald (l := 0) (u := 12) rfl (by decide : (Int32.ofInt 3).toInt = 3) (by decide +kernel : TG 160 = 36) (by decide +kernel) h4 (by omega) (lnI (by decide +kernel : LN _ = 226) (by omega)) (by decide +kernel) (fun z15 h14 h16 h17 => ?_)
      refine En_icGe _ rfl rfl rfl (fun h18 => ?_) (fun h18 => ?_)
      · refine En_Ps 1 (pc' := 38) (lv' := [(0, .ref 159), (1, .int a), (2, .int y1), (3, .int y2)]) (st' := [.int y1]) rfl ?_
        exact En_ret (v := some (.int y1)) rfl rfl rfl ⟨h4, h5, y1, rfl, (by omega)⟩
      · refine En_Ps 4 (pc' := 18) (lv' := [(0, .ref 159), (1, .int a), (2, .int y1), (3, .int y2)]) (st' := [.int y2, .int a, .ref 159, .int y1]) rfl ?_
        refine En_callV rfl rfl rfl rfl rfl rfl rfl rfl (by decide +kernel : TG 159 = 35) (by decide +kernel) rfl (c_262 σ3 h4 a y2 (geI rfl (by omega)) (leI rfl (by omega))) (by decide) (by decide) (fun v20 σ21 h19 => ?_)
        obtain ⟨h22, h23, z25, rfl, h24⟩ := h19
        have h26 := Fr_trans h5 h23 (by decide +kernel)
        refine En_iEq _ rfl rfl (fun h27 => ?_) (fun h27 => ?_)
        · refine En_Ps 2 (pc' := 30) (lv' := [(0, .ref 159), (1, .int a), (2, .int y1), (3, .int y2)]) (st' := [.int ((y1 + ((Int32.ofInt 0))))]) rfl ?_
          refine En_top (addI rfl (by decide : (Int32.ofInt 0).toInt = 0) (by omega) (by omega)) (fun z28 h29 => ?_)
          refine En_Ps 2 (pc' := 34) (lv' := [(3, .int ((y2 + Int32.ofInt 1))), (2, .int z28), (0, .ref 159), (1, .int a)]) (st' := []) rfl ?_
          refine En_lv1 (addI rfl (by decide : (Int32.ofInt 1).toInt = 1) (by omega) (by omega)) (fun z30 h31 => ?_)
          refine En_Ps 1 (pc' := 4) (lv' := [(3, .int z30), (2, .int z28), (0, .ref 159), (1, .int a)]) (st' := []) rfl ?_
          refine En_lv (lv := [(0, .ref 159), (1, .int a), (2, .int z28), (3, .int z30)]) ⟨rfl, rfl, rfl, rfl, trivial⟩ ?_
          exact ih4 σ21 z28 z30 h22 h26 (by omega) (by omega) (by omega) (by omega) (by omega) (by omega)
        · refine En_Ps 3 (pc' := 30) (lv' := [(0, .ref 159), (1, .int a), (2, .int y1), (3, .int y2)]) (st' := [.int ((y1 + ((Int32.ofInt 1))))]) rfl ?_
          refine En_top (addI rfl (by decide : (Int32.ofInt 1).toInt = 1) (by omega) (by omega)) (fun z32 h33 => ?_)
          refine En_Ps 2 (pc' := 34) (lv' := [(3, .int ((y2 + Int32.ofInt 1))), (2, .int z32), (0, .ref 159), (1, .int a)]) (st' := []) rfl ?_
          refine En_lv1 (addI rfl (by decide : (Int32.ofInt 1).toInt = 1) (by omega) (by omega)) (fun z34 h35 => ?_)
          refine En_Ps 1 (pc' := 4) (lv' := [(3, .int z34), (2, .int z32), (0, .ref 159), (1, .int a)]) (st' := []) rfl ?_
          refine En_lv (lv := [(0, .ref 159), (1, .int a), (2, .int z32), (3, .int z34)]) ⟨rfl, rfl, rfl, rfl, trivial⟩ ?_
          exact ih4 σ21 z32 z34 h22 h26 (by omega) (by omega) (by omega) (by omega) (by omega) (by omega)
  have := (by decide : (Int32.ofInt 0).toInt = 0)
  have := (by decide : (Int32.ofInt 0).toInt = 0)
  refine En_lv (lv := [(0, .ref 159), (1, .int a), (2, .int ((Int32.ofInt 0))), (3, .int ((Int32.ofInt 0)))]) ⟨rfl, rfl, rfl, rfl, trivial⟩ ?_
  exact key4 (Int.toNat (13) + 1) σ0 ((Int32.ofInt 0)) ((Int32.ofInt 0)) hσ0 hF0 (by omega) (by omega) (by omega) (by omega) (by omega) (by omega)
/-- DoorSchoolModel.best()I -/
abbrev P_201 (σ0 : SG) : PO := fun v σ => WT σ ∧ Fr [(35, 18), (35, 21), (42, 0), (43, 0), (44, 0), (45, 0), (46, 0)] σ0 σ ∧ ∃ ret : Int32, v = some (.int ret) ∧ -ret.toInt - 2 ≤ 0 ∧ ret.toInt - 3 ≤ 0
set_option maxRecDepth 10000 in
set_option maxHeartbeats 4000000 in
theorem c_201 (σ0 : SG) (hσ0 : WT σ0) : En 5 112 none mr_201 (P_201 σ0) 0 [(0, .ref 159)] [] σ0 := by
  have hF0 : Fr [(35, 18), (35, 21), (42, 0), (43, 0), (44, 0), (45, 0), (46, 0)] σ0 σ0 := Fr_rfl
  refine En_Ps 1 (pc' := 1) (lv' := [(0, .ref 159)]) (st' := [.ref 159]) rfl ?_
  obtain ⟨z2, h1, h3, h4⟩ := WT_peekI hσ0 (by decide +kernel : TG 160 = 36) (by decide +kernel : FT 36 (7 : Int).toNat = (0, 0, 1600)) (by decide +kernel)
  refine En_callV rfl rfl rfl rfl rfl rfl rfl rfl (by decide +kernel : TG 159 = 35) (by decide +kernel) rfl (c_264 σ0 hσ0 z2 h1) (by decide) (by decide) (fun v6 σ7 h5 => ?_)
  obtain ⟨h8, h9, z11, rfl, h10⟩ := h5
  have h12 := Fr_trans hF0 h9 (by decide +kernel)
  refine En_iNe _ rfl rfl (fun h13 => ?_) (fun h13 => ?_)
  · refine En_Ps 4 (pc' := 14) (lv' := [(2, .int ((Int32.ofInt 0))), (1, .int ((Int32.ofInt (-1)))), (0, .ref 159)]) (st' := []) rfl ?_
    have key14 : ∀ (n14 : Nat) (σ16 : SG) (y14 : Int32) (y15 : Int32), WT σ16 → Fr [(35, 18), (35, 21), (42, 0), (43, 0), (44, 0), (45, 0), (46, 0)] σ0 σ16 → (σ16 160)[(7 : Int).toNat]? = some (.int z2) → (-1) ≤ y14.toInt → y14.toInt ≤ 3 → 0 ≤ y15.toInt → y15.toInt ≤ 4 → y14.toInt - y15.toInt + 1 ≤ 0 → -y15.toInt + 4 < (n14 : Int) → En 5 112 none mr_201 (P_201 σ0) 14 [(0, .ref 159), (1, .int y14), (2, .int y15)] [] σ16 := by
      intro n14
      induction n14 with
      | zero =>
        intro σ16 y14 y15 h17 h18 h19 h20 h21 h22 h23 h24 h25
        exfalso; omega
      | succ n14 ih14 =>
        intro σ16 y14 y15 h17 h18 h19 h20 h21 h22 h23 h24 h25
        refine En_Ps 2 (pc' := 16) (lv' := [(0, .ref 159), (1, .int y14), (2, .int y15)]) (st' := [.ref 159, .int y15]) rfl ?_
        refine En_getU (j := 1) (u := 160) (g' := 36) (q := 0) rfl rfl rfl (by decide +kernel : TG 159 = 35) (by decide +kernel) h17 (by decide +kernel) (by decide +kernel) (fun h26 => ?_)
        refine En_Ps 1 (pc' := 20) (lv' := [(0, .ref 159), (1, .int y14), (2, .int y15)]) (st' := [.int ((Int32.ofInt 2)), .ref 160, .int y15]) rfl ?_
        refine En_iald (l := 0) (u := 4) rfl (by decide : (Int32.ofInt 2).toInt = 2) (by decide +kernel : TG 160 = 36) (by decide +kernel) h17 (by omega) (lnI (by decide +kernel : LN _ = 226) (by omega)) (by decide +kernel) (fun z29 h28 h30 h31 => ?_)
        refine En_icGe _ rfl rfl rfl (fun h32 => ?_) (fun h32 => ?_)
        · refine En_Ps 1 (pc' := 59) (lv' := [(0, .ref 159), (1, .int y14), (2, .int y15)]) (st' := [.int y14]) rfl ?_
          exact En_ret (v := some (.int y14)) rfl rfl rfl ⟨h17, h18, y14, rfl, (by omega)⟩
        · refine En_Ps 2 (pc' := 26) (lv' := [(0, .ref 159), (1, .int y14), (2, .int y15)]) (st' := [.int ((Int32.ofInt (-1))), .int y14]) rfl ?_
          refine En_icEq _ rfl (by decide : (Int32.ofInt (-1)).toInt = -1) rfl (fun h33 => ?_) (fun h33 => ?_)
          · refine En_Ps 3 (pc' := 55) (lv' := [(2, .int ((y15 + Int32.ofInt 1))), (1, .int y15), (0, .ref 159)]) (st' := []) rfl ?_
            refine En_lv1 (addI rfl (by decide : (Int32.ofInt 1).toInt = 1) (by omega) (by omega)) (fun z34 h35 => ?_)
            refine En_Ps 1 (pc' := 14) (lv' := [(2, .int z34), (1, .int y15), (0, .ref 159)]) (st' := []) rfl ?_
            refine En_lv (lv := [(0, .ref 159), (1, .int y15), (2, .int z34)]) ⟨rfl, rfl, rfl, trivial⟩ ?_
            exact ih14 σ16 y15 z34 h17 h18 h19 (by omega) (by omega) (by omega) (by omega) (by omega) (by omega)
          · refine En_Ps 3 (pc' := 32) (lv' := [(0, .ref 159), (1, .int y14), (2, .int y15)]) (st' := [.int y15, .ref 159, .ref 159]) rfl ?_
            refine En_callV rfl rfl rfl rfl rfl rfl rfl rfl (by decide +kernel : TG 159 = 35) (by decide +kernel) rfl (c_213 σ16 h17 y15 (geI rfl (by omega)) (leI rfl (by omega))) (by decide) (by decide) (fun v37 σ38 h36 => ?_)
            obtain ⟨h39, h40, z42, h43, z44, rfl, h41⟩ := h36
            have h45 := Fr_trans h18 h40 (by decide +kernel)
            refine En_callV rfl rfl rfl rfl rfl rfl rfl rfl (by decide +kernel : TG 159 = 35) (by decide +kernel) rfl (c_283 σ38 h39 z44) (by decide) (by decide) (fun v47 σ48 h46 => ?_)
            obtain ⟨h49, h50, z52, rfl, h51⟩ := h46
            have h53 := Fr_trans h45 h50 (by decide +kernel)
            refine En_Ps 3 (pc' := 41) (lv' := [(0, .ref 159), (1, .int y14), (2, .int y15)]) (st' := [.int y14, .ref 159, .ref 159, .int z52]) rfl ?_
            refine En_callV rfl rfl rfl rfl rfl rfl rfl rfl (by decide +kernel : TG 159 = 35) (by decide +kernel) rfl (c_213 σ48 h49 y14 (geI rfl (by omega)) (leI rfl (by omega))) (by decide) (by decide) (fun v55 σ56 h54 => ?_)
            obtain ⟨h57, h58, z60, h61, z62, rfl, h59⟩ := h54
            have h63 := Fr_trans h53 h58 (by decide +kernel)
            refine En_callV rfl rfl rfl rfl rfl rfl rfl rfl (by decide +kernel : TG 159 = 35) (by decide +kernel) rfl (c_283 σ56 h57 z62) (by decide) (by decide) (fun v65 σ66 h64 => ?_)
            obtain ⟨h67, h68, z70, rfl, h69⟩ := h64
            have h71 := Fr_trans h63 h68 (by decide +kernel)
            refine En_icLe _ rfl rfl rfl (fun h72 => ?_) (fun h72 => ?_)
            · refine En_Ps 1 (pc' := 55) (lv' := [(2, .int ((y15 + Int32.ofInt 1))), (0, .ref 159), (1, .int y14)]) (st' := []) rfl ?_
              refine En_lv1 (addI rfl (by decide : (Int32.ofInt 1).toInt = 1) (by omega) (by omega)) (fun z73 h74 => ?_)
              refine En_Ps 1 (pc' := 14) (lv' := [(2, .int z73), (0, .ref 159), (1, .int y14)]) (st' := []) rfl ?_
              refine En_lv (lv := [(0, .ref 159), (1, .int y14), (2, .int z73)]) ⟨rfl, rfl, rfl, trivial⟩ ?_
              exact ih14 σ66 y14 z73 h67 h71 ((h68 _ _ (inWa (by decide +kernel : TG 160 = 36) (by decide +kernel))).trans ((h58 _ _ (inWa (by decide +kernel : TG 160 = 36) (by decide +kernel))).trans ((h50 _ _ (inWa (by decide +kernel : TG 160 = 36) (by decide +kernel))).trans ((h40 _ _ (inWa (by decide +kernel : TG 160 = 36) (by decide +kernel))).trans h19)))) (by omega) (by omega) (by omega) (by omega) (by omega) (by omega)
            · refine En_Ps 3 (pc' := 55) (lv' := [(2, .int ((y15 + Int32.ofInt 1))), (1, .int y15), (0, .ref 159)]) (st' := []) rfl ?_
              refine En_lv1 (addI rfl (by decide : (Int32.ofInt 1).toInt = 1) (by omega) (by omega)) (fun z75 h76 => ?_)
              refine En_Ps 1 (pc' := 14) (lv' := [(2, .int z75), (1, .int y15), (0, .ref 159)]) (st' := []) rfl ?_
              refine En_lv (lv := [(0, .ref 159), (1, .int y15), (2, .int z75)]) ⟨rfl, rfl, rfl, trivial⟩ ?_
              exact ih14 σ66 y15 z75 h67 h71 ((h68 _ _ (inWa (by decide +kernel : TG 160 = 36) (by decide +kernel))).trans ((h58 _ _ (inWa (by decide +kernel : TG 160 = 36) (by decide +kernel))).trans ((h50 _ _ (inWa (by decide +kernel : TG 160 = 36) (by decide +kernel))).trans ((h40 _ _ (inWa (by decide +kernel : TG 160 = 36) (by decide +kernel))).trans h19)))) (by omega) (by omega) (by omega) (by omega) (by omega) (by omega)
    have := (by decide : (Int32.ofInt (-1)).toInt = -1)
    have := (by decide : (Int32.ofInt 0).toInt = 0)
    refine En_lv (lv := [(0, .ref 159), (1, .int ((Int32.ofInt (-1)))), (2, .int ((Int32.ofInt 0)))]) ⟨rfl, rfl, rfl, trivial⟩ ?_
    exact key14 (Int.toNat (4) + 1) σ7 ((Int32.ofInt (-1))) ((Int32.ofInt 0)) h8 h12 ((h9 _ _ (inWa (by decide +kernel : TG 160 = 36) (by decide +kernel))).trans h1) (by omega) (by omega) (by omega) (by omega) (by omega) (by omega)
  · refine En_Ps 1 (pc' := 9) (lv' := [(0, .ref 159)]) (st' := [.int (((Int8.ofInt (-2)).toInt32))]) rfl ?_
    refine En_top (by decide : ((Int8.ofInt (-2)).toInt32).toInt = -2) (fun z77 h78 => ?_)
    exact En_ret (v := some (.int z77)) rfl rfl rfl ⟨h8, h12, z77, rfl, (by omega)⟩
/-- DoorSchoolModel.isCopied(I)Z -/
abbrev P_253 (σ0 : SG) (a : Int32) : PO := fun v σ => WT σ ∧ Fr [] σ0 σ ∧ ∃ ret : Int32, v = some (.int ret) ∧ -ret.toInt ≤ 0 ∧ ret.toInt - 1 ≤ 0 ∧ (ret.toInt - 1 ≤ 0 ∧ -ret.toInt + 1 ≤ 0 → -a.toInt - 1 ≤ 0 ∧ a.toInt - 3 ≤ 0)
set_option maxRecDepth 10000 in
set_option maxHeartbeats 4000000 in
theorem c_253 (σ0 : SG) (hσ0 : WT σ0) (a : Int32) : En 1 22 none mr_253 (P_253 σ0 a) 0 [(0, .ref 159), (1, .int a)] [] σ0 := by
  have hF0 : Fr [] σ0 σ0 := Fr_rfl
  refine En_Ps 2 (pc' := 2) (lv' := [(2, .int ((Int32.ofInt 0))), (0, .ref 159), (1, .int a)]) (st' := []) rfl ?_
  have key2 : ∀ (n2 : Nat) (σ2 : SG) (y1 : Int32), WT σ2 → Fr [] σ0 σ2 → 0 ≤ y1.toInt → y1.toInt ≤ 4 → -y1.toInt + 4 < (n2 : Int) → En 1 22 none mr_253 (P_253 σ0 a) 2 [(0, .ref 159), (1, .int a), (2, .int y1)] [] σ2 := by
    intro n2
    induction n2 with
    | zero =>
      intro σ2 y1 h3 h4 h5 h6 h7
      exfalso; omega
    | succ n2 ih2 =>
      intro σ2 y1 h3 h4 h5 h6 h7
      refine En_Ps 2 (pc' := 4) (lv' := [(0, .ref 159), (1, .int a), (2, .int y1)]) (st' := [.ref 159, .int y1]) rfl ?_
      refine En_getU (j := 1) (u := 160) (g' := 36) (q := 0) rfl rfl rfl (by decide +kernel : TG 159 = 35) (by decide +kernel) h3 (by decide +kernel) (by decide +kernel) (fun h8 => ?_)
      refine En_Ps 1 (pc' := 8) (lv' := [(0, .ref 159), (1, .int a), (2, .int y1)]) (st' := [.int ((Int32.ofInt 2)), .ref 160, .int y1]) rfl ?_
      refine En_iald (l := 0) (u := 4) rfl (by decide : (Int32.ofInt 2).toInt = 2) (by decide +kernel : TG 160 = 36) (by decide +kernel) h3 (by omega) (lnI (by decide +kernel : LN _ = 226) (by omega)) (by decide +kernel) (fun z11 h10 h12 h13 => ?_)
      refine En_icGe _ rfl rfl rfl (fun h14 => ?_) (fun h14 => ?_)
      · refine En_Ps 1 (pc' := 31) (lv' := [(0, .ref 159), (1, .int a), (2, .int y1)]) (st' := [.int ((Int32.ofInt 0))]) rfl ?_
        refine En_top (by decide : (Int32.ofInt 0).toInt = 0) (fun z15 h16 => ?_)
        exact En_ret (v := some (.int z15)) rfl rfl (retZ rfl rfl (by omega) (by omega)) ⟨h3, h4, z15, rfl, (by omega)⟩
      · refine En_Ps 3 (pc' := 15) (lv' := [(0, .ref 159), (1, .int a), (2, .int y1)]) (st' := [.int ((Int32.ofInt 3)), .int y1, .ref 159]) rfl ?_
        have := (by decide : ((Int32.ofInt 3)).toInt = 3)
        obtain ⟨z17, h18, h19, h20⟩ := WT_peekJ (J := (4 * y1.toInt + ((Int32.ofInt 3)).toInt + 10)) (l := (-1)) (u := 3) h3 (by decide +kernel : TG 160 = 36) (by decide +kernel) (by omega) (lnI (by decide +kernel : LN _ = 226) (by omega)) (FTrow 36 13 4 4 (by decide +kernel) (by omega) (by omega) (by omega))
        have := (by decide : ((Int32.ofInt 3)).toInt = 3)
        refine En_callV rfl rfl rfl rfl rfl rfl rfl rfl (by decide +kernel : TG 159 = 35) (by decide +kernel) rfl (c_290d σ2 h3 y1 ((Int32.ofInt 3)) (geI rfl (by omega)) (leI rfl (by omega)) (geI (by decide : (Int32.ofInt 3).toInt = 3) (by omega)) (leI (by decide : (Int32.ofInt 3).toInt = 3) (by omega)) z17 h18) (by decide) (by decide) (fun v22 σ23 h21 => ?_)
        obtain ⟨h24, h25, z27, rfl, h26⟩ := h21
        have h28 := Fr_trans h4 h25 (by decide +kernel)
        refine En_Ps 1 (pc' := 19) (lv' := [(0, .ref 159), (1, .int a), (2, .int y1)]) (st' := [.int a, .int z27]) rfl ?_
        refine En_icNe _ rfl rfl rfl (fun h29 => ?_) (fun h29 => ?_)
        · refine En_Ps 1 (pc' := 27) (lv' := [(2, .int ((y1 + Int32.ofInt 1))), (0, .ref 159), (1, .int a)]) (st' := []) rfl ?_
          refine En_lv1 (addI rfl (by decide : (Int32.ofInt 1).toInt = 1) (by omega) (by omega)) (fun z30 h31 => ?_)
          refine En_Ps 1 (pc' := 2) (lv' := [(2, .int z30), (0, .ref 159), (1, .int a)]) (st' := []) rfl ?_
          refine En_lv (lv := [(0, .ref 159), (1, .int a), (2, .int z30)]) ⟨rfl, rfl, rfl, trivial⟩ ?_
          exact ih2 σ23 z30 h24 h28 (by omega) (by omega) (by omega)
        · refine En_Ps 1 (pc' := 23) (lv' := [(0, .ref 159), (1, .int a), (2, .int y1)]) (st' := [.int ((Int32.ofInt 1))]) rfl ?_
          refine En_top (by decide : (Int32.ofInt 1).toInt = 1) (fun z32 h33 => ?_)
          exact En_ret (v := some (.int z32)) rfl rfl (retZ rfl rfl (by omega) (by omega)) ⟨h24, h28, z32, rfl, (by omega)⟩
  have := (by decide : (Int32.ofInt 0).toInt = 0)
  refine En_lv (lv := [(0, .ref 159), (1, .int a), (2, .int ((Int32.ofInt 0)))]) ⟨rfl, rfl, rfl, trivial⟩ ?_
  exact key2 (Int.toNat (4) + 1) σ0 ((Int32.ofInt 0)) hσ0 hF0 (by omega) (by omega) (by omega)
/-- DoorSchoolModel.copy(II)I -/
abbrev P_205 (σ0 : SG) (a : Int32) (b : Int32) : PO := fun v σ => WT σ ∧ Fr [(36, 0)] σ0 σ ∧ ∃ ret : Int32, v = some (.int ret) ∧ -ret.toInt - 5 ≤ 0 ∧ ret.toInt - 3 ≤ 0
set_option maxRecDepth 10000 in
set_option maxHeartbeats 4000000 in
theorem c_205 (σ0 : SG) (hσ0 : WT σ0) (a : Int32) (b : Int32) : En 2 46 none mr_205 (P_205 σ0 a b) 0 [(0, .ref 159), (1, .int a), (2, .int b)] [] σ0 := by
  have hF0 : Fr [(36, 0)] σ0 σ0 := Fr_rfl
  refine En_Ps 2 (pc' := 2) (lv' := [(0, .ref 159), (1, .int a), (2, .int b)]) (st' := [.int a, .ref 159]) rfl ?_
  obtain ⟨z2, h1, h3, h4⟩ := WT_peekI hσ0 (by decide +kernel : TG 160 = 36) (by decide +kernel : FT 36 (2 : Int).toNat = (0, 0, 4)) (by decide +kernel)
  refine En_callV rfl rfl rfl rfl rfl rfl rfl rfl (by decide +kernel : TG 159 = 35) (by decide +kernel) rfl (c_254 σ0 hσ0 a z2 h1) (by decide) (by decide) (fun v6 σ7 h5 => ?_)
  obtain ⟨h8, h9, z11, rfl, h10⟩ := h5
  have h12 := Fr_trans hF0 h9 (by decide +kernel)
  refine En_iEq _ rfl rfl (fun h13 => ?_) (fun h13 => ?_)
  · refine En_Ps 1 (pc' := 28) (lv' := [(0, .ref 159), (1, .int a), (2, .int b)]) (st' := [.int (((Int8.ofInt (-2)).toInt32))]) rfl ?_
    refine En_top (by decide : ((Int8.ofInt (-2)).toInt32).toInt = -2) (fun z14 h15 => ?_)
    exact En_ret (v := some (.int z14)) rfl rfl rfl ⟨h8, h12, z14, rfl, (by omega)⟩
  · refine En_Ps 2 (pc' := 10) (lv' := [(0, .ref 159), (1, .int a), (2, .int b)]) (st' := [.int ((Int32.ofInt (-1))), .int b]) rfl ?_
    refine En_icEq _ rfl (by decide : (Int32.ofInt (-1)).toInt = -1) rfl (fun h16 => ?_) (fun h16 => ?_)
    · refine En_Ps 2 (pc' := 23) (lv' := [(0, .ref 159), (1, .int a), (2, .int b)]) (st' := [.int b, .int a]) rfl ?_
      refine En_icNe _ rfl rfl rfl (fun h17 => ?_) (fun hx => by exfalso; omega)
      refine En_Ps 2 (pc' := 31) (lv' := [(0, .ref 159), (1, .int a), (2, .int b)]) (st' := [.int ((Int32.ofInt (-1))), .int b]) rfl ?_
      refine En_icEq _ rfl (by decide : (Int32.ofInt (-1)).toInt = -1) rfl (fun h18 => ?_) (fun hx => by exfalso; omega)
      refine En_Ps 3 (pc' := 58) (lv' := [(0, .ref 159), (1, .int a), (2, .int b)]) (st' := [.int ((Int32.ofInt 3)), .int a, .ref 159]) rfl ?_
      have := (by decide : ((Int32.ofInt 3)).toInt = 3)
      obtain ⟨z19, h20, h21, h22⟩ := WT_peekJ (J := (4 * a.toInt + ((Int32.ofInt 3)).toInt + 10)) (l := (-1)) (u := 3) h8 (by decide +kernel : TG 160 = 36) (by decide +kernel) (by omega) (lnI (by decide +kernel : LN _ = 226) (by omega)) (FTrow 36 13 4 4 (by decide +kernel) (by omega) (by omega) (by omega))
      have := (by decide : ((Int32.ofInt 3)).toInt = 3)
      refine En_callV rfl rfl rfl rfl rfl rfl rfl rfl (by decide +kernel : TG 159 = 35) (by decide +kernel) rfl (c_290d σ7 h8 a ((Int32.ofInt 3)) (geI rfl (by omega)) (leI rfl (by omega)) (geI (by decide : (Int32.ofInt 3).toInt = 3) (by omega)) (leI (by decide : (Int32.ofInt 3).toInt = 3) (by omega)) z19 h20) (by decide) (by decide) (fun v24 σ25 h23 => ?_)
      obtain ⟨h26, h27, z29, rfl, h28⟩ := h23
      have h30 := Fr_trans h12 h27 (by decide +kernel)
      refine En_Ps 2 (pc' := 63) (lv' := [(3, .int z29), (0, .ref 159), (1, .int a), (2, .int b)]) (st' := [.ref 159]) rfl ?_
      refine En_getU (j := 1) (u := 160) (g' := 36) (q := 0) rfl rfl rfl (by decide +kernel : TG 159 = 35) (by decide +kernel) h26 (by decide +kernel) (by decide +kernel) (fun h31 => ?_)
      refine En_Ps 4 (pc' := 71) (lv' := [(3, .int z29), (0, .ref 159), (1, .int a), (2, .int b)]) (st' := [.int ((((Int32.ofInt 4)) * a)), .int (((Int8.ofInt 10).toInt32)), .ref 160]) rfl ?_
      refine En_top (mulI (by decide : (Int32.ofInt 4).toInt = 4) rfl (Z := 4 * a.toInt) (by omega) (by omega) (by omega)) (fun z33 h34 => ?_)
      refine En_Ps 1 (pc' := 72) (lv' := [(3, .int z29), (0, .ref 159), (1, .int a), (2, .int b)]) (st' := [.int (((((Int8.ofInt 10).toInt32)) + z33)), .ref 160]) rfl ?_
      refine En_top (addI (by decide : ((Int8.ofInt 10).toInt32).toInt = 10) rfl (by omega) (by omega)) (fun z35 h36 => ?_)
      refine En_Ps 2 (pc' := 74) (lv' := [(3, .int z29), (0, .ref 159), (1, .int a), (2, .int b)]) (st' := [.int ((z35 + ((Int32.ofInt 3)))), .ref 160]) rfl ?_
      refine En_top (addI rfl (by decide : (Int32.ofInt 3).toInt = 3) (by omega) (by omega)) (fun z37 h38 => ?_)
      refine En_Ps 1 (pc' := 75) (lv' := [(3, .int z29), (0, .ref 159), (1, .int a), (2, .int b)]) (st' := [.int b, .int z37, .ref 160]) rfl ?_
      refine En_iast (l := (-1)) (u := 3) rfl rfl (by decide +kernel : TG 160 = 36) (by decide +kernel) (by omega) (lnI (by decide +kernel : LN _ = 226) (by omega)) (FTrow 36 13 4 4 (by decide +kernel) (by omega) (by omega) (by omega)) (rngI rfl (by omega) (by omega)) h26 h30 (by decide +kernel) (fun σ39 h40 h41 h42 h43 => ?_)
      refine En_Ps 1 (pc' := 77) (lv' := [(3, .int z29), (0, .ref 159), (1, .int a), (2, .int b)]) (st' := [.int z29]) rfl ?_
      exact En_ret (v := some (.int z29)) rfl rfl rfl ⟨h40, h41, z29, rfl, (by omega)⟩
    · refine En_Ps 2 (pc' := 15) (lv' := [(0, .ref 159), (1, .int a), (2, .int b)]) (st' := [.int b, .ref 159]) rfl ?_
      refine En_callV rfl rfl rfl rfl rfl rfl rfl rfl (by decide +kernel : TG 159 = 35) (by decide +kernel) rfl (c_254 σ7 h8 b z2 ((h9 _ _ (inWa (by decide +kernel : TG 160 = 36) (by decide +kernel))).trans h1)) (by decide) (by decide) (fun v45 σ46 h44 => ?_)
      obtain ⟨h47, h48, z50, rfl, h49⟩ := h44
      have h51 := Fr_trans h12 h48 (by decide +kernel)
      refine En_iEq _ rfl rfl (fun h52 => ?_) (fun h52 => ?_)
      · refine En_Ps 1 (pc' := 28) (lv' := [(0, .ref 159), (1, .int a), (2, .int b)]) (st' := [.int (((Int8.ofInt (-2)).toInt32))]) rfl ?_
        refine En_top (by decide : ((Int8.ofInt (-2)).toInt32).toInt = -2) (fun z53 h54 => ?_)
        exact En_ret (v := some (.int z53)) rfl rfl rfl ⟨h47, h51, z53, rfl, (by omega)⟩
      · refine En_Ps 2 (pc' := 23) (lv' := [(0, .ref 159), (1, .int a), (2, .int b)]) (st' := [.int b, .int a]) rfl ?_
        refine En_icNe _ rfl rfl rfl (fun h55 => ?_) (fun h55 => ?_)
        · refine En_Ps 2 (pc' := 31) (lv' := [(0, .ref 159), (1, .int a), (2, .int b)]) (st' := [.int ((Int32.ofInt (-1))), .int b]) rfl ?_
          refine En_icEq _ rfl (by decide : (Int32.ofInt (-1)).toInt = -1) rfl (fun hx => by exfalso; omega) (fun h56 => ?_)
          refine En_Ps 3 (pc' := 37) (lv' := [(0, .ref 159), (1, .int a), (2, .int b)]) (st' := [.int ((Int32.ofInt 3)), .int b, .ref 159]) rfl ?_
          have := (by decide : ((Int32.ofInt 3)).toInt = 3)
          obtain ⟨z57, h58, h59, h60⟩ := WT_peekJ (J := (4 * b.toInt + ((Int32.ofInt 3)).toInt + 10)) (l := (-1)) (u := 3) h47 (by decide +kernel : TG 160 = 36) (by decide +kernel) (by omega) (lnI (by decide +kernel : LN _ = 226) (by omega)) (FTrow 36 13 4 4 (by decide +kernel) (by omega) (by omega) (by omega))
          have := (by decide : ((Int32.ofInt 3)).toInt = 3)
          refine En_callV rfl rfl rfl rfl rfl rfl rfl rfl (by decide +kernel : TG 159 = 35) (by decide +kernel) rfl (c_290d σ46 h47 b ((Int32.ofInt 3)) (geI rfl (by omega)) (leI rfl (by omega)) (geI (by decide : (Int32.ofInt 3).toInt = 3) (by omega)) (leI (by decide : (Int32.ofInt 3).toInt = 3) (by omega)) z57 h58) (by decide) (by decide) (fun v62 σ63 h61 => ?_)
          obtain ⟨h64, h65, z67, rfl, h66⟩ := h61
          have h68 := Fr_trans h51 h65 (by decide +kernel)
          refine En_Ps 1 (pc' := 41) (lv' := [(0, .ref 159), (1, .int a), (2, .int b)]) (st' := [.int ((Int32.ofInt (-1))), .int z67]) rfl ?_
          refine En_icNe _ rfl (by decide : (Int32.ofInt (-1)).toInt = -1) rfl (fun h69 => ?_) (fun h69 => ?_)
          · refine En_Ps 1 (pc' := 54) (lv' := [(0, .ref 159), (1, .int a), (2, .int b)]) (st' := [.int (((Int8.ofInt (-5)).toInt32))]) rfl ?_
            refine En_top (by decide : ((Int8.ofInt (-5)).toInt32).toInt = -5) (fun z70 h71 => ?_)
            exact En_ret (v := some (.int z70)) rfl rfl rfl ⟨h64, h68, z70, rfl, (by omega)⟩
          · refine En_Ps 2 (pc' := 46) (lv' := [(0, .ref 159), (1, .int a), (2, .int b)]) (st' := [.int a, .ref 159]) rfl ?_
            refine En_callV rfl rfl rfl rfl rfl rfl rfl rfl (by decide +kernel : TG 159 = 35) (by decide +kernel) rfl (c_253 σ63 h64 a) (by decide) (by decide) (fun v73 σ74 h72 => ?_)
            obtain ⟨h75, h76, z78, rfl, h77⟩ := h72
            have h79 := Fr_trans h68 h76 (by decide +kernel)
            refine En_iEq _ rfl rfl (fun h80 => ?_) (fun h80 => ?_)
            · refine En_Ps 3 (pc' := 58) (lv' := [(0, .ref 159), (1, .int a), (2, .int b)]) (st' := [.int ((Int32.ofInt 3)), .int a, .ref 159]) rfl ?_
              have := (by decide : ((Int32.ofInt 3)).toInt = 3)
              obtain ⟨z81, h82, h83, h84⟩ := WT_peekJ (J := (4 * a.toInt + ((Int32.ofInt 3)).toInt + 10)) (l := (-1)) (u := 3) h75 (by decide +kernel : TG 160 = 36) (by decide +kernel) (by omega) (lnI (by decide +kernel : LN _ = 226) (by omega)) (FTrow 36 13 4 4 (by decide +kernel) (by omega) (by omega) (by omega))
              have := (by decide : ((Int32.ofInt 3)).toInt = 3)
              refine En_callV rfl rfl rfl rfl rfl rfl rfl rfl (by decide +kernel : TG 159 = 35) (by decide +kernel) rfl (c_290d σ74 h75 a ((Int32.ofInt 3)) (geI rfl (by omega)) (leI rfl (by omega)) (geI (by decide : (Int32.ofInt 3).toInt = 3) (by omega)) (leI (by decide : (Int32.ofInt 3).toInt = 3) (by omega)) z81 h82) (by decide) (by decide) (fun v86 σ87 h85 => ?_)
              obtain ⟨h88, h89, z91, rfl, h90⟩ := h85
              have h92 := Fr_trans h79 h89 (by decide +kernel)
              refine En_Ps 2 (pc' := 63) (lv' := [(3, .int z91), (0, .ref 159), (1, .int a), (2, .int b)]) (st' := [.ref 159]) rfl ?_
              refine En_getU (j := 1) (u := 160) (g' := 36) (q := 0) rfl rfl rfl (by decide +kernel : TG 159 = 35) (by decide +kernel) h88 (by decide +kernel) (by decide +kernel) (fun h93 => ?_)
              refine En_Ps 4 (pc' := 71) (lv' := [(3, .int z91), (0, .ref 159), (1, .int a), (2, .int b)]) (st' := [.int ((((Int32.ofInt 4)) * a)), .int (((Int8.ofInt 10).toInt32)), .ref 160]) rfl ?_
              refine En_top (mulI (by decide : (Int32.ofInt 4).toInt = 4) rfl (Z := 4 * a.toInt) (by omega) (by omega) (by omega)) (fun z95 h96 => ?_)
              refine En_Ps 1 (pc' := 72) (lv' := [(3, .int z91), (0, .ref 159), (1, .int a), (2, .int b)]) (st' := [.int (((((Int8.ofInt 10).toInt32)) + z95)), .ref 160]) rfl ?_
              refine En_top (addI (by decide : ((Int8.ofInt 10).toInt32).toInt = 10) rfl (by omega) (by omega)) (fun z97 h98 => ?_)
              refine En_Ps 2 (pc' := 74) (lv' := [(3, .int z91), (0, .ref 159), (1, .int a), (2, .int b)]) (st' := [.int ((z97 + ((Int32.ofInt 3)))), .ref 160]) rfl ?_
              refine En_top (addI rfl (by decide : (Int32.ofInt 3).toInt = 3) (by omega) (by omega)) (fun z99 h100 => ?_)
              refine En_Ps 1 (pc' := 75) (lv' := [(3, .int z91), (0, .ref 159), (1, .int a), (2, .int b)]) (st' := [.int b, .int z99, .ref 160]) rfl ?_
              refine En_iast (l := (-1)) (u := 3) rfl rfl (by decide +kernel : TG 160 = 36) (by decide +kernel) (by omega) (lnI (by decide +kernel : LN _ = 226) (by omega)) (FTrow 36 13 4 4 (by decide +kernel) (by omega) (by omega) (by omega)) (rngI rfl (by omega) (by omega)) h88 h92 (by decide +kernel) (fun σ101 h102 h103 h104 h105 => ?_)
              refine En_Ps 1 (pc' := 77) (lv' := [(3, .int z91), (0, .ref 159), (1, .int a), (2, .int b)]) (st' := [.int z91]) rfl ?_
              exact En_ret (v := some (.int z91)) rfl rfl rfl ⟨h102, h103, z91, rfl, (by omega)⟩
            · refine En_Ps 1 (pc' := 54) (lv' := [(0, .ref 159), (1, .int a), (2, .int b)]) (st' := [.int (((Int8.ofInt (-5)).toInt32))]) rfl ?_
              refine En_top (by decide : ((Int8.ofInt (-5)).toInt32).toInt = -5) (fun z106 h107 => ?_)
              exact En_ret (v := some (.int z106)) rfl rfl rfl ⟨h75, h79, z106, rfl, (by omega)⟩
        · refine En_Ps 1 (pc' := 28) (lv' := [(0, .ref 159), (1, .int a), (2, .int b)]) (st' := [.int (((Int8.ofInt (-2)).toInt32))]) rfl ?_
          refine En_top (by decide : ((Int8.ofInt (-2)).toInt32).toInt = -2) (fun z108 h109 => ?_)
          exact En_ret (v := some (.int z108)) rfl rfl rfl ⟨h47, h51, z108, rfl, (by omega)⟩
/-- DoorSchoolModel.count(I)I -/
abbrev P_206 (σ0 : SG) (a : Int32) : PO := fun v σ => WT σ ∧ Fr [] σ0 σ ∧ ∃ ret : Int32, v = some (.int ret) ∧ -ret.toInt - 1 ≤ 0 ∧ ret.toInt - 1600 ≤ 0
set_option maxRecDepth 10000 in
set_option maxHeartbeats 4000000 in
theorem c_206 (σ0 : SG) (hσ0 : WT σ0) (a : Int32) : En 0 0 none mr_206 (P_206 σ0 a) 0 [(0, .ref 159), (1, .int a)] [] σ0 := by
  have hF0 : Fr [] σ0 σ0 := Fr_rfl
  refine En_Ps 3 (pc' := 3) (lv' := [(2, .int ((Int32.ofInt 0))), (0, .ref 159), (1, .int a)]) (st' := [.int a]) rfl ?_
  rcases (show a.toInt = 0 ∨ a.toInt = 1 ∨ a.toInt = 2 ∨ a.toInt = 3 ∨ a.toInt = 4 ∨ a.toInt = 5 ∨ a.toInt = 6 ∨ a.toInt = 7 ∨ a.toInt = 8 ∨ a.toInt = 9 ∨ a.toInt < 0 ∨ 9 < a.toInt by omega) with h1 | h1 | h1 | h1 | h1 | h1 | h1 | h1 | h1 | h1 | h1 | h1
  · refine En_swI (t := 56) (n := 0) rfl h1 rfl (by decide +kernel) ?_
    refine En_Ps 1 (pc' := 57) (lv' := [(2, .int ((Int32.ofInt 0))), (0, .ref 159), (1, .int a)]) (st' := [.ref 159]) rfl ?_
    refine En_getU (j := 1) (u := 160) (g' := 36) (q := 0) rfl rfl rfl (by decide +kernel : TG 159 = 35) (by decide +kernel) hσ0 (by decide +kernel) (by decide +kernel) (fun h2 => ?_)
    refine En_Ps 1 (pc' := 61) (lv' := [(2, .int ((Int32.ofInt 0))), (0, .ref 159), (1, .int a)]) (st' := [.int ((Int32.ofInt 0)), .ref 160]) rfl ?_
    refine En_iald (l := 0) (u := 4) rfl (by decide : (Int32.ofInt 0).toInt = 0) (by decide +kernel : TG 160 = 36) (by decide +kernel) hσ0 (by omega) (lnI (by decide +kernel : LN _ = 226) (by omega)) (by decide +kernel) (fun z5 h4 h6 h7 => ?_)
    exact En_ret (v := some (.int z5)) rfl rfl rfl ⟨hσ0, hF0, z5, rfl, (by omega)⟩
  · refine En_swI (t := 63) (n := 1) rfl h1 rfl (by decide +kernel) ?_
    refine En_Ps 1 (pc' := 64) (lv' := [(2, .int ((Int32.ofInt 0))), (0, .ref 159), (1, .int a)]) (st' := [.ref 159]) rfl ?_
    refine En_getU (j := 1) (u := 160) (g' := 36) (q := 0) rfl rfl rfl (by decide +kernel : TG 159 = 35) (by decide +kernel) hσ0 (by decide +kernel) (by decide +kernel) (fun h8 => ?_)
    refine En_Ps 1 (pc' := 68) (lv' := [(2, .int ((Int32.ofInt 0))), (0, .ref 159), (1, .int a)]) (st' := [.int ((Int32.ofInt 1)), .ref 160]) rfl ?_
    refine En_iald (l := 0) (u := 3) rfl (by decide : (Int32.ofInt 1).toInt = 1) (by decide +kernel : TG 160 = 36) (by decide +kernel) hσ0 (by omega) (lnI (by decide +kernel : LN _ = 226) (by omega)) (by decide +kernel) (fun z11 h10 h12 h13 => ?_)
    exact En_ret (v := some (.int z11)) rfl rfl rfl ⟨hσ0, hF0, z11, rfl, (by omega)⟩
  · refine En_swI (t := 70) (n := 2) rfl h1 rfl (by decide +kernel) ?_
    refine En_Ps 1 (pc' := 71) (lv' := [(2, .int ((Int32.ofInt 0))), (0, .ref 159), (1, .int a)]) (st' := [.ref 159]) rfl ?_
    refine En_getU (j := 1) (u := 160) (g' := 36) (q := 0) rfl rfl rfl (by decide +kernel : TG 159 = 35) (by decide +kernel) hσ0 (by decide +kernel) (by decide +kernel) (fun h14 => ?_)
    refine En_Ps 1 (pc' := 75) (lv' := [(2, .int ((Int32.ofInt 0))), (0, .ref 159), (1, .int a)]) (st' := [.int ((Int32.ofInt 2)), .ref 160]) rfl ?_
    refine En_iald (l := 0) (u := 4) rfl (by decide : (Int32.ofInt 2).toInt = 2) (by decide +kernel : TG 160 = 36) (by decide +kernel) hσ0 (by omega) (lnI (by decide +kernel : LN _ = 226) (by omega)) (by decide +kernel) (fun z17 h16 h18 h19 => ?_)
    exact En_ret (v := some (.int z17)) rfl rfl rfl ⟨hσ0, hF0, z17, rfl, (by omega)⟩
  · refine En_swI (t := 77) (n := 3) rfl h1 rfl (by decide +kernel) ?_
    refine En_Ps 1 (pc' := 78) (lv' := [(2, .int ((Int32.ofInt 0))), (0, .ref 159), (1, .int a)]) (st' := [.ref 159]) rfl ?_
    refine En_getU (j := 1) (u := 160) (g' := 36) (q := 0) rfl rfl rfl (by decide +kernel : TG 159 = 35) (by decide +kernel) hσ0 (by decide +kernel) (by decide +kernel) (fun h20 => ?_)
    refine En_Ps 1 (pc' := 82) (lv' := [(2, .int ((Int32.ofInt 0))), (0, .ref 159), (1, .int a)]) (st' := [.int ((Int32.ofInt 3)), .ref 160]) rfl ?_
    refine En_iald (l := 0) (u := 12) rfl (by decide : (Int32.ofInt 3).toInt = 3) (by decide +kernel : TG 160 = 36) (by decide +kernel) hσ0 (by omega) (lnI (by decide +kernel : LN _ = 226) (by omega)) (by decide +kernel) (fun z23 h22 h24 h25 => ?_)
    exact En_ret (v := some (.int z23)) rfl rfl rfl ⟨hσ0, hF0, z23, rfl, (by omega)⟩
  · refine En_swI (t := 84) (n := 4) rfl h1 rfl (by decide +kernel) ?_
    refine En_Ps 1 (pc' := 85) (lv' := [(2, .int ((Int32.ofInt 0))), (0, .ref 159), (1, .int a)]) (st' := [.ref 159]) rfl ?_
    refine En_getU (j := 1) (u := 160) (g' := 36) (q := 0) rfl rfl rfl (by decide +kernel : TG 159 = 35) (by decide +kernel) hσ0 (by decide +kernel) (by decide +kernel) (fun h26 => ?_)
    refine En_Ps 1 (pc' := 89) (lv' := [(2, .int ((Int32.ofInt 0))), (0, .ref 159), (1, .int a)]) (st' := [.int ((Int32.ofInt 4)), .ref 160]) rfl ?_
    refine En_iald (l := 0) (u := 4) rfl (by decide : (Int32.ofInt 4).toInt = 4) (by decide +kernel : TG 160 = 36) (by decide +kernel) hσ0 (by omega) (lnI (by decide +kernel : LN _ = 226) (by omega)) (by decide +kernel) (fun z29 h28 h30 h31 => ?_)
    exact En_ret (v := some (.int z29)) rfl rfl rfl ⟨hσ0, hF0, z29, rfl, (by omega)⟩
  · refine En_swI (t := 91) (n := 5) rfl h1 rfl (by decide +kernel) ?_
    refine En_Ps 1 (pc' := 92) (lv' := [(2, .int ((Int32.ofInt 0))), (0, .ref 159), (1, .int a)]) (st' := [.ref 159]) rfl ?_
    refine En_getU (j := 1) (u := 160) (g' := 36) (q := 0) rfl rfl rfl (by decide +kernel : TG 159 = 35) (by decide +kernel) hσ0 (by decide +kernel) (by decide +kernel) (fun h32 => ?_)
    refine En_Ps 1 (pc' := 96) (lv' := [(2, .int ((Int32.ofInt 0))), (0, .ref 159), (1, .int a)]) (st' := [.int ((Int32.ofInt 5)), .ref 160]) rfl ?_
    refine En_iald (l := 0) (u := 6) rfl (by decide : (Int32.ofInt 5).toInt = 5) (by decide +kernel : TG 160 = 36) (by decide +kernel) hσ0 (by omega) (lnI (by decide +kernel : LN _ = 226) (by omega)) (by decide +kernel) (fun z35 h34 h36 h37 => ?_)
    exact En_ret (v := some (.int z35)) rfl rfl rfl ⟨hσ0, hF0, z35, rfl, (by omega)⟩
  · refine En_swI (t := 98) (n := 6) rfl h1 rfl (by decide +kernel) ?_
    refine En_Ps 1 (pc' := 99) (lv' := [(2, .int ((Int32.ofInt 0))), (0, .ref 159), (1, .int a)]) (st' := [.ref 159]) rfl ?_
    refine En_getU (j := 1) (u := 160) (g' := 36) (q := 0) rfl rfl rfl (by decide +kernel : TG 159 = 35) (by decide +kernel) hσ0 (by decide +kernel) (by decide +kernel) (fun h38 => ?_)
    refine En_Ps 1 (pc' := 104) (lv' := [(2, .int ((Int32.ofInt 0))), (0, .ref 159), (1, .int a)]) (st' := [.int (((Int8.ofInt 6).toInt32)), .ref 160]) rfl ?_
    refine En_iald (l := 0) (u := 60) rfl (by decide : ((Int8.ofInt 6).toInt32).toInt = 6) (by decide +kernel : TG 160 = 36) (by decide +kernel) hσ0 (by omega) (lnI (by decide +kernel : LN _ = 226) (by omega)) (by decide +kernel) (fun z41 h40 h42 h43 => ?_)
    exact En_ret (v := some (.int z41)) rfl rfl rfl ⟨hσ0, hF0, z41, rfl, (by omega)⟩
  · refine En_swI (t := 106) (n := 7) rfl h1 rfl (by decide +kernel) ?_
    refine En_Ps 1 (pc' := 107) (lv' := [(2, .int ((Int32.ofInt 0))), (0, .ref 159), (1, .int a)]) (st' := [.ref 159]) rfl ?_
    refine En_getU (j := 1) (u := 160) (g' := 36) (q := 0) rfl rfl rfl (by decide +kernel : TG 159 = 35) (by decide +kernel) hσ0 (by decide +kernel) (by decide +kernel) (fun h44 => ?_)
    refine En_Ps 1 (pc' := 112) (lv' := [(2, .int ((Int32.ofInt 0))), (0, .ref 159), (1, .int a)]) (st' := [.int (((Int8.ofInt 7).toInt32)), .ref 160]) rfl ?_
    refine En_iald (l := 0) (u := 1600) rfl (by decide : ((Int8.ofInt 7).toInt32).toInt = 7) (by decide +kernel : TG 160 = 36) (by decide +kernel) hσ0 (by omega) (lnI (by decide +kernel : LN _ = 226) (by omega)) (by decide +kernel) (fun z47 h46 h48 h49 => ?_)
    exact En_ret (v := some (.int z47)) rfl rfl rfl ⟨hσ0, hF0, z47, rfl, (by omega)⟩
  · refine En_swI (t := 114) (n := 8) rfl h1 rfl (by decide +kernel) ?_
    refine En_Ps 1 (pc' := 115) (lv' := [(2, .int ((Int32.ofInt 0))), (0, .ref 159), (1, .int a)]) (st' := [.ref 159]) rfl ?_
    refine En_getI (j := 5) (l := 0) (u := 1600) rfl rfl rfl (by decide +kernel : TG 159 = 35) (by decide +kernel) hσ0 (by decide +kernel) (fun z51 h50 h52 h53 => ?_)
    exact En_ret (v := some (.int z51)) rfl rfl rfl ⟨hσ0, hF0, z51, rfl, (by omega)⟩
  · refine En_swI (t := 119) (n := 9) rfl h1 rfl (by decide +kernel) ?_
    refine En_Ps 2 (pc' := 121) (lv' := [(3, .int ((Int32.ofInt 0))), (2, .int ((Int32.ofInt 0))), (0, .ref 159), (1, .int a)]) (st' := []) rfl ?_
    have key121 : ∀ (n121 : Nat) (σ56 : SG) (y54 : Int32) (y55 : Int32), WT σ56 → Fr [] σ0 σ56 → 0 ≤ y54.toInt → y54.toInt ≤ 4 → 0 ≤ y55.toInt → y55.toInt ≤ 4 → y54.toInt - y55.toInt ≤ 0 → a.toInt - y55.toInt < (n121 : Int) → En 0 0 none mr_206 (P_206 σ0 a) 121 [(0, .ref 159), (1, .int a), (2, .int y54), (3, .int y55)] [] σ56 := by
      intro n121
      induction n121 with
      | zero =>
        intro σ56 y54 y55 h57 h58 h59 h60 h61 h62 h63 h64
        exfalso; omega
      | succ n121 ih121 =>
        intro σ56 y54 y55 h57 h58 h59 h60 h61 h62 h63 h64
        refine En_Ps 2 (pc' := 123) (lv' := [(0, .ref 159), (1, .int a), (2, .int y54), (3, .int y55)]) (st' := [.int ((Int32.ofInt 4)), .int y55]) rfl ?_
        refine En_icGe _ rfl (by decide : (Int32.ofInt 4).toInt = 4) rfl (fun h65 => ?_) (fun h65 => ?_)
        · refine En_Ps 1 (pc' := 151) (lv' := [(0, .ref 159), (1, .int a), (2, .int y54), (3, .int y55)]) (st' := [.int y54]) rfl ?_
          exact En_ret (v := some (.int y54)) rfl rfl rfl ⟨h57, h58, y54, rfl, (by omega)⟩
        · refine En_Ps 2 (pc' := 128) (lv' := [(0, .ref 159), (1, .int a), (2, .int y54), (3, .int y55)]) (st' := [.ref 159, .int y54]) rfl ?_
          refine En_getU (j := 32) (u := 177) (g' := 53) (q := 0) rfl rfl rfl (by decide +kernel : TG 159 = 35) (by decide +kernel) h57 (by decide +kernel) (by decide +kernel) (fun h66 => ?_)
          refine En_Ps 1 (pc' := 132) (lv' := [(0, .ref 159), (1, .int a), (2, .int y54), (3, .int y55)]) (st' := [.int y55, .ref 177, .int y54]) rfl ?_
          refine En_iald (l := (-1)) (u := 60) rfl rfl (by decide +kernel : TG 177 = 53) (by decide +kernel) h57 (by omega) (lnI (by decide +kernel : LN _ = 4) (by omega)) (FTsgl (by decide +kernel)) (fun z69 h68 h70 h71 => ?_)
          refine En_Ps 1 (pc' := 134) (lv' := [(0, .ref 159), (1, .int a), (2, .int y54), (3, .int y55)]) (st' := [.int ((Int32.ofInt (-1))), .int z69, .int y54]) rfl ?_
          refine En_icNe _ rfl (by decide : (Int32.ofInt (-1)).toInt = -1) rfl (fun h72 => ?_) (fun h72 => ?_)
          · refine En_Ps 2 (pc' := 143) (lv' := [(0, .ref 159), (1, .int a), (2, .int y54), (3, .int y55)]) (st' := [.int ((y54 + ((Int32.ofInt 1))))]) rfl ?_
            refine En_top (addI rfl (by decide : (Int32.ofInt 1).toInt = 1) (by omega) (by omega)) (fun z73 h74 => ?_)
            refine En_Ps 2 (pc' := 147) (lv' := [(3, .int ((y55 + Int32.ofInt 1))), (2, .int z73), (0, .ref 159), (1, .int a)]) (st' := []) rfl ?_
            refine En_lv1 (addI rfl (by decide : (Int32.ofInt 1).toInt = 1) (by omega) (by omega)) (fun z75 h76 => ?_)
            refine En_Ps 1 (pc' := 121) (lv' := [(3, .int z75), (2, .int z73), (0, .ref 159), (1, .int a)]) (st' := []) rfl ?_
            refine En_lv (lv := [(0, .ref 159), (1, .int a), (2, .int z73), (3, .int z75)]) ⟨rfl, rfl, rfl, rfl, trivial⟩ ?_
            exact ih121 σ56 z73 z75 h57 h58 (by omega) (by omega) (by omega) (by omega) (by omega) (by omega)
          · refine En_Ps 3 (pc' := 143) (lv' := [(0, .ref 159), (1, .int a), (2, .int y54), (3, .int y55)]) (st' := [.int ((y54 + ((Int32.ofInt 0))))]) rfl ?_
            refine En_top (addI rfl (by decide : (Int32.ofInt 0).toInt = 0) (by omega) (by omega)) (fun z77 h78 => ?_)
            refine En_Ps 2 (pc' := 147) (lv' := [(3, .int ((y55 + Int32.ofInt 1))), (2, .int z77), (0, .ref 159), (1, .int a)]) (st' := []) rfl ?_
            refine En_lv1 (addI rfl (by decide : (Int32.ofInt 1).toInt = 1) (by omega) (by omega)) (fun z79 h80 => ?_)
            refine En_Ps 1 (pc' := 121) (lv' := [(3, .int z79), (2, .int z77), (0, .ref 159), (1, .int a)]) (st' := []) rfl ?_
            refine En_lv (lv := [(0, .ref 159), (1, .int a), (2, .int z77), (3, .int z79)]) ⟨rfl, rfl, rfl, rfl, trivial⟩ ?_
            exact ih121 σ56 z77 z79 h57 h58 (by omega) (by omega) (by omega) (by omega) (by omega) (by omega)
    have := (by decide : (Int32.ofInt 0).toInt = 0)
    have := (by decide : (Int32.ofInt 0).toInt = 0)
    refine En_lv (lv := [(0, .ref 159), (1, .int a), (2, .int ((Int32.ofInt 0))), (3, .int ((Int32.ofInt 0)))]) ⟨rfl, rfl, rfl, rfl, trivial⟩ ?_
    exact key121 (Int.toNat (a.toInt) + 1) σ0 ((Int32.ofInt 0)) ((Int32.ofInt 0)) hσ0 hF0 (by omega) (by omega) (by omega) (by omega) (by omega) (by omega)
  · refine En_swO (t := 152) rfl (by omega) rfl (by decide +kernel) ?_
    refine En_Ps 1 (pc' := 153) (lv' := [(2, .int ((Int32.ofInt 0))), (0, .ref 159), (1, .int a)]) (st' := [.int ((Int32.ofInt (-1)))]) rfl ?_
    refine En_top (by decide : (Int32.ofInt (-1)).toInt = -1) (fun z81 h82 => ?_)
    exact En_ret (v := some (.int z81)) rfl rfl rfl ⟨hσ0, hF0, z81, rfl, (by omega)⟩
  · refine En_swO (t := 152) rfl (by omega) rfl (by decide +kernel) ?_
    refine En_Ps 1 (pc' := 153) (lv' := [(2, .int ((Int32.ofInt 0))), (0, .ref 159), (1, .int a)]) (st' := [.int ((Int32.ofInt (-1)))]) rfl ?_
    refine En_top (by decide : (Int32.ofInt (-1)).toInt = -1) (fun z83 h84 => ?_)
    exact En_ret (v := some (.int z83)) rfl rfl rfl ⟨hσ0, hF0, z83, rfl, (by omega)⟩
/-- DoorSchoolModel.isWay(I)Z -/
abbrev P_268 (σ0 : SG) (a : Int32) : PO := fun v σ => WT σ ∧ Fr [] σ0 σ ∧ ∃ ret : Int32, v = some (.int ret) ∧ -ret.toInt ≤ 0 ∧ ret.toInt - 1 ≤ 0 ∧ (ret.toInt - 1 ≤ 0 ∧ -ret.toInt + 1 ≤ 0 → -a.toInt ≤ 0 ∧ a.toInt - 2 ≤ 0) ∧ (-a.toInt ≤ 0 ∧ a.toInt - 2 ≤ 0 → ret.toInt - 1 ≤ 0 ∧ -ret.toInt + 1 ≤ 0)
set_option maxRecDepth 10000 in
set_option maxHeartbeats 4000000 in
theorem c_268 (σ0 : SG) (hσ0 : WT σ0) (a : Int32) : En 1 25 none mr_268 (P_268 σ0 a) 0 [(0, .int a)] [] σ0 := by
  have hF0 : Fr [] σ0 σ0 := Fr_rfl
  refine En_Ps 4 (pc' := 6) (lv' := [(0, .int a)]) (st' := [.long ((2 : Int64)), .long ((Int64.ofNat 0)), .long a.toInt64]) rfl ?_
  have : a.toInt64.toInt = a.toInt := (i2lI rfl)
  have := (by decide : ((Int64.ofNat 0)).toInt = 0)
  have := (by decide : ((2 : Int64)).toInt = 2)
  refine En_callS rfl rfl rfl rfl rfl rfl rfl rfl rfl (c_249 σ0 hσ0 a.toInt64 ((Int64.ofNat 0)) ((2 : Int64))) (by decide) (by decide) (fun v2 σ3 h1 => ?_)
  obtain ⟨h4, h5, z7, rfl, h6⟩ := h1
  have h8 := Fr_trans hF0 h5 (by decide +kernel)
  exact En_ret (v := some (.int z7)) rfl rfl (retZ rfl rfl (by omega) (by omega)) ⟨h4, h8, z7, rfl, (by omega)⟩
/-- DoorSchoolModel.laySet(II)V -/
abbrev P_273 (σ0 : SG) (a : Int32) (b : Int32) : PO := fun v σ => WT σ ∧ Fr [(35, 21), (45, 0), (46, 0)] σ0 σ ∧ v = none ∧ True
set_option maxRecDepth 10000 in
set_option maxHeartbeats 4000000 in
theorem c_273 (σ0 : SG) (hσ0 : WT σ0) (a : Int32) (b : Int32) : En 2 40 none mr_273 (P_273 σ0 a b) 0 [(0, .ref 159), (1, .int a), (2, .int b)] [] σ0 := by
  have hF0 : Fr [(35, 21), (45, 0), (46, 0)] σ0 σ0 := Fr_rfl
  refine En_Ps 2 (pc' := 2) (lv' := [(0, .ref 159), (1, .int a), (2, .int b)]) (st' := [.int ((Int32.ofInt 0)), .ref 159]) rfl ?_
  refine En_put (j := 21) rfl rfl rfl (by decide +kernel : TG 159 = 35) (by decide +kernel) rfl (vI (l := 0) (u := 17) (by decide +kernel) (by decide : (Int32.ofInt 0).toInt = 0) (by omega) (by omega)) hσ0 hF0 (by decide +kernel) (fun σ1 h2 h3 h4 h5 => ?_)
  refine En_Ps 2 (pc' := 7) (lv' := [(3, .int ((Int32.ofInt 0))), (0, .ref 159), (1, .int a), (2, .int b)]) (st' := []) rfl ?_
  have key7 : ∀ (n7 : Nat) (σ8 : SG) (y6 : Int32) (y7 : Int32), WT σ8 → Fr [(35, 21), (45, 0), (46, 0)] σ0 σ8 → (σ8 159)[21]? = some (.int y7) → 0 ≤ y6.toInt → y6.toInt ≤ 16 → 0 ≤ y7.toInt → y7.toInt ≤ 16 → y7.toInt - y6.toInt ≤ 0 → -y6.toInt + 16 < (n7 : Int) → En 2 40 none mr_273 (P_273 σ0 a b) 7 [(0, .ref 159), (1, .int a), (2, .int b), (3, .int y6)] [] σ8 := by
    intro n7
    induction n7 with
    | zero =>
      intro σ8 y6 y7 h9 h10 h11 h12 h13 h14 h15 h16 h17
      exfalso; omega
    | succ n7 ih7 =>
      intro σ8 y6 y7 h9 h10 h11 h12 h13 h14 h15 h16 h17
      refine En_Ps 2 (pc' := 9) (lv' := [(0, .ref 159), (1, .int a), (2, .int b), (3, .int y6)]) (st' := [.ref 159, .int y6]) rfl ?_
      obtain ⟨z19, h18, h20, h21⟩ := WT_peekI h9 (by decide +kernel : TG 160 = 36) (by decide +kernel : FT 36 (0 : Int).toNat = (0, 0, 4)) (by decide +kernel)
      obtain ⟨z23, h22, h24, h25⟩ := WT_peekI h9 (by decide +kernel : TG 160 = 36) (by decide +kernel : FT 36 (7 : Int).toNat = (0, 0, 1600)) (by decide +kernel)
      refine En_callV rfl rfl rfl rfl rfl rfl rfl rfl (by decide +kernel : TG 159 = 35) (by decide +kernel) rfl (c_269 σ8 h9 z19 h18 z23 h22) (by decide) (by decide) (fun v27 σ28 h26 => ?_)
      obtain ⟨h29, h30, z32, rfl, h31⟩ := h26
      have h33 := Fr_trans h10 h30 (by decide +kernel)
      refine En_icGe _ rfl rfl rfl (fun h34 => ?_) (fun h34 => ?_)
      · exact En_ret (v := none) rfl rfl rfl ⟨h29, h33, rfl, trivial⟩
      · refine En_Ps 2 (pc' := 17) (lv' := [(0, .ref 159), (1, .int a), (2, .int b), (3, .int y6)]) (st' := [.int y6, .int a]) rfl ?_
        refine En_callS rfl rfl rfl rfl rfl rfl rfl rfl rfl (c_202 σ28 h29 a y6) (by decide) (by decide) (fun v36 σ37 h35 => ?_)
        obtain ⟨h38, h39, z41, rfl, h40⟩ := h35
        have h42 := Fr_trans h33 h39 (by decide +kernel)
        refine En_Ps 1 (pc' := 21) (lv' := [(0, .ref 159), (1, .int a), (2, .int b), (3, .int y6)]) (st' := [.int ((Int32.ofInt 1)), .int z41]) rfl ?_
        refine En_icNe _ rfl (by decide : (Int32.ofInt 1).toInt = 1) rfl (fun h43 => ?_) (fun h43 => ?_)
        · refine En_Ps 1 (pc' := 37) (lv' := [(3, .int ((y6 + Int32.ofInt 1))), (0, .ref 159), (1, .int a), (2, .int b)]) (st' := []) rfl ?_
          refine En_lv1 (addI rfl (by decide : (Int32.ofInt 1).toInt = 1) (by omega) (by omega)) (fun z44 h45 => ?_)
          refine En_Ps 1 (pc' := 7) (lv' := [(3, .int z44), (0, .ref 159), (1, .int a), (2, .int b)]) (st' := []) rfl ?_
          refine En_lv (lv := [(0, .ref 159), (1, .int a), (2, .int b), (3, .int z44)]) ⟨rfl, rfl, rfl, rfl, trivial⟩ ?_
          exact ih7 σ37 z44 y7 h38 h42 ((h39 _ _ (inW (by decide +kernel : TG 159 = 35) (by decide +kernel))).trans ((h30 _ _ (inW (by decide +kernel : TG 159 = 35) (by decide +kernel))).trans h11)) (by omega) (by omega) (by omega) (by omega) (by omega) (by omega)
        · refine En_Ps 4 (pc' := 28) (lv' := [(0, .ref 159), (1, .int a), (2, .int b), (3, .int y6)]) (st' := [.int y6, .int b, .int y6, .ref 159]) rfl ?_
          refine En_callS rfl rfl rfl rfl rfl rfl rfl rfl rfl (c_202 σ37 h38 b y6) (by decide) (by decide) (fun v47 σ48 h46 => ?_)
          obtain ⟨h49, h50, z52, rfl, h51⟩ := h46
          have h53 := Fr_trans h42 h50 (by decide +kernel)
          refine En_callV rfl rfl rfl rfl rfl rfl rfl rfl (by decide +kernel : TG 159 = 35) (by decide +kernel) rfl (c_188 σ48 h49 y6 z52 (geI rfl (by omega)) (leI rfl (by omega)) (geI rfl (by omega)) (leI rfl (by omega)) y7 ((h50 _ _ (inW (by decide +kernel : TG 159 = 35) (by decide +kernel))).trans ((h39 _ _ (inW (by decide +kernel : TG 159 = 35) (by decide +kernel))).trans ((h30 _ _ (inW (by decide +kernel : TG 159 = 35) (by decide +kernel))).trans h11))) (by omega)) (by decide) (by decide) (fun v55 σ56 h54 => ?_)
          obtain ⟨h57, h58, z60, h61, rfl, h59⟩ := h54
          have h62 := Fr_trans h53 h58 (by decide +kernel)
          refine En_Ps 1 (pc' := 37) (lv' := [(3, .int ((y6 + Int32.ofInt 1))), (0, .ref 159), (1, .int a), (2, .int b)]) (st' := []) rfl ?_
          refine En_lv1 (addI rfl (by decide : (Int32.ofInt 1).toInt = 1) (by omega) (by omega)) (fun z63 h64 => ?_)
          refine En_Ps 1 (pc' := 7) (lv' := [(3, .int z63), (0, .ref 159), (1, .int a), (2, .int b)]) (st' := []) rfl ?_
          refine En_lv (lv := [(0, .ref 159), (1, .int a), (2, .int b), (3, .int z63)]) ⟨rfl, rfl, rfl, rfl, trivial⟩ ?_
          exact ih7 σ56 z63 z60 h57 h62 h61 (by omega) (by omega) (by omega) (by omega) (by omega) (by omega)
  have := (by decide : (Int32.ofInt 0).toInt = 0)
  have := (by decide : (Int32.ofInt 0).toInt = 0)
  refine En_lv (lv := [(0, .ref 159), (1, .int a), (2, .int b), (3, .int ((Int32.ofInt 0)))]) ⟨rfl, rfl, rfl, rfl, trivial⟩ ?_
  exact key7 (Int.toNat (16) + 1) σ1 ((Int32.ofInt 0)) ((Int32.ofInt 0)) h2 h3 h4 (by omega) (by omega) (by omega) (by omega) (by omega) (by omega)
