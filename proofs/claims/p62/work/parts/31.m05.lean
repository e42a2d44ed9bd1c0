/-- DoorSchoolModel.course(II)I -/
abbrev P_207 (σ0 : SG) (a : Int32) (b : Int32) : PO := fun v σ => WT σ ∧ Fr [(35, 18), (35, 21), (42, 0), (43, 0), (44, 0), (45, 0), (46, 0)] σ0 σ ∧ ∃ ret : Int32, v = some (.int ret) ∧ -ret.toInt - 2 ≤ 0 ∧ ret.toInt - 65535 ≤ 0
set_option maxRecDepth 10000 in
set_option maxHeartbeats 4000000 in
theorem c_207 (σ0 : SG) (hσ0 : WT σ0) (a : Int32) (b : Int32) : En 6 139 none mr_207 (P_207 σ0 a b) 0 [(0, .ref 159), (1, .int a), (2, .int b)] [] σ0 := by
  have hF0 : Fr [(35, 18), (35, 21), (42, 0), (43, 0), (44, 0), (45, 0), (46, 0)] σ0 σ0 := Fr_rfl
  refine En_Ps 1 (pc' := 1) (lv' := [(0, .ref 159), (1, .int a), (2, .int b)]) (st' := [.int a]) rfl ?_
  refine En_callS rfl rfl rfl rfl rfl rfl rfl rfl rfl (c_268 σ0 hσ0 a) (by decide) (by decide) (fun v2 σ3 h1 => ?_)
  obtain ⟨h4, h5, z7, rfl, h6⟩ := h1
  have h8 := Fr_trans hF0 h5 (by decide +kernel)
  refine En_iEq _ rfl rfl (fun h9 => ?_) (fun h9 => ?_)
  · refine En_Ps 1 (pc' := 26) (lv' := [(0, .ref 159), (1, .int a), (2, .int b)]) (st' := [.int (((Int8.ofInt (-2)).toInt32))]) rfl ?_
    refine En_top (by decide : ((Int8.ofInt (-2)).toInt32).toInt = -2) (fun z10 h11 => ?_)
    exact En_ret (v := some (.int z10)) rfl rfl rfl ⟨h4, h8, z10, rfl, (by omega)⟩
  · refine En_Ps 2 (pc' := 9) (lv' := [(0, .ref 159), (1, .int a), (2, .int b)]) (st' := [.int b, .ref 159]) rfl ?_
    refine En_callV rfl rfl rfl rfl rfl rfl rfl rfl (by decide +kernel : TG 159 = 35) (by decide +kernel) rfl (c_195 σ3 h4 b) (by decide) (by decide) (fun v13 σ14 h12 => ?_)
    obtain ⟨h15, h16, z18, rfl, h17⟩ := h12
    have h19 := Fr_trans h8 h16 (by decide +kernel)
    refine En_iEq _ rfl rfl (fun h20 => ?_) (fun h20 => ?_)
    · refine En_Ps 1 (pc' := 26) (lv' := [(0, .ref 159), (1, .int a), (2, .int b)]) (st' := [.int (((Int8.ofInt (-2)).toInt32))]) rfl ?_
      refine En_top (by decide : ((Int8.ofInt (-2)).toInt32).toInt = -2) (fun z21 h22 => ?_)
      exact En_ret (v := some (.int z21)) rfl rfl rfl ⟨h15, h19, z21, rfl, (by omega)⟩
    · refine En_Ps 3 (pc' := 18) (lv' := [(0, .ref 159), (1, .int a), (2, .int b)]) (st' := [.int b, .int a, .ref 159]) rfl ?_
      refine En_callV rfl rfl rfl rfl rfl rfl rfl rfl (by decide +kernel : TG 159 = 35) (by decide +kernel) rfl (c_228 σ14 h15 a b) (by decide) (by decide) (fun v24 σ25 h23 => ?_)
      obtain ⟨h26, h27, z29, rfl, h28⟩ := h23
      have h30 := Fr_trans h19 h27 (by decide +kernel)
      refine En_Ps 1 (pc' := 26) (lv' := [(0, .ref 159), (1, .int a), (2, .int b)]) (st' := [.int z29]) rfl ?_
      exact En_ret (v := some (.int z29)) rfl rfl rfl ⟨h26, h30, z29, rfl, (by omega)⟩
/-- DoorSchoolModel.cut(JI)J -/
abbrev P_208 (σ0 : SG) (a : Int64) (b : Int32) : PO := fun v σ => WT σ ∧ Fr [] σ0 σ ∧ ∃ ret : Int64, v = some (.long ret) ∧ True
set_option maxRecDepth 10000 in
set_option maxHeartbeats 4000000 in
theorem c_208 (σ0 : SG) (hσ0 : WT σ0) (a : Int64) (b : Int32) : En 0 0 none mr_208 (P_208 σ0 a b) 0 [(0, .long a), (2, .int b)] [] σ0 := by
  have hF0 : Fr [] σ0 σ0 := Fr_rfl
  refine En_Ps 4 (pc' := 6) (lv' := [(0, .long a), (2, .int b)]) (st' := [.int (((((Int8.ofInt 8).toInt32)) <<< (b &&& 31))), .int (((Int8.ofInt 64).toInt32))]) rfl ?_
  refine En_hav (fun z1 => ?_)
  refine En_Ps 1 (pc' := 7) (lv' := [(0, .long a), (2, .int b)]) (st' := [.int (((((Int8.ofInt 64).toInt32)) - z1))]) rfl ?_
  refine En_hav (fun z2 => ?_)
  refine En_Ps 4 (pc' := 11) (lv' := [(3, .int z2), (0, .long a), (2, .int b)]) (st' := [.long ((a <<< (z2.toInt64 &&& 63)))]) rfl ?_
  refine En_havL (fun z3 => ?_)
  refine En_Ps 2 (pc' := 13) (lv' := [(3, .int z2), (0, .long a), (2, .int b)]) (st' := [.long ((z3 >>> (z2.toInt64 &&& 63)))]) rfl ?_
  refine En_havL (fun z4 => ?_)
  exact En_ret (v := some (.long z4)) rfl rfl rfl ⟨hσ0, hF0, z4, rfl, trivial⟩
/-- DoorSchoolModel.good()Z -/
abbrev P_237 (σ0 : SG) (k : Int32) : PO := fun v σ => WT σ ∧ Fr [] σ0 σ ∧ ∃ ret : Int32, v = some (.int ret) ∧ -ret.toInt ≤ 0 ∧ ret.toInt - 1 ≤ 0 ∧ (-ret.toInt + 1 ≤ 0 → k.toInt ≤ 0) ∧ (ret.toInt ≤ 0 → -k.toInt + 1 ≤ 0)
set_option maxRecDepth 10000 in
set_option maxHeartbeats 4000000 in
theorem c_237 (σ0 : SG) (hσ0 : WT σ0) (k : Int32) (h_k : (σ0 159)[12]? = some (.int k)) : En 0 0 none mr_237 (P_237 σ0 k) 0 [(0, .ref 159)] [] σ0 := by
  obtain ⟨hl_k, hu_k⟩ := WT_int hσ0 (g := 35) (by decide +kernel) (by decide +kernel) (l := 0) (u := 3) (by decide +kernel) h_k
  have hF0 : Fr [] σ0 σ0 := Fr_rfl
  refine En_Ps 1 (pc' := 1) (lv' := [(0, .ref 159)]) (st' := [.ref 159]) rfl ?_
  refine En_getK (j := 12) h_k rfl rfl rfl (by decide +kernel : TG 159 = 35) (by decide +kernel) ?_
  refine En_iNe _ rfl rfl (fun h1 => ?_) (fun h1 => ?_)
  · refine En_Ps 1 (pc' := 12) (lv' := [(0, .ref 159)]) (st' := [.int ((Int32.ofInt 0))]) rfl ?_
    refine En_top (by decide : (Int32.ofInt 0).toInt = 0) (fun z2 h3 => ?_)
    exact En_ret (v := some (.int z2)) rfl rfl (retZ rfl rfl (by omega) (by omega)) ⟨hσ0, hF0, z2, rfl, (by omega)⟩
  · refine En_Ps 2 (pc' := 12) (lv' := [(0, .ref 159)]) (st' := [.int ((Int32.ofInt 1))]) rfl ?_
    refine En_top (by decide : (Int32.ofInt 1).toInt = 1) (fun z4 h5 => ?_)
    exact En_ret (v := some (.int z4)) rfl rfl (retZ rfl rfl (by omega) (by omega)) ⟨hσ0, hF0, z4, rfl, (by omega)⟩
/-- DoorSchoolModel.is(Ljava/lang/String;)Z -/
abbrev P_251s0o (σ0 : SG) : PO := fun v σ => WT σ ∧ Fr [] σ0 σ ∧ ∃ ret : Int32, v = some (.int ret) ∧ -ret.toInt ≤ 0 ∧ ret.toInt - 1 ≤ 0
set_option maxRecDepth 10000 in
set_option maxHeartbeats 4000000 in
theorem c_251s0o (σ0 : SG) (hσ0 : WT σ0) : En 4 90 none mr_251 (P_251s0o σ0) 0 [(0, .ref 159), (1, .retAddr 1)] [] σ0 := by
  have hF0 : Fr [] σ0 σ0 := Fr_rfl
  refine En_Ps 1 (pc' := 1) (lv' := [(0, .ref 159), (1, .retAddr 1)]) (st' := [.ref 159]) rfl ?_
  obtain ⟨z2, h1, h3, h4⟩ := WT_peekI hσ0 (by decide +kernel : TG 159 = 35) (by decide +kernel : FT 35 12 = (0, 0, 3)) (by decide +kernel)
  refine En_callV rfl rfl rfl rfl rfl rfl rfl rfl (by decide +kernel : TG 159 = 35) (by decide +kernel) rfl (c_237 σ0 hσ0 z2 h1) (by decide) (by decide) (fun v6 σ7 h5 => ?_)
  obtain ⟨h8, h9, z11, rfl, h10⟩ := h5
  obtain rfl : σ0 = σ7 := Fr_nil h9
  refine En_iEq _ rfl rfl (fun h12 => ?_) (fun h12 => ?_)
  · refine En_Ps 4 (pc' := 39) (lv' := [(3, .int ((Int32.ofInt 0))), (2, .int ((Int32.ofInt 0))), (0, .ref 159), (1, .retAddr 1)]) (st' := []) rfl ?_
    have key39 : ∀ (n39 : Nat) (σ15 : SG) (y13 : Int32) (y14 : Int32), WT σ15 → Fr [] σ0 σ15 → (σ15 159)[12]? = some (.int z2) → 0 ≤ y13.toInt → y13.toInt ≤ 0 → 0 ≤ y14.toInt → y14.toInt ≤ 0 → z2.toInt - y13.toInt < (n39 : Int) → En 4 90 none mr_251 (P_251s0o σ0) 39 [(0, .ref 159), (1, .retAddr 1), (2, .int y13), (3, .int y14)] [] σ15 := by
      intro n39
      induction n39 with
      | zero =>
        intro σ15 y13 y14 h16 h17 h18 h19 h20 h21 h22 h23
        exfalso; omega
      | succ n39 ih39 =>
        intro σ15 y13 y14 h16 h17 h18 h19 h20 h21 h22 h23
        refine En_Ps 2 (pc' := 41) (lv' := [(0, .ref 159), (1, .retAddr 1), (2, .int y13), (3, .int y14)]) (st' := [.retAddr 1, .int y14]) rfl ?_
        refine En_slen 0 5 rfl rfl (by decide) rfl ?_
        refine En_icGe _ rfl (by decide : (Int32.ofNat 5).toInt = 5) rfl (fun hx => by exfalso; omega) (fun h24 => ?_)
        refine En_Ps 1 (pc' := 48) (lv' := [(0, .ref 159), (1, .retAddr 1), (2, .int y13), (3, .int y14)]) (st' := [.int y13]) rfl ?_
        refine En_iEq _ rfl rfl (fun h25 => ?_) (fun hx => by exfalso; omega)
        refine En_Ps 1 (pc' := 83) (lv' := [(0, .ref 159), (1, .retAddr 1), (2, .int y13), (3, .int y14)]) (st' := [.int y13]) rfl ?_
        exact En_ret (v := some (.int y13)) rfl rfl (retZ rfl rfl (by omega) (by omega)) ⟨h16, h17, y13, rfl, (by omega)⟩
    have := (by decide : (Int32.ofInt 0).toInt = 0)
    have := (by decide : (Int32.ofInt 0).toInt = 0)
    refine En_lv (lv := [(0, .ref 159), (1, .retAddr 1), (2, .int ((Int32.ofInt 0))), (3, .int ((Int32.ofInt 0)))]) ⟨rfl, rfl, rfl, rfl, trivial⟩ ?_
    exact key39 (Int.toNat (z2.toInt) + 1) σ0 ((Int32.ofInt 0)) ((Int32.ofInt 0)) hσ0 hF0 h1 (by omega) (by omega) (by omega) (by omega) (by omega)
  · refine En_Ps 1 (pc' := 8) (lv' := [(0, .ref 159), (1, .retAddr 1)]) (st' := [.ref 159]) rfl ?_
    refine En_getI (j := 10) (l := 0) (u := 4) rfl rfl rfl (by decide +kernel : TG 159 = 35) (by decide +kernel) hσ0 (by decide +kernel) (fun z27 h26 h28 h29 => ?_)
    refine En_Ps 1 (pc' := 12) (lv' := [(0, .ref 159), (1, .retAddr 1)]) (st' := [.int ((Int32.ofInt 1)), .int z27]) rfl ?_
    refine En_icNe _ rfl (by decide : (Int32.ofInt 1).toInt = 1) rfl (fun h30 => ?_) (fun h30 => ?_)
    · refine En_Ps 4 (pc' := 39) (lv' := [(3, .int ((Int32.ofInt 0))), (2, .int ((Int32.ofInt 0))), (0, .ref 159), (1, .retAddr 1)]) (st' := []) rfl ?_
      have key39 : ∀ (n39 : Nat) (σ33 : SG) (y31 : Int32) (y32 : Int32), WT σ33 → Fr [] σ0 σ33 → (σ33 159)[12]? = some (.int z2) → (σ33 159)[10]? = some (.int z27) → 0 ≤ y31.toInt → y31.toInt ≤ 0 → 0 ≤ y32.toInt → y32.toInt ≤ 0 → z2.toInt - y31.toInt < (n39 : Int) → En 4 90 none mr_251 (P_251s0o σ0) 39 [(0, .ref 159), (1, .retAddr 1), (2, .int y31), (3, .int y32)] [] σ33 := by
        intro n39
        induction n39 with
        | zero =>
          intro σ33 y31 y32 h34 h35 h36 h37 h38 h39 h40 h41 h42
          exfalso; omega
        | succ n39 ih39 =>
          intro σ33 y31 y32 h34 h35 h36 h37 h38 h39 h40 h41 h42
          refine En_Ps 2 (pc' := 41) (lv' := [(0, .ref 159), (1, .retAddr 1), (2, .int y31), (3, .int y32)]) (st' := [.retAddr 1, .int y32]) rfl ?_
          refine En_slen 0 5 rfl rfl (by decide) rfl ?_
          refine En_icGe _ rfl (by decide : (Int32.ofNat 5).toInt = 5) rfl (fun hx => by exfalso; omega) (fun h43 => ?_)
          refine En_Ps 1 (pc' := 48) (lv' := [(0, .ref 159), (1, .retAddr 1), (2, .int y31), (3, .int y32)]) (st' := [.int y31]) rfl ?_
          refine En_iEq _ rfl rfl (fun h44 => ?_) (fun hx => by exfalso; omega)
          refine En_Ps 1 (pc' := 83) (lv' := [(0, .ref 159), (1, .retAddr 1), (2, .int y31), (3, .int y32)]) (st' := [.int y31]) rfl ?_
          exact En_ret (v := some (.int y31)) rfl rfl (retZ rfl rfl (by omega) (by omega)) ⟨h34, h35, y31, rfl, (by omega)⟩
      have := (by decide : (Int32.ofInt 0).toInt = 0)
      have := (by decide : (Int32.ofInt 0).toInt = 0)
      refine En_lv (lv := [(0, .ref 159), (1, .retAddr 1), (2, .int ((Int32.ofInt 0))), (3, .int ((Int32.ofInt 0)))]) ⟨rfl, rfl, rfl, rfl, trivial⟩ ?_
      exact key39 (Int.toNat (z2.toInt) + 1) σ0 ((Int32.ofInt 0)) ((Int32.ofInt 0)) hσ0 hF0 h1 h26 (by omega) (by omega) (by omega) (by omega) (by omega)
    · refine En_Ps 1 (pc' := 16) (lv' := [(0, .ref 159), (1, .retAddr 1)]) (st' := [.ref 159]) rfl ?_
      refine En_getI (j := 8) (l := 0) (u := 1600) rfl rfl rfl (by decide +kernel : TG 159 = 35) (by decide +kernel) hσ0 (by decide +kernel) (fun z46 h45 h47 h48 => ?_)
      refine En_Ps 1 (pc' := 20) (lv' := [(0, .ref 159), (1, .retAddr 1)]) (st' := [.ref 159, .int z46]) rfl ?_
      refine En_getI (j := 9) (l := 0) (u := 1600) rfl rfl rfl (by decide +kernel : TG 159 = 35) (by decide +kernel) hσ0 (by decide +kernel) (fun z50 h49 h51 h52 => ?_)
      refine En_Ps 1 (pc' := 24) (lv' := [(0, .ref 159), (1, .retAddr 1)]) (st' := [.int ((z46 - z50))]) rfl ?_
      refine En_top (subI rfl rfl (by omega) (by omega)) (fun z53 h54 => ?_)
      refine En_Ps 1 (pc' := 25) (lv' := [(0, .ref 159), (1, .retAddr 1)]) (st' := [.retAddr 1, .int z53]) rfl ?_
      refine En_slen 0 5 rfl rfl (by decide) rfl ?_
      refine En_icNe _ rfl (by decide : (Int32.ofNat 5).toInt = 5) rfl (fun h55 => ?_) (fun h55 => ?_)
      · refine En_Ps 4 (pc' := 39) (lv' := [(3, .int ((Int32.ofInt 0))), (2, .int ((Int32.ofInt 0))), (0, .ref 159), (1, .retAddr 1)]) (st' := []) rfl ?_
        have key39 : ∀ (n39 : Nat) (σ58 : SG) (y56 : Int32) (y57 : Int32), WT σ58 → Fr [] σ0 σ58 → (σ58 159)[12]? = some (.int z2) → (σ58 159)[10]? = some (.int z27) → (σ58 159)[8]? = some (.int z46) → (σ58 159)[9]? = some (.int z50) → 0 ≤ y56.toInt → y56.toInt ≤ 0 → 0 ≤ y57.toInt → y57.toInt ≤ 0 → z2.toInt - y56.toInt < (n39 : Int) → En 4 90 none mr_251 (P_251s0o σ0) 39 [(0, .ref 159), (1, .retAddr 1), (2, .int y56), (3, .int y57)] [] σ58 := by
          intro n39
          induction n39 with
          | zero =>
            intro σ58 y56 y57 h59 h60 h61 h62 h63 h64 h65 h66 h67 h68 h69
            exfalso; omega
          | succ n39 ih39 =>
            intro σ58 y56 y57 h59 h60 h61 h62 h63 h64 h65 h66 h67 h68 h69
            refine En_Ps 2 (pc' := 41) (lv' := [(0, .ref 159), (1, .retAddr 1), (2, .int y56), (3, .int y57)]) (st' := [.retAddr 1, .int y57]) rfl ?_
            refine En_slen 0 5 rfl rfl (by decide) rfl ?_
            refine En_icGe _ rfl (by decide : (Int32.ofNat 5).toInt = 5) rfl (fun hx => by exfalso; omega) (fun h70 => ?_)
            refine En_Ps 1 (pc' := 48) (lv' := [(0, .ref 159), (1, .retAddr 1), (2, .int y56), (3, .int y57)]) (st' := [.int y56]) rfl ?_
            refine En_iEq _ rfl rfl (fun h71 => ?_) (fun hx => by exfalso; omega)
            refine En_Ps 1 (pc' := 83) (lv' := [(0, .ref 159), (1, .retAddr 1), (2, .int y56), (3, .int y57)]) (st' := [.int y56]) rfl ?_
            exact En_ret (v := some (.int y56)) rfl rfl (retZ rfl rfl (by omega) (by omega)) ⟨h59, h60, y56, rfl, (by omega)⟩
        have := (by decide : (Int32.ofInt 0).toInt = 0)
        have := (by decide : (Int32.ofInt 0).toInt = 0)
        refine En_lv (lv := [(0, .ref 159), (1, .retAddr 1), (2, .int ((Int32.ofInt 0))), (3, .int ((Int32.ofInt 0)))]) ⟨rfl, rfl, rfl, rfl, trivial⟩ ?_
        exact key39 (Int.toNat (z2.toInt) + 1) σ0 ((Int32.ofInt 0)) ((Int32.ofInt 0)) hσ0 hF0 h1 h26 h45 h49 (by omega) (by omega) (by omega) (by omega) (by omega)
      · refine En_Ps 5 (pc' := 39) (lv' := [(3, .int ((Int32.ofInt 0))), (2, .int ((Int32.ofInt 1))), (0, .ref 159), (1, .retAddr 1)]) (st' := []) rfl ?_
        have key39 : ∀ (n39 : Nat) (σ74 : SG) (y72 : Int32) (y73 : Int32), WT σ74 → Fr [] σ0 σ74 → (σ74 159)[12]? = some (.int z2) → (σ74 159)[10]? = some (.int z27) → (σ74 159)[8]? = some (.int z46) → (σ74 159)[9]? = some (.int z50) → 0 ≤ y72.toInt → y72.toInt ≤ 1 → 0 ≤ y73.toInt → y73.toInt ≤ 5 → z46.toInt - y73.toInt < (n39 : Int) → En 4 90 none mr_251 (P_251s0o σ0) 39 [(0, .ref 159), (1, .retAddr 1), (2, .int y72), (3, .int y73)] [] σ74 := by
          intro n39
          induction n39 with
          | zero =>
            intro σ74 y72 y73 h75 h76 h77 h78 h79 h80 h81 h82 h83 h84 h85
            exfalso; omega
          | succ n39 ih39 =>
            intro σ74 y72 y73 h75 h76 h77 h78 h79 h80 h81 h82 h83 h84 h85
            refine En_Ps 2 (pc' := 41) (lv' := [(0, .ref 159), (1, .retAddr 1), (2, .int y72), (3, .int y73)]) (st' := [.retAddr 1, .int y73]) rfl ?_
            refine En_slen 0 5 rfl rfl (by decide) rfl ?_
            refine En_icGe _ rfl (by decide : (Int32.ofNat 5).toInt = 5) rfl (fun h86 => ?_) (fun h86 => ?_)
            · refine En_Ps 1 (pc' := 83) (lv' := [(0, .ref 159), (1, .retAddr 1), (2, .int y72), (3, .int y73)]) (st' := [.int y72]) rfl ?_
              exact En_ret (v := some (.int y72)) rfl rfl (retZ rfl rfl (by omega) (by omega)) ⟨h75, h76, y72, rfl, (by omega)⟩
            · refine En_Ps 1 (pc' := 48) (lv' := [(0, .ref 159), (1, .retAddr 1), (2, .int y72), (3, .int y73)]) (st' := [.int y72]) rfl ?_
              refine En_iEq _ rfl rfl (fun h87 => ?_) (fun h87 => ?_)
              · refine En_Ps 1 (pc' := 83) (lv' := [(0, .ref 159), (1, .retAddr 1), (2, .int y72), (3, .int y73)]) (st' := [.int y72]) rfl ?_
                exact En_ret (v := some (.int y72)) rfl rfl (retZ rfl rfl (by omega) (by omega)) ⟨h75, h76, y72, rfl, (by omega)⟩
              · refine En_Ps 1 (pc' := 52) (lv' := [(0, .ref 159), (1, .retAddr 1), (2, .int y72), (3, .int y73)]) (st' := [.ref 159]) rfl ?_
                refine En_getU (j := 4) (u := 163) (g' := 39) (q := 0) rfl rfl rfl (by decide +kernel : TG 159 = 35) (by decide +kernel) h75 (by decide +kernel) (by decide +kernel) (fun h88 => ?_)
                refine En_Ps 1 (pc' := 56) (lv' := [(0, .ref 159), (1, .retAddr 1), (2, .int y72), (3, .int y73)]) (st' := [.ref 159, .ref 163]) rfl ?_
                refine En_getK (j := 9) h80 rfl rfl rfl (by decide +kernel : TG 159 = 35) (by decide +kernel) ?_
                refine En_Ps 2 (pc' := 61) (lv' := [(0, .ref 159), (1, .retAddr 1), (2, .int y72), (3, .int y73)]) (st' := [.int ((z50 + y73)), .ref 163]) rfl ?_
                refine En_top (addI rfl rfl (by omega) (by omega)) (fun z90 h91 => ?_)
                refine En_bald (l := (-128)) (u := 127) rfl rfl (by decide +kernel : TG 163 = 39) (by decide +kernel) h75 (by omega) (lnI (by decide +kernel : LN _ = 1600) (by omega)) (FTsgl (by decide +kernel)) (fun z93 h92 h94 h95 => ?_)
                refine En_Ps 2 (pc' := 64) (lv' := [(0, .ref 159), (1, .retAddr 1), (2, .int y72), (3, .int y73)]) (st' := [.int y73, .retAddr 1, .int z93]) rfl ?_
                refine En_schar 0 5 rfl rfl rfl (by decide) (by omega) (by omega) rfl (fun z96 h97 h98 => ?_)
                refine En_icNe _ rfl rfl rfl (fun h99 => ?_) (fun h99 => ?_)
                · refine En_Ps 3 (pc' := 79) (lv' := [(3, .int ((y73 + Int32.ofInt 1))), (2, .int ((Int32.ofInt 0))), (0, .ref 159), (1, .retAddr 1)]) (st' := []) rfl ?_
                  refine En_lv1 (addI rfl (by decide : (Int32.ofInt 1).toInt = 1) (by omega) (by omega)) (fun z100 h101 => ?_)
                  refine En_Ps 1 (pc' := 39) (lv' := [(3, .int z100), (2, .int ((Int32.ofInt 0))), (0, .ref 159), (1, .retAddr 1)]) (st' := []) rfl ?_
                  have := (by decide : (Int32.ofInt 0).toInt = 0)
                  refine En_lv (lv := [(0, .ref 159), (1, .retAddr 1), (2, .int ((Int32.ofInt 0))), (3, .int z100)]) ⟨rfl, rfl, rfl, rfl, trivial⟩ ?_
                  exact ih39 σ74 ((Int32.ofInt 0)) z100 h75 h76 h77 h78 h79 h80 (by omega) (by omega) (by omega) (by omega) (by omega)
                · refine En_Ps 4 (pc' := 79) (lv' := [(3, .int ((y73 + Int32.ofInt 1))), (2, .int ((Int32.ofInt 1))), (0, .ref 159), (1, .retAddr 1)]) (st' := []) rfl ?_
                  refine En_lv1 (addI rfl (by decide : (Int32.ofInt 1).toInt = 1) (by omega) (by omega)) (fun z102 h103 => ?_)
                  refine En_Ps 1 (pc' := 39) (lv' := [(3, .int z102), (2, .int ((Int32.ofInt 1))), (0, .ref 159), (1, .retAddr 1)]) (st' := []) rfl ?_
                  have := (by decide : (Int32.ofInt 1).toInt = 1)
                  refine En_lv (lv := [(0, .ref 159), (1, .retAddr 1), (2, .int ((Int32.ofInt 1))), (3, .int z102)]) ⟨rfl, rfl, rfl, rfl, trivial⟩ ?_
                  exact ih39 σ74 ((Int32.ofInt 1)) z102 h75 h76 h77 h78 h79 h80 (by omega) (by omega) (by omega) (by omega) (by omega)
        have := (by decide : (Int32.ofInt 1).toInt = 1)
        have := (by decide : (Int32.ofInt 0).toInt = 0)
        refine En_lv (lv := [(0, .ref 159), (1, .retAddr 1), (2, .int ((Int32.ofInt 1))), (3, .int ((Int32.ofInt 0)))]) ⟨rfl, rfl, rfl, rfl, trivial⟩ ?_
        exact key39 (Int.toNat (z46.toInt) + 1) σ0 ((Int32.ofInt 1)) ((Int32.ofInt 0)) hσ0 hF0 h1 h26 h45 h49 (by omega) (by omega) (by omega) (by omega) (by omega)
noncomputable def isA0 (σ : SG) : Int := @dite Int (WT σ) (Classical.propDecidable _) (fun h => (match Classical.choose (c_251s0o σ h) with | some (.int y) => y.toInt | _ => 0)) (fun _ => 0)
abbrev P_251s0 (σ0 : SG) : PO := fun v σ => WT σ ∧ Fr [] σ0 σ ∧ ∃ ret : Int32, v = some (.int ret) ∧ -ret.toInt ≤ 0 ∧ ret.toInt - 1 ≤ 0 ∧ ret.toInt = isA0 σ0
theorem c_251s0 (σ0 : SG) (hσ0 : WT σ0) : En 4 90 none mr_251 (P_251s0 σ0) 0 [(0, .ref 159), (1, .retAddr 1)] [] σ0 := by
  obtain ⟨σ, g, h1, h2, ret, hv, h3⟩ := Classical.choose_spec (c_251s0o σ0 hσ0)
  have e : isA0 σ0 = ret.toInt := by unfold isA0; rw [dif_pos hσ0, hv]
  exact ⟨_, σ, g, h1, h2, ret, hv, (by omega)⟩
/-- DoorSchoolModel.is(Ljava/lang/String;)Z -/
abbrev P_251s1o (σ0 : SG) : PO := fun v σ => WT σ ∧ Fr [] σ0 σ ∧ ∃ ret : Int32, v = some (.int ret) ∧ -ret.toInt ≤ 0 ∧ ret.toInt - 1 ≤ 0
set_option maxRecDepth 10000 in
set_option maxHeartbeats 4000000 in
theorem c_251s1o (σ0 : SG) (hσ0 : WT σ0) : En 4 90 none mr_251 (P_251s1o σ0) 0 [(0, .ref 159), (1, .retAddr 3)] [] σ0 := by
  have hF0 : Fr [] σ0 σ0 := Fr_rfl
  refine En_Ps 1 (pc' := 1) (lv' := [(0, .ref 159), (1, .retAddr 3)]) (st' := [.ref 159]) rfl ?_
  obtain ⟨z2, h1, h3, h4⟩ := WT_peekI hσ0 (by decide +kernel : TG 159 = 35) (by decide +kernel : FT 35 12 = (0, 0, 3)) (by decide +kernel)
  refine En_callV rfl rfl rfl rfl rfl rfl rfl rfl (by decide +kernel : TG 159 = 35) (by decide +kernel) rfl (c_237 σ0 hσ0 z2 h1) (by decide) (by decide) (fun v6 σ7 h5 => ?_)
  obtain ⟨h8, h9, z11, rfl, h10⟩ := h5
  obtain rfl : σ0 = σ7 := Fr_nil h9
  refine En_iEq _ rfl rfl (fun h12 => ?_) (fun h12 => ?_)
  · refine En_Ps 4 (pc' := 39) (lv' := [(3, .int ((Int32.ofInt 0))), (2, .int ((Int32.ofInt 0))), (0, .ref 159), (1, .retAddr 3)]) (st' := []) rfl ?_
    have key39 : ∀ (n39 : Nat) (σ15 : SG) (y13 : Int32) (y14 : Int32), WT σ15 → Fr [] σ0 σ15 → (σ15 159)[12]? = some (.int z2) → 0 ≤ y13.toInt → y13.toInt ≤ 0 → 0 ≤ y14.toInt → y14.toInt ≤ 0 → z2.toInt - y13.toInt < (n39 : Int) → En 4 90 none mr_251 (P_251s1o σ0) 39 [(0, .ref 159), (1, .retAddr 3), (2, .int y13), (3, .int y14)] [] σ15 := by
      intro n39
      induction n39 with
      | zero =>
        intro σ15 y13 y14 h16 h17 h18 h19 h20 h21 h22 h23
        exfalso; omega
      | succ n39 ih39 =>
        intro σ15 y13 y14 h16 h17 h18 h19 h20 h21 h22 h23
        refine En_Ps 2 (pc' := 41) (lv' := [(0, .ref 159), (1, .retAddr 3), (2, .int y13), (3, .int y14)]) (st' := [.retAddr 3, .int y14]) rfl ?_
        refine En_slen 1 6 rfl rfl (by decide) rfl ?_
        refine En_icGe _ rfl (by decide : (Int32.ofNat 6).toInt = 6) rfl (fun hx => by exfalso; omega) (fun h24 => ?_)
        refine En_Ps 1 (pc' := 48) (lv' := [(0, .ref 159), (1, .retAddr 3), (2, .int y13), (3, .int y14)]) (st' := [.int y13]) rfl ?_
        refine En_iEq _ rfl rfl (fun h25 => ?_) (fun hx => by exfalso; omega)
        refine En_Ps 1 (pc' := 83) (lv' := [(0, .ref 159), (1, .retAddr 3), (2, .int y13), (3, .int y14)]) (st' := [.int y13]) rfl ?_
        exact En_ret (v := some (.int y13)) rfl rfl (retZ rfl rfl (by omega) (by omega)) ⟨h16, h17, y13, rfl, (by omega)⟩
    have := (by decide : (Int32.ofInt 0).toInt = 0)
    have := (by decide : (Int32.ofInt 0).toInt = 0)
    refine En_lv (lv := [(0, .ref 159), (1, .retAddr 3), (2, .int ((Int32.ofInt 0))), (3, .int ((Int32.ofInt 0)))]) ⟨rfl, rfl, rfl, rfl, trivial⟩ ?_
    exact key39 (Int.toNat (z2.toInt) + 1) σ0 ((Int32.ofInt 0)) ((Int32.ofInt 0)) hσ0 hF0 h1 (by omega) (by omega) (by omega) (by omega) (by omega)
  · refine En_Ps 1 (pc' := 8) (lv' := [(0, .ref 159), (1, .retAddr 3)]) (st' := [.ref 159]) rfl ?_
    refine En_getI (j := 10) (l := 0) (u := 4) rfl rfl rfl (by decide +kernel : TG 159 = 35) (by decide +kernel) hσ0 (by decide +kernel) (fun z27 h26 h28 h29 => ?_)
    refine En_Ps 1 (pc' := 12) (lv' := [(0, .ref 159), (1, .retAddr 3)]) (st' := [.int ((Int32.ofInt 1)), .int z27]) rfl ?_
    refine En_icNe _ rfl (by decide : (Int32.ofInt 1).toInt = 1) rfl (fun h30 => ?_) (fun h30 => ?_)
    · refine En_Ps 4 (pc' := 39) (lv' := [(3, .int ((Int32.ofInt 0))), (2, .int ((Int32.ofInt 0))), (0, .ref 159), (1, .retAddr 3)]) (st' := []) rfl ?_
      have key39 : ∀ (n39 : Nat) (σ33 : SG) (y31 : Int32) (y32 : Int32), WT σ33 → Fr [] σ0 σ33 → (σ33 159)[12]? = some (.int z2) → (σ33 159)[10]? = some (.int z27) → 0 ≤ y31.toInt → y31.toInt ≤ 0 → 0 ≤ y32.toInt → y32.toInt ≤ 0 → z2.toInt - y31.toInt < (n39 : Int) → En 4 90 none mr_251 (P_251s1o σ0) 39 [(0, .ref 159), (1, .retAddr 3), (2, .int y31), (3, .int y32)] [] σ33 := by
        intro n39
        induction n39 with
        | zero =>
          intro σ33 y31 y32 h34 h35 h36 h37 h38 h39 h40 h41 h42
          exfalso; omega
        | succ n39 ih39 =>
          intro σ33 y31 y32 h34 h35 h36 h37 h38 h39 h40 h41 h42
          refine En_Ps 2 (pc' := 41) (lv' := [(0, .ref 159), (1, .retAddr 3), (2, .int y31), (3, .int y32)]) (st' := [.retAddr 3, .int y32]) rfl ?_
          refine En_slen 1 6 rfl rfl (by decide) rfl ?_
          refine En_icGe _ rfl (by decide : (Int32.ofNat 6).toInt = 6) rfl (fun hx => by exfalso; omega) (fun h43 => ?_)
          refine En_Ps 1 (pc' := 48) (lv' := [(0, .ref 159), (1, .retAddr 3), (2, .int y31), (3, .int y32)]) (st' := [.int y31]) rfl ?_
          refine En_iEq _ rfl rfl (fun h44 => ?_) (fun hx => by exfalso; omega)
          refine En_Ps 1 (pc' := 83) (lv' := [(0, .ref 159), (1, .retAddr 3), (2, .int y31), (3, .int y32)]) (st' := [.int y31]) rfl ?_
          exact En_ret (v := some (.int y31)) rfl rfl (retZ rfl rfl (by omega) (by omega)) ⟨h34, h35, y31, rfl, (by omega)⟩
      have := (by decide : (Int32.ofInt 0).toInt = 0)
      have := (by decide : (Int32.ofInt 0).toInt = 0)
      refine En_lv (lv := [(0, .ref 159), (1, .retAddr 3), (2, .int ((Int32.ofInt 0))), (3, .int ((Int32.ofInt 0)))]) ⟨rfl, rfl, rfl, rfl, trivial⟩ ?_
      exact key39 (Int.toNat (z2.toInt) + 1) σ0 ((Int32.ofInt 0)) ((Int32.ofInt 0)) hσ0 hF0 h1 h26 (by omega) (by omega) (by omega) (by omega) (by omega)
    · refine En_Ps 1 (pc' := 16) (lv' := [(0, .ref 159), (1, .retAddr 3)]) (st' := [.ref 159]) rfl ?_
      refine En_getI (j := 8) (l := 0) (u := 1600) rfl rfl rfl (by decide +kernel : TG 159 = 35) (by decide +kernel) hσ0 (by decide +kernel) (fun z46 h45 h47 h48 => ?_)
      refine En_Ps 1 (pc' := 20) (lv' := [(0, .ref 159), (1, .retAddr 3)]) (st' := [.ref 159, .int z46]) rfl ?_
      refine En_getI (j := 9) (l := 0) (u := 1600) rfl rfl rfl (by decide +kernel : TG 159 = 35) (by decide +kernel) hσ0 (by decide +kernel) (fun z50 h49 h51 h52 => ?_)
      refine En_Ps 1 (pc' := 24) (lv' := [(0, .ref 159), (1, .retAddr 3)]) (st' := [.int ((z46 - z50))]) rfl ?_
      refine En_top (subI rfl rfl (by omega) (by omega)) (fun z53 h54 => ?_)
      refine En_Ps 1 (pc' := 25) (lv' := [(0, .ref 159), (1, .retAddr 3)]) (st' := [.retAddr 3, .int z53]) rfl ?_
      refine En_slen 1 6 rfl rfl (by decide) rfl ?_
      refine En_icNe _ rfl (by decide : (Int32.ofNat 6).toInt = 6) rfl (fun h55 => ?_) (fun h55 => ?_)
      · refine En_Ps 4 (pc' := 39) (lv' := [(3, .int ((Int32.ofInt 0))), (2, .int ((Int32.ofInt 0))), (0, .ref 159), (1, .retAddr 3)]) (st' := []) rfl ?_
        have key39 : ∀ (n39 : Nat) (σ58 : SG) (y56 : Int32) (y57 : Int32), WT σ58 → Fr [] σ0 σ58 → (σ58 159)[12]? = some (.int z2) → (σ58 159)[10]? = some (.int z27) → (σ58 159)[8]? = some (.int z46) → (σ58 159)[9]? = some (.int z50) → 0 ≤ y56.toInt → y56.toInt ≤ 0 → 0 ≤ y57.toInt → y57.toInt ≤ 0 → z2.toInt - y56.toInt < (n39 : Int) → En 4 90 none mr_251 (P_251s1o σ0) 39 [(0, .ref 159), (1, .retAddr 3), (2, .int y56), (3, .int y57)] [] σ58 := by
          intro n39
          induction n39 with
          | zero =>
            intro σ58 y56 y57 h59 h60 h61 h62 h63 h64 h65 h66 h67 h68 h69
            exfalso; omega
          | succ n39 ih39 =>
            intro σ58 y56 y57 h59 h60 h61 h62 h63 h64 h65 h66 h67 h68 h69
            refine En_Ps 2 (pc' := 41) (lv' := [(0, .ref 159), (1, .retAddr 3), (2, .int y56), (3, .int y57)]) (st' := [.retAddr 3, .int y57]) rfl ?_
            refine En_slen 1 6 rfl rfl (by decide) rfl ?_
            refine En_icGe _ rfl (by decide : (Int32.ofNat 6).toInt = 6) rfl (fun hx => by exfalso; omega) (fun h70 => ?_)
            refine En_Ps 1 (pc' := 48) (lv' := [(0, .ref 159), (1, .retAddr 3), (2, .int y56), (3, .int y57)]) (st' := [.int y56]) rfl ?_
            refine En_iEq _ rfl rfl (fun h71 => ?_) (fun hx => by exfalso; omega)
            refine En_Ps 1 (pc' := 83) (lv' := [(0, .ref 159), (1, .retAddr 3), (2, .int y56), (3, .int y57)]) (st' := [.int y56]) rfl ?_
            exact En_ret (v := some (.int y56)) rfl rfl (retZ rfl rfl (by omega) (by omega)) ⟨h59, h60, y56, rfl, (by omega)⟩
        have := (by decide : (Int32.ofInt 0).toInt = 0)
        have := (by decide : (Int32.ofInt 0).toInt = 0)
        refine En_lv (lv := [(0, .ref 159), (1, .retAddr 3), (2, .int ((Int32.ofInt 0))), (3, .int ((Int32.ofInt 0)))]) ⟨rfl, rfl, rfl, rfl, trivial⟩ ?_
        exact key39 (Int.toNat (z2.toInt) + 1) σ0 ((Int32.ofInt 0)) ((Int32.ofInt 0)) hσ0 hF0 h1 h26 h45 h49 (by omega) (by omega) (by omega) (by omega) (by omega)
      · refine En_Ps 5 (pc' := 39) (lv' := [(3, .int ((Int32.ofInt 0))), (2, .int ((Int32.ofInt 1))), (0, .ref 159), (1, .retAddr 3)]) (st' := []) rfl ?_
        have key39 : ∀ (n39 : Nat) (σ74 : SG) (y72 : Int32) (y73 : Int32), WT σ74 → Fr [] σ0 σ74 → (σ74 159)[12]? = some (.int z2) → (σ74 159)[10]? = some (.int z27) → (σ74 159)[8]? = some (.int z46) → (σ74 159)[9]? = some (.int z50) → 0 ≤ y72.toInt → y72.toInt ≤ 1 → 0 ≤ y73.toInt → y73.toInt ≤ 6 → z46.toInt - y73.toInt < (n39 : Int) → En 4 90 none mr_251 (P_251s1o σ0) 39 [(0, .ref 159), (1, .retAddr 3), (2, .int y72), (3, .int y73)] [] σ74 := by
          intro n39
          induction n39 with
          | zero =>
            intro σ74 y72 y73 h75 h76 h77 h78 h79 h80 h81 h82 h83 h84 h85
            exfalso; omega
          | succ n39 ih39 =>
            intro σ74 y72 y73 h75 h76 h77 h78 h79 h80 h81 h82 h83 h84 h85
            refine En_Ps 2 (pc' := 41) (lv' := [(0, .ref 159), (1, .retAddr 3), (2, .int y72), (3, .int y73)]) (st' := [.retAddr 3, .int y73]) rfl ?_
            refine En_slen 1 6 rfl rfl (by decide) rfl ?_
            refine En_icGe _ rfl (by decide : (Int32.ofNat 6).toInt = 6) rfl (fun h86 => ?_) (fun h86 => ?_)
            · refine En_Ps 1 (pc' := 83) (lv' := [(0, .ref 159), (1, .retAddr 3), (2, .int y72), (3, .int y73)]) (st' := [.int y72]) rfl ?_
              exact En_ret (v := some (.int y72)) rfl rfl (retZ rfl rfl (by omega) (by omega)) ⟨h75, h76, y72, rfl, (by omega)⟩
            · refine En_Ps 1 (pc' := 48) (lv' := [(0, .ref 159), (1, .retAddr 3), (2, .int y72), (3, .int y73)]) (st' := [.int y72]) rfl ?_
              refine En_iEq _ rfl rfl (fun h87 => ?_) (fun h87 => ?_)
              · refine En_Ps 1 (pc' := 83) (lv' := [(0, .ref 159), (1, .retAddr 3), (2, .int y72), (3, .int y73)]) (st' := [.int y72]) rfl ?_
                exact En_ret (v := some (.int y72)) rfl rfl (retZ rfl rfl (by omega) (by omega)) ⟨h75, h76, y72, rfl, (by omega)⟩
              · refine En_Ps 1 (pc' := 52) (lv' := [(0, .ref 159), (1, .retAddr 3), (2, .int y72), (3, .int y73)]) (st' := [.ref 159]) rfl ?_
                refine En_getU (j := 4) (u := 163) (g' := 39) (q := 0) rfl rfl rfl (by decide +kernel : TG 159 = 35) (by decide +kernel) h75 (by decide +kernel) (by decide +kernel) (fun h88 => ?_)
                refine En_Ps 1 (pc' := 56) (lv' := [(0, .ref 159), (1, .retAddr 3), (2, .int y72), (3, .int y73)]) (st' := [.ref 159, .ref 163]) rfl ?_
                refine En_getK (j := 9) h80 rfl rfl rfl (by decide +kernel : TG 159 = 35) (by decide +kernel) ?_
                refine En_Ps 2 (pc' := 61) (lv' := [(0, .ref 159), (1, .retAddr 3), (2, .int y72), (3, .int y73)]) (st' := [.int ((z50 + y73)), .ref 163]) rfl ?_
                refine En_top (addI rfl rfl (by omega) (by omega)) (fun z90 h91 => ?_)
                refine En_bald (l := (-128)) (u := 127) rfl rfl (by decide +kernel : TG 163 = 39) (by decide +kernel) h75 (by omega) (lnI (by decide +kernel : LN _ = 1600) (by omega)) (FTsgl (by decide +kernel)) (fun z93 h92 h94 h95 => ?_)
                refine En_Ps 2 (pc' := 64) (lv' := [(0, .ref 159), (1, .retAddr 3), (2, .int y72), (3, .int y73)]) (st' := [.int y73, .retAddr 3, .int z93]) rfl ?_
                refine En_schar 1 6 rfl rfl rfl (by decide) (by omega) (by omega) rfl (fun z96 h97 h98 => ?_)
                refine En_icNe _ rfl rfl rfl (fun h99 => ?_) (fun h99 => ?_)
                · refine En_Ps 3 (pc' := 79) (lv' := [(3, .int ((y73 + Int32.ofInt 1))), (2, .int ((Int32.ofInt 0))), (0, .ref 159), (1, .retAddr 3)]) (st' := []) rfl ?_
                  refine En_lv1 (addI rfl (by decide : (Int32.ofInt 1).toInt = 1) (by omega) (by omega)) (fun z100 h101 => ?_)
                  refine En_Ps 1 (pc' := 39) (lv' := [(3, .int z100), (2, .int ((Int32.ofInt 0))), (0, .ref 159), (1, .retAddr 3)]) (st' := []) rfl ?_
                  have := (by decide : (Int32.ofInt 0).toInt = 0)
                  refine En_lv (lv := [(0, .ref 159), (1, .retAddr 3), (2, .int ((Int32.ofInt 0))), (3, .int z100)]) ⟨rfl, rfl, rfl, rfl, trivial⟩ ?_
                  exact ih39 σ74 ((Int32.ofInt 0)) z100 h75 h76 h77 h78 h79 h80 (by omega) (by omega) (by omega) (by omega) (by omega)
                · refine En_Ps 4 (pc' := 79) (lv' := [(3, .int ((y73 + Int32.ofInt 1))), (2, .int ((Int32.ofInt 1))), (0, .ref 159), (1, .retAddr 3)]) (st' := []) rfl ?_
                  refine En_lv1 (addI rfl (by decide : (Int32.ofInt 1).toInt = 1) (by omega) (by omega)) (fun z102 h103 => ?_)
                  refine En_Ps 1 (pc' := 39) (lv' := [(3, .int z102), (2, .int ((Int32.ofInt 1))), (0, .ref 159), (1, .retAddr 3)]) (st' := []) rfl ?_
                  have := (by decide : (Int32.ofInt 1).toInt = 1)
                  refine En_lv (lv := [(0, .ref 159), (1, .retAddr 3), (2, .int ((Int32.ofInt 1))), (3, .int z102)]) ⟨rfl, rfl, rfl, rfl, trivial⟩ ?_
                  exact ih39 σ74 ((Int32.ofInt 1)) z102 h75 h76 h77 h78 h79 h80 (by omega) (by omega) (by omega) (by omega) (by omega)
        have := (by decide : (Int32.ofInt 1).toInt = 1)
        have := (by decide : (Int32.ofInt 0).toInt = 0)
        refine En_lv (lv := [(0, .ref 159), (1, .retAddr 3), (2, .int ((Int32.ofInt 1))), (3, .int ((Int32.ofInt 0)))]) ⟨rfl, rfl, rfl, rfl, trivial⟩ ?_
        exact key39 (Int.toNat (z46.toInt) + 1) σ0 ((Int32.ofInt 1)) ((Int32.ofInt 0)) hσ0 hF0 h1 h26 h45 h49 (by omega) (by omega) (by omega) (by omega) (by omega)
noncomputable def isA1 (σ : SG) : Int := @dite Int (WT σ) (Classical.propDecidable _) (fun h => (match Classical.choose (c_251s1o σ h) with | some (.int y) => y.toInt | _ => 0)) (fun _ => 0)
abbrev P_251s1 (σ0 : SG) : PO := fun v σ => WT σ ∧ Fr [] σ0 σ ∧ ∃ ret : Int32, v = some (.int ret) ∧ -ret.toInt ≤ 0 ∧ ret.toInt - 1 ≤ 0 ∧ ret.toInt = isA1 σ0
theorem c_251s1 (σ0 : SG) (hσ0 : WT σ0) : En 4 90 none mr_251 (P_251s1 σ0) 0 [(0, .ref 159), (1, .retAddr 3)] [] σ0 := by
  obtain ⟨σ, g, h1, h2, ret, hv, h3⟩ := Classical.choose_spec (c_251s1o σ0 hσ0)
  have e : isA1 σ0 = ret.toInt := by unfold isA1; rw [dif_pos hσ0, hv]
  exact ⟨_, σ, g, h1, h2, ret, hv, (by omega)⟩
/-- DoorSchoolModel.is(Ljava/lang/String;)Z -/
abbrev P_251s2o (σ0 : SG) : PO := fun v σ => WT σ ∧ Fr [] σ0 σ ∧ ∃ ret : Int32, v = some (.int ret) ∧ -ret.toInt ≤ 0 ∧ ret.toInt - 1 ≤ 0
set_option maxRecDepth 10000 in
set_option maxHeartbeats 4000000 in
theorem c_251s2o (σ0 : SG) (hσ0 : WT σ0) : En 4 90 none mr_251 (P_251s2o σ0) 0 [(0, .ref 159), (1, .retAddr 5)] [] σ0 := by
  have hF0 : Fr [] σ0 σ0 := Fr_rfl
  refine En_Ps 1 (pc' := 1) (lv' := [(0, .ref 159), (1, .retAddr 5)]) (st' := [.ref 159]) rfl ?_
  obtain ⟨z2, h1, h3, h4⟩ := WT_peekI hσ0 (by decide +kernel : TG 159 = 35) (by decide +kernel : FT 35 12 = (0, 0, 3)) (by decide +kernel)
  refine En_callV rfl rfl rfl rfl rfl rfl rfl rfl (by decide +kernel : TG 159 = 35) (by decide +kernel) rfl (c_237 σ0 hσ0 z2 h1) (by decide) (by decide) (fun v6 σ7 h5 => ?_)
  obtain ⟨h8, h9, z11, rfl, h10⟩ := h5
  obtain rfl : σ0 = σ7 := Fr_nil h9
  refine En_iEq _ rfl rfl (fun h12 => ?_) (fun h12 => ?_)
  · refine En_Ps 4 (pc' := 39) (lv' := [(3, .int ((Int32.ofInt 0))), (2, .int ((Int32.ofInt 0))), (0, .ref 159), (1, .retAddr 5)]) (st' := []) rfl ?_
    have key39 : ∀ (n39 : Nat) (σ15 : SG) (y13 : Int32) (y14 : Int32), WT σ15 → Fr [] σ0 σ15 → (σ15 159)[12]? = some (.int z2) → 0 ≤ y13.toInt → y13.toInt ≤ 0 → 0 ≤ y14.toInt → y14.toInt ≤ 0 → z2.toInt - y13.toInt < (n39 : Int) → En 4 90 none mr_251 (P_251s2o σ0) 39 [(0, .ref 159), (1, .retAddr 5), (2, .int y13), (3, .int y14)] [] σ15 := by
      intro n39
      induction n39 with
      | zero =>
        intro σ15 y13 y14 h16 h17 h18 h19 h20 h21 h22 h23
        exfalso; omega
      | succ n39 ih39 =>
        intro σ15 y13 y14 h16 h17 h18 h19 h20 h21 h22 h23
        refine En_Ps 2 (pc' := 41) (lv' := [(0, .ref 159), (1, .retAddr 5), (2, .int y13), (3, .int y14)]) (st' := [.retAddr 5, .int y14]) rfl ?_
        refine En_slen 2 4 rfl rfl (by decide) rfl ?_
        refine En_icGe _ rfl (by decide : (Int32.ofNat 4).toInt = 4) rfl (fun hx => by exfalso; omega) (fun h24 => ?_)
        refine En_Ps 1 (pc' := 48) (lv' := [(0, .ref 159), (1, .retAddr 5), (2, .int y13), (3, .int y14)]) (st' := [.int y13]) rfl ?_
        refine En_iEq _ rfl rfl (fun h25 => ?_) (fun hx => by exfalso; omega)
        refine En_Ps 1 (pc' := 83) (lv' := [(0, .ref 159), (1, .retAddr 5), (2, .int y13), (3, .int y14)]) (st' := [.int y13]) rfl ?_
        exact En_ret (v := some (.int y13)) rfl rfl (retZ rfl rfl (by omega) (by omega)) ⟨h16, h17, y13, rfl, (by omega)⟩
    have := (by decide : (Int32.ofInt 0).toInt = 0)
    have := (by decide : (Int32.ofInt 0).toInt = 0)
    refine En_lv (lv := [(0, .ref 159), (1, .retAddr 5), (2, .int ((Int32.ofInt 0))), (3, .int ((Int32.ofInt 0)))]) ⟨rfl, rfl, rfl, rfl, trivial⟩ ?_
    exact key39 (Int.toNat (z2.toInt) + 1) σ0 ((Int32.ofInt 0)) ((Int32.ofInt 0)) hσ0 hF0 h1 (by omega) (by omega) (by omega) (by omega) (by omega)
  · refine En_Ps 1 (pc' := 8) (lv' := [(0, .ref 159), (1, .retAddr 5)]) (st' := [.ref 159]) rfl ?_
    refine En_getI (j := 10) (l := 0) (u := 4) rfl rfl rfl (by decide +kernel : TG 159 = 35) (by decide +kernel) hσ0 (by decide +kernel) (fun z27 h26 h28 h29 => ?_)
    refine En_Ps 1 (pc' := 12) (lv' := [(0, .ref 159), (1, .retAddr 5)]) (st' := [.int ((Int32.ofInt 1)), .int z27]) rfl ?_
    refine En_icNe _ rfl (by decide : (Int32.ofInt 1).toInt = 1) rfl (fun h30 => ?_) (fun h30 => ?_)
    · refine En_Ps 4 (pc' := 39) (lv' := [(3, .int ((Int32.ofInt 0))), (2, .int ((Int32.ofInt 0))), (0, .ref 159), (1, .retAddr 5)]) (st' := []) rfl ?_
      have key39 : ∀ (n39 : Nat) (σ33 : SG) (y31 : Int32) (y32 : Int32), WT σ33 → Fr [] σ0 σ33 → (σ33 159)[12]? = some (.int z2) → (σ33 159)[10]? = some (.int z27) → 0 ≤ y31.toInt → y31.toInt ≤ 0 → 0 ≤ y32.toInt → y32.toInt ≤ 0 → z2.toInt - y31.toInt < (n39 : Int) → En 4 90 none mr_251 (P_251s2o σ0) 39 [(0, .ref 159), (1, .retAddr 5), (2, .int y31), (3, .int y32)] [] σ33 := by
        intro n39
        induction n39 with
        | zero =>
          intro σ33 y31 y32 h34 h35 h36 h37 h38 h39 h40 h41 h42
          exfalso; omega
        | succ n39 ih39 =>
          intro σ33 y31 y32 h34 h35 h36 h37 h38 h39 h40 h41 h42
          refine En_Ps 2 (pc' := 41) (lv' := [(0, .ref 159), (1, .retAddr 5), (2, .int y31), (3, .int y32)]) (st' := [.retAddr 5, .int y32]) rfl ?_
          refine En_slen 2 4 rfl rfl (by decide) rfl ?_
          refine En_icGe _ rfl (by decide : (Int32.ofNat 4).toInt = 4) rfl (fun hx => by exfalso; omega) (fun h43 => ?_)
          refine En_Ps 1 (pc' := 48) (lv' := [(0, .ref 159), (1, .retAddr 5), (2, .int y31), (3, .int y32)]) (st' := [.int y31]) rfl ?_
          refine En_iEq _ rfl rfl (fun h44 => ?_) (fun hx => by exfalso; omega)
          refine En_Ps 1 (pc' := 83) (lv' := [(0, .ref 159), (1, .retAddr 5), (2, .int y31), (3, .int y32)]) (st' := [.int y31]) rfl ?_
          exact En_ret (v := some (.int y31)) rfl rfl (retZ rfl rfl (by omega) (by omega)) ⟨h34, h35, y31, rfl, (by omega)⟩
      have := (by decide : (Int32.ofInt 0).toInt = 0)
      have := (by decide : (Int32.ofInt 0).toInt = 0)
      refine En_lv (lv := [(0, .ref 159), (1, .retAddr 5), (2, .int ((Int32.ofInt 0))), (3, .int ((Int32.ofInt 0)))]) ⟨rfl, rfl, rfl, rfl, trivial⟩ ?_
      exact key39 (Int.toNat (z2.toInt) + 1) σ0 ((Int32.ofInt 0)) ((Int32.ofInt 0)) hσ0 hF0 h1 h26 (by omega) (by omega) (by omega) (by omega) (by omega)
    · refine En_Ps 1 (pc' := 16) (lv' := [(0, .ref 159), (1, .retAddr 5)]) (st' := [.ref 159]) rfl ?_
      refine En_getI (j := 8) (l := 0) (u := 1600) rfl rfl rfl (by decide +kernel : TG 159 = 35) (by decide +kernel) hσ0 (by decide +kernel) (fun z46 h45 h47 h48 => ?_)
      refine En_Ps 1 (pc' := 20) (lv' := [(0, .ref 159), (1, .retAddr 5)]) (st' := [.ref 159, .int z46]) rfl ?_
      refine En_getI (j := 9) (l := 0) (u := 1600) rfl rfl rfl (by decide +kernel : TG 159 = 35) (by decide +kernel) hσ0 (by decide +kernel) (fun z50 h49 h51 h52 => ?_)
      refine En_Ps 1 (pc' := 24) (lv' := [(0, .ref 159), (1, .retAddr 5)]) (st' := [.int ((z46 - z50))]) rfl ?_
      refine En_top (subI rfl rfl (by omega) (by omega)) (fun z53 h54 => ?_)
      refine En_Ps 1 (pc' := 25) (lv' := [(0, .ref 159), (1, .retAddr 5)]) (st' := [.retAddr 5, .int z53]) rfl ?_
      refine En_slen 2 4 rfl rfl (by decide) rfl ?_
      refine En_icNe _ rfl (by decide : (Int32.ofNat 4).toInt = 4) rfl (fun h55 => ?_) (fun h55 => ?_)
      · refine En_Ps 4 (pc' := 39) (lv' := [(3, .int ((Int32.ofInt 0))), (2, .int ((Int32.ofInt 0))), (0, .ref 159), (1, .retAddr 5)]) (st' := []) rfl ?_
        have key39 : ∀ (n39 : Nat) (σ58 : SG) (y56 : Int32) (y57 : Int32), WT σ58 → Fr [] σ0 σ58 → (σ58 159)[12]? = some (.int z2) → (σ58 159)[10]? = some (.int z27) → (σ58 159)[8]? = some (.int z46) → (σ58 159)[9]? = some (.int z50) → 0 ≤ y56.toInt → y56.toInt ≤ 0 → 0 ≤ y57.toInt → y57.toInt ≤ 0 → z2.toInt - y56.toInt < (n39 : Int) → En 4 90 none mr_251 (P_251s2o σ0) 39 [(0, .ref 159), (1, .retAddr 5), (2, .int y56), (3, .int y57)] [] σ58 := by
          intro n39
          induction n39 with
          | zero =>
            intro σ58 y56 y57 h59 h60 h61 h62 h63 h64 h65 h66 h67 h68 h69
            exfalso; omega
          | succ n39 ih39 =>
            intro σ58 y56 y57 h59 h60 h61 h62 h63 h64 h65 h66 h67 h68 h69
            refine En_Ps 2 (pc' := 41) (lv' := [(0, .ref 159), (1, .retAddr 5), (2, .int y56), (3, .int y57)]) (st' := [.retAddr 5, .int y57]) rfl ?_
            refine En_slen 2 4 rfl rfl (by decide) rfl ?_
            refine En_icGe _ rfl (by decide : (Int32.ofNat 4).toInt = 4) rfl (fun hx => by exfalso; omega) (fun h70 => ?_)
            refine En_Ps 1 (pc' := 48) (lv' := [(0, .ref 159), (1, .retAddr 5), (2, .int y56), (3, .int y57)]) (st' := [.int y56]) rfl ?_
            refine En_iEq _ rfl rfl (fun h71 => ?_) (fun hx => by exfalso; omega)
            refine En_Ps 1 (pc' := 83) (lv' := [(0, .ref 159), (1, .retAddr 5), (2, .int y56), (3, .int y57)]) (st' := [.int y56]) rfl ?_
            exact En_ret (v := some (.int y56)) rfl rfl (retZ rfl rfl (by omega) (by omega)) ⟨h59, h60, y56, rfl, (by omega)⟩
        have := (by decide : (Int32.ofInt 0).toInt = 0)
        have := (by decide : (Int32.ofInt 0).toInt = 0)
        refine En_lv (lv := [(0, .ref 159), (1, .retAddr 5), (2, .int ((Int32.ofInt 0))), (3, .int ((Int32.ofInt 0)))]) ⟨rfl, rfl, rfl, rfl, trivial⟩ ?_
        exact key39 (Int.toNat (z2.toInt) + 1) σ0 ((Int32.ofInt 0)) ((Int32.ofInt 0)) hσ0 hF0 h1 h26 h45 h49 (by omega) (by omega) (by omega) (by omega) (by omega)
      · refine En_Ps 5 (pc' := 39) (lv' := [(3, .int ((Int32.ofInt 0))), (2, .int ((Int32.ofInt 1))), (0, .ref 159), (1, .retAddr 5)]) (st' := []) rfl ?_
        have key39 : ∀ (n39 : Nat) (σ74 : SG) (y72 : Int32) (y73 : Int32), WT σ74 → Fr [] σ0 σ74 → (σ74 159)[12]? = some (.int z2) → (σ74 159)[10]? = some (.int z27) → (σ74 159)[8]? = some (.int z46) → (σ74 159)[9]? = some (.int z50) → 0 ≤ y72.toInt → y72.toInt ≤ 1 → 0 ≤ y73.toInt → y73.toInt ≤ 4 → z46.toInt - y73.toInt < (n39 : Int) → En 4 90 none mr_251 (P_251s2o σ0) 39 [(0, .ref 159), (1, .retAddr 5), (2, .int y72), (3, .int y73)] [] σ74 := by
          intro n39
          induction n39 with
          | zero =>
            intro σ74 y72 y73 h75 h76 h77 h78 h79 h80 h81 h82 h83 h84 h85
            exfalso; omega
          | succ n39 ih39 =>
            intro σ74 y72 y73 h75 h76 h77 h78 h79 h80 h81 h82 h83 h84 h85
            refine En_Ps 2 (pc' := 41) (lv' := [(0, .ref 159), (1, .retAddr 5), (2, .int y72), (3, .int y73)]) (st' := [.retAddr 5, .int y73]) rfl ?_
            refine En_slen 2 4 rfl rfl (by decide) rfl ?_
            refine En_icGe _ rfl (by decide : (Int32.ofNat 4).toInt = 4) rfl (fun h86 => ?_) (fun h86 => ?_)
            · refine En_Ps 1 (pc' := 83) (lv' := [(0, .ref 159), (1, .retAddr 5), (2, .int y72), (3, .int y73)]) (st' := [.int y72]) rfl ?_
              exact En_ret (v := some (.int y72)) rfl rfl (retZ rfl rfl (by omega) (by omega)) ⟨h75, h76, y72, rfl, (by omega)⟩
            · refine En_Ps 1 (pc' := 48) (lv' := [(0, .ref 159), (1, .retAddr 5), (2, .int y72), (3, .int y73)]) (st' := [.int y72]) rfl ?_
              refine En_iEq _ rfl rfl (fun h87 => ?_) (fun h87 => ?_)
              · refine En_Ps 1 (pc' := 83) (lv' := [(0, .ref 159), (1, .retAddr 5), (2, .int y72), (3, .int y73)]) (st' := [.int y72]) rfl ?_
                exact En_ret (v := some (.int y72)) rfl rfl (retZ rfl rfl (by omega) (by omega)) ⟨h75, h76, y72, rfl, (by omega)⟩
              · refine En_Ps 1 (pc' := 52) (lv' := [(0, .ref 159), (1, .retAddr 5), (2, .int y72), (3, .int y73)]) (st' := [.ref 159]) rfl ?_
                refine En_getU (j := 4) (u := 163) (g' := 39) (q := 0) rfl rfl rfl (by decide +kernel : TG 159 = 35) (by decide +kernel) h75 (by decide +kernel) (by decide +kernel) (fun h88 => ?_)
                refine En_Ps 1 (pc' := 56) (lv' := [(0, .ref 159), (1, .retAddr 5), (2, .int y72), (3, .int y73)]) (st' := [.ref 159, .ref 163]) rfl ?_
                refine En_getK (j := 9) h80 rfl rfl rfl (by decide +kernel : TG 159 = 35) (by decide +kernel) ?_
                refine En_Ps 2 (pc' := 61) (lv' := [(0, .ref 159), (1, .retAddr 5), (2, .int y72), (3, .int y73)]) (st' := [.int ((z50 + y73)), .ref 163]) rfl ?_
                refine En_top (addI rfl rfl (by omega) (by omega)) (fun z90 h91 => ?_)
                refine En_bald (l := (-128)) (u := 127) rfl rfl (by decide +kernel : TG 163 = 39) (by decide +kernel) h75 (by omega) (lnI (by decide +kernel : LN _ = 1600) (by omega)) (FTsgl (by decide +kernel)) (fun z93 h92 h94 h95 => ?_)
                refine En_Ps 2 (pc' := 64) (lv' := [(0, .ref 159), (1, .retAddr 5), (2, .int y72), (3, .int y73)]) (st' := [.int y73, .retAddr 5, .int z93]) rfl ?_
                refine En_schar 2 4 rfl rfl rfl (by decide) (by omega) (by omega) rfl (fun z96 h97 h98 => ?_)
                refine En_icNe _ rfl rfl rfl (fun h99 => ?_) (fun h99 => ?_)
                · refine En_Ps 3 (pc' := 79) (lv' := [(3, .int ((y73 + Int32.ofInt 1))), (2, .int ((Int32.ofInt 0))), (0, .ref 159), (1, .retAddr 5)]) (st' := []) rfl ?_
                  refine En_lv1 (addI rfl (by decide : (Int32.ofInt 1).toInt = 1) (by omega) (by omega)) (fun z100 h101 => ?_)
                  refine En_Ps 1 (pc' := 39) (lv' := [(3, .int z100), (2, .int ((Int32.ofInt 0))), (0, .ref 159), (1, .retAddr 5)]) (st' := []) rfl ?_
                  have := (by decide : (Int32.ofInt 0).toInt = 0)
                  refine En_lv (lv := [(0, .ref 159), (1, .retAddr 5), (2, .int ((Int32.ofInt 0))), (3, .int z100)]) ⟨rfl, rfl, rfl, rfl, trivial⟩ ?_
                  exact ih39 σ74 ((Int32.ofInt 0)) z100 h75 h76 h77 h78 h79 h80 (by omega) (by omega) (by omega) (by omega) (by omega)
                · refine En_Ps 4 (pc' := 79) (lv' := [(3, .int ((y73 + Int32.ofInt 1))), (2, .int ((Int32.ofInt 1))), (0, .ref 159), (1, .retAddr 5)]) (st' := []) rfl ?_
                  refine En_lv1 (addI rfl (by decide : (Int32.ofInt 1).toInt = 1) (by omega) (by omega)) (fun z102 h103 => ?_)
                  refine En_Ps 1 (pc' := 39) (lv' := [(3, .int z102), (2, .int ((Int32.ofInt 1))), (0, .ref 159), (1, .retAddr 5)]) (st' := []) rfl ?_
                  have := (by decide : (Int32.ofInt 1).toInt = 1)
                  refine En_lv (lv := [(0, .ref 159), (1, .retAddr 5), (2, .int ((Int32.ofInt 1))), (3, .int z102)]) ⟨rfl, rfl, rfl, rfl, trivial⟩ ?_
                  exact ih39 σ74 ((Int32.ofInt 1)) z102 h75 h76 h77 h78 h79 h80 (by omega) (by omega) (by omega) (by omega) (by omega)
        have := (by decide : (Int32.ofInt 1).toInt = 1)
        have := (by decide : (Int32.ofInt 0).toInt = 0)
        refine En_lv (lv := [(0, .ref 159), (1, .retAddr 5), (2, .int ((Int32.ofInt 1))), (3, .int ((Int32.ofInt 0)))]) ⟨rfl, rfl, rfl, rfl, trivial⟩ ?_
        exact key39 (Int.toNat (z46.toInt) + 1) σ0 ((Int32.ofInt 1)) ((Int32.ofInt 0)) hσ0 hF0 h1 h26 h45 h49 (by omega) (by omega) (by omega) (by omega) (by omega)
noncomputable def isA2 (σ : SG) : Int := @dite Int (WT σ) (Classical.propDecidable _) (fun h => (match Classical.choose (c_251s2o σ h) with | some (.int y) => y.toInt | _ => 0)) (fun _ => 0)
abbrev P_251s2 (σ0 : SG) : PO := fun v σ => WT σ ∧ Fr [] σ0 σ ∧ ∃ ret : Int32, v = some (.int ret) ∧ -ret.toInt ≤ 0 ∧ ret.toInt - 1 ≤ 0 ∧ ret.toInt = isA2 σ0
theorem c_251s2 (σ0 : SG) (hσ0 : WT σ0) : En 4 90 none mr_251 (P_251s2 σ0) 0 [(0, .ref 159), (1, .retAddr 5)] [] σ0 := by
  obtain ⟨σ, g, h1, h2, ret, hv, h3⟩ := Classical.choose_spec (c_251s2o σ0 hσ0)
  have e : isA2 σ0 = ret.toInt := by unfold isA2; rw [dif_pos hσ0, hv]
  exact ⟨_, σ, g, h1, h2, ret, hv, (by omega)⟩
/-- DoorSchoolModel.is(Ljava/lang/String;)Z -/
abbrev P_251s3o (σ0 : SG) : PO := fun v σ => WT σ ∧ Fr [] σ0 σ ∧ ∃ ret : Int32, v = some (.int ret) ∧ -ret.toInt ≤ 0 ∧ ret.toInt - 1 ≤ 0
set_option maxRecDepth 10000 in
set_option maxHeartbeats 4000000 in
theorem c_251s3o (σ0 : SG) (hσ0 : WT σ0) : En 4 90 none mr_251 (P_251s3o σ0) 0 [(0, .ref 159), (1, .retAddr 7)] [] σ0 := by
  have hF0 : Fr [] σ0 σ0 := Fr_rfl
  refine En_Ps 1 (pc' := 1) (lv' := [(0, .ref 159), (1, .retAddr 7)]) (st' := [.ref 159]) rfl ?_
  obtain ⟨z2, h1, h3, h4⟩ := WT_peekI hσ0 (by decide +kernel : TG 159 = 35) (by decide +kernel : FT 35 12 = (0, 0, 3)) (by decide +kernel)
  refine En_callV rfl rfl rfl rfl rfl rfl rfl rfl (by decide +kernel : TG 159 = 35) (by decide +kernel) rfl (c_237 σ0 hσ0 z2 h1) (by decide) (by decide) (fun v6 σ7 h5 => ?_)
  obtain ⟨h8, h9, z11, rfl, h10⟩ := h5
  obtain rfl : σ0 = σ7 := Fr_nil h9
  refine En_iEq _ rfl rfl (fun h12 => ?_) (fun h12 => ?_)
  · refine En_Ps 4 (pc' := 39) (lv' := [(3, .int ((Int32.ofInt 0))), (2, .int ((Int32.ofInt 0))), (0, .ref 159), (1, .retAddr 7)]) (st' := []) rfl ?_
    have key39 : ∀ (n39 : Nat) (σ15 : SG) (y13 : Int32) (y14 : Int32), WT σ15 → Fr [] σ0 σ15 → (σ15 159)[12]? = some (.int z2) → 0 ≤ y13.toInt → y13.toInt ≤ 0 → 0 ≤ y14.toInt → y14.toInt ≤ 0 → z2.toInt - y13.toInt < (n39 : Int) → En 4 90 none mr_251 (P_251s3o σ0) 39 [(0, .ref 159), (1, .retAddr 7), (2, .int y13), (3, .int y14)] [] σ15 := by
      intro n39
      induction n39 with
      | zero =>
        intro σ15 y13 y14 h16 h17 h18 h19 h20 h21 h22 h23
        exfalso; omega
      | succ n39 ih39 =>
        intro σ15 y13 y14 h16 h17 h18 h19 h20 h21 h22 h23
        refine En_Ps 2 (pc' := 41) (lv' := [(0, .ref 159), (1, .retAddr 7), (2, .int y13), (3, .int y14)]) (st' := [.retAddr 7, .int y14]) rfl ?_
        refine En_slen 3 4 rfl rfl (by decide) rfl ?_
        refine En_icGe _ rfl (by decide : (Int32.ofNat 4).toInt = 4) rfl (fun hx => by exfalso; omega) (fun h24 => ?_)
        refine En_Ps 1 (pc' := 48) (lv' := [(0, .ref 159), (1, .retAddr 7), (2, .int y13), (3, .int y14)]) (st' := [.int y13]) rfl ?_
        refine En_iEq _ rfl rfl (fun h25 => ?_) (fun hx => by exfalso; omega)
        refine En_Ps 1 (pc' := 83) (lv' := [(0, .ref 159), (1, .retAddr 7), (2, .int y13), (3, .int y14)]) (st' := [.int y13]) rfl ?_
        exact En_ret (v := some (.int y13)) rfl rfl (retZ rfl rfl (by omega) (by omega)) ⟨h16, h17, y13, rfl, (by omega)⟩
    have := (by decide : (Int32.ofInt 0).toInt = 0)
    have := (by decide : (Int32.ofInt 0).toInt = 0)
    refine En_lv (lv := [(0, .ref 159), (1, .retAddr 7), (2, .int ((Int32.ofInt 0))), (3, .int ((Int32.ofInt 0)))]) ⟨rfl, rfl, rfl, rfl, trivial⟩ ?_
    exact key39 (Int.toNat (z2.toInt) + 1) σ0 ((Int32.ofInt 0)) ((Int32.ofInt 0)) hσ0 hF0 h1 (by omega) (by omega) (by omega) (by omega) (by omega)
  · refine En_Ps 1 (pc' := 8) (lv' := [(0, .ref 159), (1, .retAddr 7)]) (st' := [.ref 159]) rfl ?_
    refine En_getI (j := 10) (l := 0) (u := 4) rfl rfl rfl (by decide +kernel : TG 159 = 35) (by decide +kernel) hσ0 (by decide +kernel) (fun z27 h26 h28 h29 => ?_)
    refine En_Ps 1 (pc' := 12) (lv' := [(0, .ref 159), (1, .retAddr 7)]) (st' := [.int ((Int32.ofInt 1)), .int z27]) rfl ?_
    refine En_icNe _ rfl (by decide : (Int32.ofInt 1).toInt = 1) rfl (fun h30 => ?_) (fun h30 => ?_)
    · refine En_Ps 4 (pc' := 39) (lv' := [(3, .int ((Int32.ofInt 0))), (2, .int ((Int32.ofInt 0))), (0, .ref 159), (1, .retAddr 7)]) (st' := []) rfl ?_
      have key39 : ∀ (n39 : Nat) (σ33 : SG) (y31 : Int32) (y32 : Int32), WT σ33 → Fr [] σ0 σ33 → (σ33 159)[12]? = some (.int z2) → (σ33 159)[10]? = some (.int z27) → 0 ≤ y31.toInt → y31.toInt ≤ 0 → 0 ≤ y32.toInt → y32.toInt ≤ 0 → z2.toInt - y31.toInt < (n39 : Int) → En 4 90 none mr_251 (P_251s3o σ0) 39 [(0, .ref 159), (1, .retAddr 7), (2, .int y31), (3, .int y32)] [] σ33 := by
        intro n39
        induction n39 with
        | zero =>
          intro σ33 y31 y32 h34 h35 h36 h37 h38 h39 h40 h41 h42
          exfalso; omega
        | succ n39 ih39 =>
          intro σ33 y31 y32 h34 h35 h36 h37 h38 h39 h40 h41 h42
          refine En_Ps 2 (pc' := 41) (lv' := [(0, .ref 159), (1, .retAddr 7), (2, .int y31), (3, .int y32)]) (st' := [.retAddr 7, .int y32]) rfl ?_
          refine En_slen 3 4 rfl rfl (by decide) rfl ?_
          refine En_icGe _ rfl (by decide : (Int32.ofNat 4).toInt = 4) rfl (fun hx => by exfalso; omega) (fun h43 => ?_)
          refine En_Ps 1 (pc' := 48) (lv' := [(0, .ref 159), (1, .retAddr 7), (2, .int y31), (3, .int y32)]) (st' := [.int y31]) rfl ?_
          refine En_iEq _ rfl rfl (fun h44 => ?_) (fun hx => by exfalso; omega)
          refine En_Ps 1 (pc' := 83) (lv' := [(0, .ref 159), (1, .retAddr 7), (2, .int y31), (3, .int y32)]) (st' := [.int y31]) rfl ?_
          exact En_ret (v := some (.int y31)) rfl rfl (retZ rfl rfl (by omega) (by omega)) ⟨h34, h35, y31, rfl, (by omega)⟩
      have := (by decide : (Int32.ofInt 0).toInt = 0)
      have := (by decide : (Int32.ofInt 0).toInt = 0)
      refine En_lv (lv := [(0, .ref 159), (1, .retAddr 7), (2, .int ((Int32.ofInt 0))), (3, .int ((Int32.ofInt 0)))]) ⟨rfl, rfl, rfl, rfl, trivial⟩ ?_
      exact key39 (Int.toNat (z2.toInt) + 1) σ0 ((Int32.ofInt 0)) ((Int32.ofInt 0)) hσ0 hF0 h1 h26 (by omega) (by omega) (by omega) (by omega) (by omega)
    · refine En_Ps 1 (pc' := 16) (lv' := [(0, .ref 159), (1, .retAddr 7)]) (st' := [.ref 159]) rfl ?_
      refine En_getI (j := 8) (l := 0) (u := 1600) rfl rfl rfl (by decide +kernel : TG 159 = 35) (by decide +kernel) hσ0 (by decide +kernel) (fun z46 h45 h47 h48 => ?_)
      refine En_Ps 1 (pc' := 20) (lv' := [(0, .ref 159), (1, .retAddr 7)]) (st' := [.ref 159, .int z46]) rfl ?_
      refine En_getI (j := 9) (l := 0) (u := 1600) rfl rfl rfl (by decide +kernel : TG 159 = 35) (by decide +kernel) hσ0 (by decide +kernel) (fun z50 h49 h51 h52 => ?_)
      refine En_Ps 1 (pc' := 24) (lv' := [(0, .ref 159), (1, .retAddr 7)]) (st' := [.int ((z46 - z50))]) rfl ?_
      refine En_top (subI rfl rfl (by omega) (by omega)) (fun z53 h54 => ?_)
      refine En_Ps 1 (pc' := 25) (lv' := [(0, .ref 159), (1, .retAddr 7)]) (st' := [.retAddr 7, .int z53]) rfl ?_
      refine En_slen 3 4 rfl rfl (by decide) rfl ?_
      refine En_icNe _ rfl (by decide : (Int32.ofNat 4).toInt = 4) rfl (fun h55 => ?_) (fun h55 => ?_)
      · refine En_Ps 4 (pc' := 39) (lv' := [(3, .int ((Int32.ofInt 0))), (2, .int ((Int32.ofInt 0))), (0, .ref 159), (1, .retAddr 7)]) (st' := []) rfl ?_
        have key39 : ∀ (n39 : Nat) (σ58 : SG) (y56 : Int32) (y57 : Int32), WT σ58 → Fr [] σ0 σ58 → (σ58 159)[12]? = some (.int z2) → (σ58 159)[10]? = some (.int z27) → (σ58 159)[8]? = some (.int z46) → (σ58 159)[9]? = some (.int z50) → 0 ≤ y56.toInt → y56.toInt ≤ 0 → 0 ≤ y57.toInt → y57.toInt ≤ 0 → z2.toInt - y56.toInt < (n39 : Int) → En 4 90 none mr_251 (P_251s3o σ0) 39 [(0, .ref 159), (1, .retAddr 7), (2, .int y56), (3, .int y57)] [] σ58 := by
          intro n39
          induction n39 with
          | zero =>
            intro σ58 y56 y57 h59 h60 h61 h62 h63 h64 h65 h66 h67 h68 h69
            exfalso; omega
          | succ n39 ih39 =>
            intro σ58 y56 y57 h59 h60 h61 h62 h63 h64 h65 h66 h67 h68 h69
            refine En_Ps 2 (pc' := 41) (lv' := [(0, .ref 159), (1, .retAddr 7), (2, .int y56), (3, .int y57)]) (st' := [.retAddr 7, .int y57]) rfl ?_
            refine En_slen 3 4 rfl rfl (by decide) rfl ?_
            refine En_icGe _ rfl (by decide : (Int32.ofNat 4).toInt = 4) rfl (fun hx => by exfalso; omega) (fun h70 => ?_)
            refine En_Ps 1 (pc' := 48) (lv' := [(0, .ref 159), (1, .retAddr 7), (2, .int y56), (3, .int y57)]) (st' := [.int y56]) rfl ?_
            refine En_iEq _ rfl rfl (fun h71 => ?_) (fun hx => by exfalso; omega)
            refine En_Ps 1 (pc' := 83) (lv' := [(0, .ref 159), (1, .retAddr 7), (2, .int y56), (3, .int y57)]) (st' := [.int y56]) rfl ?_
            exact En_ret (v := some (.int y56)) rfl rfl (retZ rfl rfl (by omega) (by omega)) ⟨h59, h60, y56, rfl, (by omega)⟩
        have := (by decide : (Int32.ofInt 0).toInt = 0)
        have := (by decide : (Int32.ofInt 0).toInt = 0)
        refine En_lv (lv := [(0, .ref 159), (1, .retAddr 7), (2, .int ((Int32.ofInt 0))), (3, .int ((Int32.ofInt 0)))]) ⟨rfl, rfl, rfl, rfl, trivial⟩ ?_
        exact key39 (Int.toNat (z2.toInt) + 1) σ0 ((Int32.ofInt 0)) ((Int32.ofInt 0)) hσ0 hF0 h1 h26 h45 h49 (by omega) (by omega) (by omega) (by omega) (by omega)
      · refine En_Ps 5 (pc' := 39) (lv' := [(3, .int ((Int32.ofInt 0))), (2, .int ((Int32.ofInt 1))), (0, .ref 159), (1, .retAddr 7)]) (st' := []) rfl ?_
        have key39 : ∀ (n39 : Nat) (σ74 : SG) (y72 : Int32) (y73 : Int32), WT σ74 → Fr [] σ0 σ74 → (σ74 159)[12]? = some (.int z2) → (σ74 159)[10]? = some (.int z27) → (σ74 159)[8]? = some (.int z46) → (σ74 159)[9]? = some (.int z50) → 0 ≤ y72.toInt → y72.toInt ≤ 1 → 0 ≤ y73.toInt → y73.toInt ≤ 4 → z46.toInt - y73.toInt < (n39 : Int) → En 4 90 none mr_251 (P_251s3o σ0) 39 [(0, .ref 159), (1, .retAddr 7), (2, .int y72), (3, .int y73)] [] σ74 := by
          intro n39
          induction n39 with
          | zero =>
            intro σ74 y72 y73 h75 h76 h77 h78 h79 h80 h81 h82 h83 h84 h85
            exfalso; omega
          | succ n39 ih39 =>
            intro σ74 y72 y73 h75 h76 h77 h78 h79 h80 h81 h82 h83 h84 h85
            refine En_Ps 2 (pc' := 41) (lv' := [(0, .ref 159), (1, .retAddr 7), (2, .int y72), (3, .int y73)]) (st' := [.retAddr 7, .int y73]) rfl ?_
            refine En_slen 3 4 rfl rfl (by decide) rfl ?_
            refine En_icGe _ rfl (by decide : (Int32.ofNat 4).toInt = 4) rfl (fun h86 => ?_) (fun h86 => ?_)
            · refine En_Ps 1 (pc' := 83) (lv' := [(0, .ref 159), (1, .retAddr 7), (2, .int y72), (3, .int y73)]) (st' := [.int y72]) rfl ?_
              exact En_ret (v := some (.int y72)) rfl rfl (retZ rfl rfl (by omega) (by omega)) ⟨h75, h76, y72, rfl, (by omega)⟩
            · refine En_Ps 1 (pc' := 48) (lv' := [(0, .ref 159), (1, .retAddr 7), (2, .int y72), (3, .int y73)]) (st' := [.int y72]) rfl ?_
              refine En_iEq _ rfl rfl (fun h87 => ?_) (fun h87 => ?_)
              · refine En_Ps 1 (pc' := 83) (lv' := [(0, .ref 159), (1, .retAddr 7), (2, .int y72), (3, .int y73)]) (st' := [.int y72]) rfl ?_
                exact En_ret (v := some (.int y72)) rfl rfl (retZ rfl rfl (by omega) (by omega)) ⟨h75, h76, y72, rfl, (by omega)⟩
              · refine En_Ps 1 (pc' := 52) (lv' := [(0, .ref 159), (1, .retAddr 7), (2, .int y72), (3, .int y73)]) (st' := [.ref 159]) rfl ?_
                refine En_getU (j := 4) (u := 163) (g' := 39) (q := 0) rfl rfl rfl (by decide +kernel : TG 159 = 35) (by decide +kernel) h75 (by decide +kernel) (by decide +kernel) (fun h88 => ?_)
                refine En_Ps 1 (pc' := 56) (lv' := [(0, .ref 159), (1, .retAddr 7), (2, .int y72), (3, .int y73)]) (st' := [.ref 159, .ref 163]) rfl ?_
                refine En_getK (j := 9) h80 rfl rfl rfl (by decide +kernel : TG 159 = 35) (by decide +kernel) ?_
                refine En_Ps 2 (pc' := 61) (lv' := [(0, .ref 159), (1, .retAddr 7), (2, .int y72), (3, .int y73)]) (st' := [.int ((z50 + y73)), .ref 163]) rfl ?_
                refine En_top (addI rfl rfl (by omega) (by omega)) (fun z90 h91 => ?_)
                refine En_bald (l := (-128)) (u := 127) rfl rfl (by decide +kernel : TG 163 = 39) (by decide +kernel) h75 (by omega) (lnI (by decide +kernel : LN _ = 1600) (by omega)) (FTsgl (by decide +kernel)) (fun z93 h92 h94 h95 => ?_)
                refine En_Ps 2 (pc' := 64) (lv' := [(0, .ref 159), (1, .retAddr 7), (2, .int y72), (3, .int y73)]) (st' := [.int y73, .retAddr 7, .int z93]) rfl ?_
                refine En_schar 3 4 rfl rfl rfl (by decide) (by omega) (by omega) rfl (fun z96 h97 h98 => ?_)
                refine En_icNe _ rfl rfl rfl (fun h99 => ?_) (fun h99 => ?_)
                · refine En_Ps 3 (pc' := 79) (lv' := [(3, .int ((y73 + Int32.ofInt 1))), (2, .int ((Int32.ofInt 0))), (0, .ref 159), (1, .retAddr 7)]) (st' := []) rfl ?_
                  refine En_lv1 (addI rfl (by decide : (Int32.ofInt 1).toInt = 1) (by omega) (by omega)) (fun z100 h101 => ?_)
                  refine En_Ps 1 (pc' := 39) (lv' := [(3, .int z100), (2, .int ((Int32.ofInt 0))), (0, .ref 159), (1, .retAddr 7)]) (st' := []) rfl ?_
                  have := (by decide : (Int32.ofInt 0).toInt = 0)
                  refine En_lv (lv := [(0, .ref 159), (1, .retAddr 7), (2, .int ((Int32.ofInt 0))), (3, .int z100)]) ⟨rfl, rfl, rfl, rfl, trivial⟩ ?_
                  exact ih39 σ74 ((Int32.ofInt 0)) z100 h75 h76 h77 h78 h79 h80 (by omega) (by omega) (by omega) (by omega) (by omega)
                · refine En_Ps 4 (pc' := 79) (lv' := [(3, .int ((y73 + Int32.ofInt 1))), (2, .int ((Int32.ofInt 1))), (0, .ref 159), (1, .retAddr 7)]) (st' := []) rfl ?_
                  refine En_lv1 (addI rfl (by decide : (Int32.ofInt 1).toInt = 1) (by omega) (by omega)) (fun z102 h103 => ?_)
                  refine En_Ps 1 (pc' := 39) (lv' := [(3, .int z102), (2, .int ((Int32.ofInt 1))), (0, .ref 159), (1, .retAddr 7)]) (st' := []) rfl ?_
                  have := (by decide : (Int32.ofInt 1).toInt = 1)
                  refine En_lv (lv := [(0, .ref 159), (1, .retAddr 7), (2, .int ((Int32.ofInt 1))), (3, .int z102)]) ⟨rfl, rfl, rfl, rfl, trivial⟩ ?_
                  exact ih39 σ74 ((Int32.ofInt 1)) z102 h75 h76 h77 h78 h79 h80 (by omega) (by omega) (by omega) (by omega) (by omega)
        have := (by decide : (Int32.ofInt 1).toInt = 1)
        have := (by decide : (Int32.ofInt 0).toInt = 0)
        refine En_lv (lv := [(0, .ref 159), (1, .retAddr 7), (2, .int ((Int32.ofInt 1))), (3, .int ((Int32.ofInt 0)))]) ⟨rfl, rfl, rfl, rfl, trivial⟩ ?_
        exact key39 (Int.toNat (z46.toInt) + 1) σ0 ((Int32.ofInt 1)) ((Int32.ofInt 0)) hσ0 hF0 h1 h26 h45 h49 (by omega) (by omega) (by omega) (by omega) (by omega)
noncomputable def isA3 (σ : SG) : Int := @dite Int (WT σ) (Classical.propDecidable _) (fun h => (match Classical.choose (c_251s3o σ h) with | some (.int y) => y.toInt | _ => 0)) (fun _ => 0)
abbrev P_251s3 (σ0 : SG) : PO := fun v σ => WT σ ∧ Fr [] σ0 σ ∧ ∃ ret : Int32, v = some (.int ret) ∧ -ret.toInt ≤ 0 ∧ ret.toInt - 1 ≤ 0 ∧ ret.toInt = isA3 σ0
theorem c_251s3 (σ0 : SG) (hσ0 : WT σ0) : En 4 90 none mr_251 (P_251s3 σ0) 0 [(0, .ref 159), (1, .retAddr 7)] [] σ0 := by
  obtain ⟨σ, g, h1, h2, ret, hv, h3⟩ := Classical.choose_spec (c_251s3o σ0 hσ0)
  have e : isA3 σ0 = ret.toInt := by unfold isA3; rw [dif_pos hσ0, hv]
  exact ⟨_, σ, g, h1, h2, ret, hv, (by omega)⟩
/-- DoorSchoolModel.is(Ljava/lang/String;)Z -/
abbrev P_251s4o (σ0 : SG) : PO := fun v σ => WT σ ∧ Fr [] σ0 σ ∧ ∃ ret : Int32, v = some (.int ret) ∧ -ret.toInt ≤ 0 ∧ ret.toInt - 1 ≤ 0
set_option maxRecDepth 10000 in
set_option maxHeartbeats 4000000 in
theorem c_251s4o (σ0 : SG) (hσ0 : WT σ0) : En 4 90 none mr_251 (P_251s4o σ0) 0 [(0, .ref 159), (1, .retAddr 9)] [] σ0 := by
  have hF0 : Fr [] σ0 σ0 := Fr_rfl
  refine En_Ps 1 (pc' := 1) (lv' := [(0, .ref 159), (1, .retAddr 9)]) (st' := [.ref 159]) rfl ?_
  obtain ⟨z2, h1, h3, h4⟩ := WT_peekI hσ0 (by decide +kernel : TG 159 = 35) (by decide +kernel : FT 35 12 = (0, 0, 3)) (by decide +kernel)
  refine En_callV rfl rfl rfl rfl rfl rfl rfl rfl (by decide +kernel : TG 159 = 35) (by decide +kernel) rfl (c_237 σ0 hσ0 z2 h1) (by decide) (by decide) (fun v6 σ7 h5 => ?_)
  obtain ⟨h8, h9, z11, rfl, h10⟩ := h5
  obtain rfl : σ0 = σ7 := Fr_nil h9
  refine En_iEq _ rfl rfl (fun h12 => ?_) (fun h12 => ?_)
  · refine En_Ps 4 (pc' := 39) (lv' := [(3, .int ((Int32.ofInt 0))), (2, .int ((Int32.ofInt 0))), (0, .ref 159), (1, .retAddr 9)]) (st' := []) rfl ?_
    have key39 : ∀ (n39 : Nat) (σ15 : SG) (y13 : Int32) (y14 : Int32), WT σ15 → Fr [] σ0 σ15 → (σ15 159)[12]? = some (.int z2) → 0 ≤ y13.toInt → y13.toInt ≤ 0 → 0 ≤ y14.toInt → y14.toInt ≤ 0 → z2.toInt - y13.toInt < (n39 : Int) → En 4 90 none mr_251 (P_251s4o σ0) 39 [(0, .ref 159), (1, .retAddr 9), (2, .int y13), (3, .int y14)] [] σ15 := by
      intro n39
      induction n39 with
      | zero =>
        intro σ15 y13 y14 h16 h17 h18 h19 h20 h21 h22 h23
        exfalso; omega
      | succ n39 ih39 =>
        intro σ15 y13 y14 h16 h17 h18 h19 h20 h21 h22 h23
        refine En_Ps 2 (pc' := 41) (lv' := [(0, .ref 159), (1, .retAddr 9), (2, .int y13), (3, .int y14)]) (st' := [.retAddr 9, .int y14]) rfl ?_
        refine En_slen 4 5 rfl rfl (by decide) rfl ?_
        refine En_icGe _ rfl (by decide : (Int32.ofNat 5).toInt = 5) rfl (fun hx => by exfalso; omega) (fun h24 => ?_)
        refine En_Ps 1 (pc' := 48) (lv' := [(0, .ref 159), (1, .retAddr 9), (2, .int y13), (3, .int y14)]) (st' := [.int y13]) rfl ?_
        refine En_iEq _ rfl rfl (fun h25 => ?_) (fun hx => by exfalso; omega)
        refine En_Ps 1 (pc' := 83) (lv' := [(0, .ref 159), (1, .retAddr 9), (2, .int y13), (3, .int y14)]) (st' := [.int y13]) rfl ?_
        exact En_ret (v := some (.int y13)) rfl rfl (retZ rfl rfl (by omega) (by omega)) ⟨h16, h17, y13, rfl, (by omega)⟩
    have := (by decide : (Int32.ofInt 0).toInt = 0)
    have := (by decide : (Int32.ofInt 0).toInt = 0)
    refine En_lv (lv := [(0, .ref 159), (1, .retAddr 9), (2, .int ((Int32.ofInt 0))), (3, .int ((Int32.ofInt 0)))]) ⟨rfl, rfl, rfl, rfl, trivial⟩ ?_
    exact key39 (Int.toNat (z2.toInt) + 1) σ0 ((Int32.ofInt 0)) ((Int32.ofInt 0)) hσ0 hF0 h1 (by omega) (by omega) (by omega) (by omega) (by omega)
  · refine En_Ps 1 (pc' := 8) (lv' := [(0, .ref 159), (1, .retAddr 9)]) (st' := [.ref 159]) rfl ?_
    refine En_getI (j := 10) (l := 0) (u := 4) rfl rfl rfl (by decide +kernel : TG 159 = 35) (by decide +kernel) hσ0 (by decide +kernel) (fun z27 h26 h28 h29 => ?_)
    refine En_Ps 1 (pc' := 12) (lv' := [(0, .ref 159), (1, .retAddr 9)]) (st' := [.int ((Int32.ofInt 1)), .int z27]) rfl ?_
    refine En_icNe _ rfl (by decide : (Int32.ofInt 1).toInt = 1) rfl (fun h30 => ?_) (fun h30 => ?_)
    · refine En_Ps 4 (pc' := 39) (lv' := [(3, .int ((Int32.ofInt 0))), (2, .int ((Int32.ofInt 0))), (0, .ref 159), (1, .retAddr 9)]) (st' := []) rfl ?_
      have key39 : ∀ (n39 : Nat) (σ33 : SG) (y31 : Int32) (y32 : Int32), WT σ33 → Fr [] σ0 σ33 → (σ33 159)[12]? = some (.int z2) → (σ33 159)[10]? = some (.int z27) → 0 ≤ y31.toInt → y31.toInt ≤ 0 → 0 ≤ y32.toInt → y32.toInt ≤ 0 → z2.toInt - y31.toInt < (n39 : Int) → En 4 90 none mr_251 (P_251s4o σ0) 39 [(0, .ref 159), (1, .retAddr 9), (2, .int y31), (3, .int y32)] [] σ33 := by
        intro n39
        induction n39 with
        | zero =>
          intro σ33 y31 y32 h34 h35 h36 h37 h38 h39 h40 h41 h42
          exfalso; omega
        | succ n39 ih39 =>
          intro σ33 y31 y32 h34 h35 h36 h37 h38 h39 h40 h41 h42
          refine En_Ps 2 (pc' := 41) (lv' := [(0, .ref 159), (1, .retAddr 9), (2, .int y31), (3, .int y32)]) (st' := [.retAddr 9, .int y32]) rfl ?_
          refine En_slen 4 5 rfl rfl (by decide) rfl ?_
          refine En_icGe _ rfl (by decide : (Int32.ofNat 5).toInt = 5) rfl (fun hx => by exfalso; omega) (fun h43 => ?_)
          refine En_Ps 1 (pc' := 48) (lv' := [(0, .ref 159), (1, .retAddr 9), (2, .int y31), (3, .int y32)]) (st' := [.int y31]) rfl ?_
          refine En_iEq _ rfl rfl (fun h44 => ?_) (fun hx => by exfalso; omega)
          refine En_Ps 1 (pc' := 83) (lv' := [(0, .ref 159), (1, .retAddr 9), (2, .int y31), (3, .int y32)]) (st' := [.int y31]) rfl ?_
          exact En_ret (v := some (.int y31)) rfl rfl (retZ rfl rfl (by omega) (by omega)) ⟨h34, h35, y31, rfl, (by omega)⟩
      have := (by decide : (Int32.ofInt 0).toInt = 0)
      have := (by decide : (Int32.ofInt 0).toInt = 0)
      refine En_lv (lv := [(0, .ref 159), (1, .retAddr 9), (2, .int ((Int32.ofInt 0))), (3, .int ((Int32.ofInt 0)))]) ⟨rfl, rfl, rfl, rfl, trivial⟩ ?_
      exact key39 (Int.toNat (z2.toInt) + 1) σ0 ((Int32.ofInt 0)) ((Int32.ofInt 0)) hσ0 hF0 h1 h26 (by omega) (by omega) (by omega) (by omega) (by omega)
    · refine En_Ps 1 (pc' := 16) (lv' := [(0, .ref 159), (1, .retAddr 9)]) (st' := [.ref 159]) rfl ?_
      refine En_getI (j := 8) (l := 0) (u := 1600) rfl rfl rfl (by decide +kernel : TG 159 = 35) (by decide +kernel) hσ0 (by decide +kernel) (fun z46 h45 h47 h48 => ?_)
      refine En_Ps 1 (pc' := 20) (lv' := [(0, .ref 159), (1, .retAddr 9)]) (st' := [.ref 159, .int z46]) rfl ?_
      refine En_getI (j := 9) (l := 0) (u := 1600) rfl rfl rfl (by decide +kernel : TG 159 = 35) (by decide +kernel) hσ0 (by decide +kernel) (fun z50 h49 h51 h52 => ?_)
      refine En_Ps 1 (pc' := 24) (lv' := [(0, .ref 159), (1, .retAddr 9)]) (st' := [.int ((z46 - z50))]) rfl ?_
      refine En_top (subI rfl rfl (by omega) (by omega)) (fun z53 h54 => ?_)
      refine En_Ps 1 (pc' := 25) (lv' := [(0, .ref 159), (1, .retAddr 9)]) (st' := [.retAddr 9, .int z53]) rfl ?_
      refine En_slen 4 5 rfl rfl (by decide) rfl ?_
      refine En_icNe _ rfl (by decide : (Int32.ofNat 5).toInt = 5) rfl (fun h55 => ?_) (fun h55 => ?_)
      · refine En_Ps 4 (pc' := 39) (lv' := [(3, .int ((Int32.ofInt 0))), (2, .int ((Int32.ofInt 0))), (0, .ref 159), (1, .retAddr 9)]) (st' := []) rfl ?_
        have key39 : ∀ (n39 : Nat) (σ58 : SG) (y56 : Int32) (y57 : Int32), WT σ58 → Fr [] σ0 σ58 → (σ58 159)[12]? = some (.int z2) → (σ58 159)[10]? = some (.int z27) → (σ58 159)[8]? = some (.int z46) → (σ58 159)[9]? = some (.int z50) → 0 ≤ y56.toInt → y56.toInt ≤ 0 → 0 ≤ y57.toInt → y57.toInt ≤ 0 → z2.toInt - y56.toInt < (n39 : Int) → En 4 90 none mr_251 (P_251s4o σ0) 39 [(0, .ref 159), (1, .retAddr 9), (2, .int y56), (3, .int y57)] [] σ58 := by
          intro n39
          induction n39 with
          | zero =>
            intro σ58 y56 y57 h59 h60 h61 h62 h63 h64 h65 h66 h67 h68 h69
            exfalso; omega
          | succ n39 ih39 =>
            intro σ58 y56 y57 h59 h60 h61 h62 h63 h64 h65 h66 h67 h68 h69
            refine En_Ps 2 (pc' := 41) (lv' := [(0, .ref 159), (1, .retAddr 9), (2, .int y56), (3, .int y57)]) (st' := [.retAddr 9, .int y57]) rfl ?_
            refine En_slen 4 5 rfl rfl (by decide) rfl ?_
            refine En_icGe _ rfl (by decide : (Int32.ofNat 5).toInt = 5) rfl (fun hx => by exfalso; omega) (fun h70 => ?_)
            refine En_Ps 1 (pc' := 48) (lv' := [(0, .ref 159), (1, .retAddr 9), (2, .int y56), (3, .int y57)]) (st' := [.int y56]) rfl ?_
            refine En_iEq _ rfl rfl (fun h71 => ?_) (fun hx => by exfalso; omega)
            refine En_Ps 1 (pc' := 83) (lv' := [(0, .ref 159), (1, .retAddr 9), (2, .int y56), (3, .int y57)]) (st' := [.int y56]) rfl ?_
            exact En_ret (v := some (.int y56)) rfl rfl (retZ rfl rfl (by omega) (by omega)) ⟨h59, h60, y56, rfl, (by omega)⟩
        have := (by decide : (Int32.ofInt 0).toInt = 0)
        have := (by decide : (Int32.ofInt 0).toInt = 0)
        refine En_lv (lv := [(0, .ref 159), (1, .retAddr 9), (2, .int ((Int32.ofInt 0))), (3, .int ((Int32.ofInt 0)))]) ⟨rfl, rfl, rfl, rfl, trivial⟩ ?_
        exact key39 (Int.toNat (z2.toInt) + 1) σ0 ((Int32.ofInt 0)) ((Int32.ofInt 0)) hσ0 hF0 h1 h26 h45 h49 (by omega) (by omega) (by omega) (by omega) (by omega)
      · refine En_Ps 5 (pc' := 39) (lv' := [(3, .int ((Int32.ofInt 0))), (2, .int ((Int32.ofInt 1))), (0, .ref 159), (1, .retAddr 9)]) (st' := []) rfl ?_
        have key39 : ∀ (n39 : Nat) (σ74 : SG) (y72 : Int32) (y73 : Int32), WT σ74 → Fr [] σ0 σ74 → (σ74 159)[12]? = some (.int z2) → (σ74 159)[10]? = some (.int z27) → (σ74 159)[8]? = some (.int z46) → (σ74 159)[9]? = some (.int z50) → 0 ≤ y72.toInt → y72.toInt ≤ 1 → 0 ≤ y73.toInt → y73.toInt ≤ 5 → z46.toInt - y73.toInt < (n39 : Int) → En 4 90 none mr_251 (P_251s4o σ0) 39 [(0, .ref 159), (1, .retAddr 9), (2, .int y72), (3, .int y73)] [] σ74 := by
          intro n39
          induction n39 with
          | zero =>
            intro σ74 y72 y73 h75 h76 h77 h78 h79 h80 h81 h82 h83 h84 h85
            exfalso; omega
          | succ n39 ih39 =>
            intro σ74 y72 y73 h75 h76 h77 h78 h79 h80 h81 h82 h83 h84 h85
            refine En_Ps 2 (pc' := 41) (lv' := [(0, .ref 159), (1, .retAddr 9), (2, .int y72), (3, .int y73)]) (st' := [.retAddr 9, .int y73]) rfl ?_
            refine En_slen 4 5 rfl rfl (by decide) rfl ?_
            refine En_icGe _ rfl (by decide : (Int32.ofNat 5).toInt = 5) rfl (fun h86 => ?_) (fun h86 => ?_)
            · refine En_Ps 1 (pc' := 83) (lv' := [(0, .ref 159), (1, .retAddr 9), (2, .int y72), (3, .int y73)]) (st' := [.int y72]) rfl ?_
              exact En_ret (v := some (.int y72)) rfl rfl (retZ rfl rfl (by omega) (by omega)) ⟨h75, h76, y72, rfl, (by omega)⟩
            · refine En_Ps 1 (pc' := 48) (lv' := [(0, .ref 159), (1, .retAddr 9), (2, .int y72), (3, .int y73)]) (st' := [.int y72]) rfl ?_
              refine En_iEq _ rfl rfl (fun h87 => ?_) (fun h87 => ?_)
              · refine En_Ps 1 (pc' := 83) (lv' := [(0, .ref 159), (1, .retAddr 9), (2, .int y72), (3, .int y73)]) (st' := [.int y72]) rfl ?_
                exact En_ret (v := some (.int y72)) rfl rfl (retZ rfl rfl (by omega) (by omega)) ⟨h75, h76, y72, rfl, (by omega)⟩
              · refine En_Ps 1 (pc' := 52) (lv' := [(0, .ref 159), (1, .retAddr 9), (2, .int y72), (3, .int y73)]) (st' := [.ref 159]) rfl ?_
                refine En_getU (j := 4) (u := 163) (g' := 39) (q := 0) rfl rfl rfl (by decide +kernel : TG 159 = 35) (by decide +kernel) h75 (by decide +kernel) (by decide +kernel) (fun h88 => ?_)
                refine En_Ps 1 (pc' := 56) (lv' := [(0, .ref 159), (1, .retAddr 9), (2, .int y72), (3, .int y73)]) (st' := [.ref 159, .ref 163]) rfl ?_
                refine En_getK (j := 9) h80 rfl rfl rfl (by decide +kernel : TG 159 = 35) (by decide +kernel) ?_
                refine En_Ps 2 (pc' := 61) (lv' := [(0, .ref 159), (1, .retAddr 9), (2, .int y72), (3, .int y73)]) (st' := [.int ((z50 + y73)), .ref 163]) rfl ?_
                refine En_top (addI rfl rfl (by omega) (by omega)) (fun z90 h91 => ?_)
                refine En_bald (l := (-128)) (u := 127) rfl rfl (by decide +kernel : TG 163 = 39) (by decide +kernel) h75 (by omega) (lnI (by decide +kernel : LN _ = 1600) (by omega)) (FTsgl (by decide +kernel)) (fun z93 h92 h94 h95 => ?_)
                refine En_Ps 2 (pc' := 64) (lv' := [(0, .ref 159), (1, .retAddr 9), (2, .int y72), (3, .int y73)]) (st' := [.int y73, .retAddr 9, .int z93]) rfl ?_
                refine En_schar 4 5 rfl rfl rfl (by decide) (by omega) (by omega) rfl (fun z96 h97 h98 => ?_)
                refine En_icNe _ rfl rfl rfl (fun h99 => ?_) (fun h99 => ?_)
                · refine En_Ps 3 (pc' := 79) (lv' := [(3, .int ((y73 + Int32.ofInt 1))), (2, .int ((Int32.ofInt 0))), (0, .ref 159), (1, .retAddr 9)]) (st' := []) rfl ?_
                  refine En_lv1 (addI rfl (by decide : (Int32.ofInt 1).toInt = 1) (by omega) (by omega)) (fun z100 h101 => ?_)
                  refine En_Ps 1 (pc' := 39) (lv' := [(3, .int z100), (2, .int ((Int32.ofInt 0))), (0, .ref 159), (1, .retAddr 9)]) (st' := []) rfl ?_
                  have := (by decide : (Int32.ofInt 0).toInt = 0)
                  refine En_lv (lv := [(0, .ref 159), (1, .retAddr 9), (2, .int ((Int32.ofInt 0))), (3, .int z100)]) ⟨rfl, rfl, rfl, rfl, trivial⟩ ?_
                  exact ih39 σ74 ((Int32.ofInt 0)) z100 h75 h76 h77 h78 h79 h80 (by omega) (by omega) (by omega) (by omega) (by omega)
                · refine En_Ps 4 (pc' := 79) (lv' := [(3, .int ((y73 + Int32.ofInt 1))), (2, .int ((Int32.ofInt 1))), (0, .ref 159), (1, .retAddr 9)]) (st' := []) rfl ?_
                  refine En_lv1 (addI rfl (by decide : (Int32.ofInt 1).toInt = 1) (by omega) (by omega)) (fun z102 h103 => ?_)
                  refine En_Ps 1 (pc' := 39) (lv' := [(3, .int z102), (2, .int ((Int32.ofInt 1))), (0, .ref 159), (1, .retAddr 9)]) (st' := []) rfl ?_
                  have := (by decide : (Int32.ofInt 1).toInt = 1)
                  refine En_lv (lv := [(0, .ref 159), (1, .retAddr 9), (2, .int ((Int32.ofInt 1))), (3, .int z102)]) ⟨rfl, rfl, rfl, rfl, trivial⟩ ?_
                  exact ih39 σ74 ((Int32.ofInt 1)) z102 h75 h76 h77 h78 h79 h80 (by omega) (by omega) (by omega) (by omega) (by omega)
        have := (by decide : (Int32.ofInt 1).toInt = 1)
        have := (by decide : (Int32.ofInt 0).toInt = 0)
        refine En_lv (lv := [(0, .ref 159), (1, .retAddr 9), (2, .int ((Int32.ofInt 1))), (3, .int ((Int32.ofInt 0)))]) ⟨rfl, rfl, rfl, rfl, trivial⟩ ?_
        exact key39 (Int.toNat (z46.toInt) + 1) σ0 ((Int32.ofInt 1)) ((Int32.ofInt 0)) hσ0 hF0 h1 h26 h45 h49 (by omega) (by omega) (by omega) (by omega) (by omega)
noncomputable def isA4 (σ : SG) : Int := @dite Int (WT σ) (Classical.propDecidable _) (fun h => (match Classical.choose (c_251s4o σ h) with | some (.int y) => y.toInt | _ => 0)) (fun _ => 0)
abbrev P_251s4 (σ0 : SG) : PO := fun v σ => WT σ ∧ Fr [] σ0 σ ∧ ∃ ret : Int32, v = some (.int ret) ∧ -ret.toInt ≤ 0 ∧ ret.toInt - 1 ≤ 0 ∧ ret.toInt = isA4 σ0
theorem c_251s4 (σ0 : SG) (hσ0 : WT σ0) : En 4 90 none mr_251 (P_251s4 σ0) 0 [(0, .ref 159), (1, .retAddr 9)] [] σ0 := by
  obtain ⟨σ, g, h1, h2, ret, hv, h3⟩ := Classical.choose_spec (c_251s4o σ0 hσ0)
  have e : isA4 σ0 = ret.toInt := by unfold isA4; rw [dif_pos hσ0, hv]
  exact ⟨_, σ, g, h1, h2, ret, hv, (by omega)⟩
