/-- DoorSchoolModel.askOf(I)I -/
abbrev P_197 (σ0 : SG) (a : Int32) : PO := fun v σ => WT σ ∧ Fr [(35, 18), (42, 0), (43, 0), (44, 0)] σ0 σ ∧ ∃ ret : Int32, v = some (.int ret) ∧ -ret.toInt - 1 ≤ 0 ∧ ret.toInt - 15 ≤ 0
set_option maxRecDepth 10000 in
set_option maxHeartbeats 4000000 in
theorem c_197 (σ0 : SG) (hσ0 : WT σ0) (a : Int32) (hl_a : 0 ≤ a.toInt) (hu_a : a.toInt ≤ 3) : En 5 110 none mr_197 (P_197 σ0 a) 0 [(0, .ref 159), (1, .int a)] [] σ0 := by
  have hF0 : Fr [(35, 18), (42, 0), (43, 0), (44, 0)] σ0 σ0 := Fr_rfl
  refine En_Ps 2 (pc' := 2) (lv' := [(0, .ref 159), (1, .int a)]) (st' := [.int a, .ref 159]) rfl ?_
  refine En_callV rfl rfl rfl rfl rfl rfl rfl rfl tgz_159 (by decide +kernel) rfl (c_231 σ0 hσ0 a (geI rfl (by omega)) (leI rfl (by omega))) (by decide) (by decide) (fun v2 σ3 h1 => ?_)
  obtain ⟨h4, h5, z7, rfl, h6⟩ := h1
  have h8 := Fr_trans hF0 h5 (by decide +kernel)
  refine En_Ps 5 (pc' := 11) (lv' := [(4, .int ((Int32.ofInt 0))), (3, .int ((Int32.ofInt (-1)))), (2, .int z7), (0, .ref 159), (1, .int a)]) (st' := []) rfl ?_
  have key11 : ∀ (n11 : Nat) (σ12 : SG) (y9 : Int32) (y10 : Int32) (y11 : Int32), WT σ12 → Fr [(35, 18), (42, 0), (43, 0), (44, 0)] σ0 σ12 → 0 ≤ y9.toInt → y9.toInt ≤ 81 → (-1) ≤ y10.toInt → y10.toInt ≤ 15 → 0 ≤ y11.toInt → y11.toInt ≤ 16 → y10.toInt - y11.toInt + 1 ≤ 0 → -y11.toInt + 16 < (n11 : Int) → En 5 110 none mr_197 (P_197 σ0 a) 11 [(0, .ref 159), (1, .int a), (2, .int y9), (3, .int y10), (4, .int y11)] [] σ12 := by
    intro n11
    induction n11 with
    | zero =>
      intro σ12 y9 y10 y11 h13 h14 h15 h16 h17 h18 h19 h20 h21 h22
      exfalso; omega
    | succ n11 ih11 =>
      intro σ12 y9 y10 y11 h13 h14 h15 h16 h17 h18 h19 h20 h21 h22
      refine En_Ps 2 (pc' := 14) (lv' := [(0, .ref 159), (1, .int a), (2, .int y9), (3, .int y10), (4, .int y11)]) (st' := [.ref 159, .int y11]) rfl ?_
      obtain ⟨z24, h23, h25, h26⟩ := WT_peekI h13 tgz_160 (by decide +kernel : FT 36 (0 : Int).toNat = (0, 0, 4)) (by decide +kernel)
      obtain ⟨z28, h27, h29, h30⟩ := WT_peekI h13 tgz_160 (by decide +kernel : FT 36 (7 : Int).toNat = (0, 0, 1600)) (by decide +kernel)
      refine En_callV rfl rfl rfl rfl rfl rfl rfl rfl tgz_159 (by decide +kernel) rfl (c_269 σ12 h13 z24 h23 z28 h27) (by decide) (by decide) (fun v32 σ33 h31 => ?_)
      obtain ⟨h34, h35, z37, rfl, h36⟩ := h31
      have h38 := h36.2.2
      have h39 := Fr_trans h14 h35 (by decide +kernel)
      refine En_icGe _ rfl rfl rfl (fun h40 => ?_) (fun h40 => ?_)
      · refine En_Ps 1 (pc' := 51) (lv' := [(0, .ref 159), (1, .int a), (2, .int y9), (3, .int y10), (4, .int y11)]) (st' := [.int y10]) rfl ?_
        exact En_ret (v := some (.int y10)) rfl rfl rfl ⟨h34, h39, y10, rfl, (by omega)⟩
      · refine En_Ps 3 (pc' := 24) (lv' := [(0, .ref 159), (1, .int a), (2, .int y9), (3, .int y10), (4, .int y11)]) (st' := [.int y11, .int a, .ref 159]) rfl ?_
        refine En_callV rfl rfl rfl rfl rfl rfl rfl rfl tgz_159 (by decide +kernel) rfl (c_332 σ33 h34 a y11 (geI rfl (by omega)) (leI rfl (by omega))) (by decide) (by decide) (fun v42 σ43 h41 => ?_)
        obtain ⟨h44, h45, z47, rfl, h46⟩ := h41
        have h48 := Fr_trans h39 h45 (by decide +kernel)
        refine En_Ps 3 (pc' := 32) (lv' := [(5, .int z47), (0, .ref 159), (1, .int a), (2, .int y9), (3, .int y10), (4, .int y11)]) (st' := [.int y9, .int z47]) rfl ?_
        refine En_icLt _ rfl rfl rfl (fun h49 => ?_) (fun h49 => ?_)
        · refine En_Ps 5 (pc' := 47) (lv' := [(4, .int ((y11 + Int32.ofInt 1))), (3, .int y11), (2, .int z47), (5, .int z47), (0, .ref 159), (1, .int a)]) (st' := []) rfl ?_
          refine En_lv1 (addI rfl (by decide : (Int32.ofInt 1).toInt = 1) (by omega) (by omega)) (fun z50 h51 => ?_)
          refine En_Ps 1 (pc' := 11) (lv' := [(4, .int z50), (3, .int y11), (2, .int z47), (5, .int z47), (0, .ref 159), (1, .int a)]) (st' := []) rfl ?_
          refine En_lv (lv := [(0, .ref 159), (1, .int a), (2, .int z47), (3, .int y11), (4, .int z50)]) ⟨rfl, rfl, rfl, rfl, rfl, trivial⟩ ?_
          exact ih11 σ43 z47 y11 z50 h44 h48 (by omega) (by omega) (by omega) (by omega) (by omega) (by omega) (by omega) (by omega)
        · refine En_Ps 2 (pc' := 47) (lv' := [(4, .int ((y11 + Int32.ofInt 1))), (5, .int z47), (0, .ref 159), (1, .int a), (2, .int y9), (3, .int y10)]) (st' := []) rfl ?_
          refine En_lv1 (addI rfl (by decide : (Int32.ofInt 1).toInt = 1) (by omega) (by omega)) (fun z52 h53 => ?_)
          refine En_Ps 1 (pc' := 11) (lv' := [(4, .int z52), (5, .int z47), (0, .ref 159), (1, .int a), (2, .int y9), (3, .int y10)]) (st' := []) rfl ?_
          refine En_lv (lv := [(0, .ref 159), (1, .int a), (2, .int y9), (3, .int y10), (4, .int z52)]) ⟨rfl, rfl, rfl, rfl, rfl, trivial⟩ ?_
          exact ih11 σ43 y9 y10 z52 h44 h48 (by omega) (by omega) (by omega) (by omega) (by omega) (by omega) (by omega) (by omega)
  have := (by decide : (Int32.ofInt (-1)).toInt = -1)
  have := (by decide : (Int32.ofInt 0).toInt = 0)
  refine En_lv (lv := [(0, .ref 159), (1, .int a), (2, .int z7), (3, .int ((Int32.ofInt (-1)))), (4, .int ((Int32.ofInt 0)))]) ⟨rfl, rfl, rfl, rfl, rfl, trivial⟩ ?_
  exact key11 (Int.toNat (16) + 1) σ3 z7 ((Int32.ofInt (-1))) ((Int32.ofInt 0)) h4 h8 (by omega) (by omega) (by omega) (by omega) (by omega) (by omega) (by omega) (by omega)
/-- DoorSchoolModel.ask(I)I -/
abbrev P_196 (σ0 : SG) (a : Int32) : PO := fun v σ => WT σ ∧ Fr [(35, 18), (42, 0), (43, 0), (44, 0)] σ0 σ ∧ ∃ ret : Int32, v = some (.int ret) ∧ -ret.toInt - 6 ≤ 0 ∧ ret.toInt - 15 ≤ 0
set_option maxRecDepth 10000 in
set_option maxHeartbeats 4000000 in
theorem c_196 (σ0 : SG) (hσ0 : WT σ0) (a : Int32) : En 6 135 none mr_196 (P_196 σ0 a) 0 [(0, .ref 159), (1, .int a)] [] σ0 := by
  have hF0 : Fr [(35, 18), (42, 0), (43, 0), (44, 0)] σ0 σ0 := Fr_rfl
  refine En_Ps 3 (pc' := 3) (lv' := [(0, .ref 159), (1, .int a)]) (st' := [.int ((Int32.ofInt 1)), .int a, .ref 159]) rfl ?_
  have := (by decide : ((Int32.ofInt 1)).toInt = 1)
  refine En_callV rfl rfl rfl rfl rfl rfl rfl rfl tgz_159 (by decide +kernel) rfl (c_198 σ0 hσ0 a ((Int32.ofInt 1)) (geI (by decide : (Int32.ofInt 1).toInt = 1) (by omega)) (leI (by decide : (Int32.ofInt 1).toInt = 1) (by omega))) (by decide) (by decide) (fun v2 σ3 h1 => ?_)
  obtain ⟨h4, h5, z7, rfl, h6⟩ := h1
  have h8 := Fr_trans hF0 h5 (by decide +kernel)
  refine En_Ps 2 (pc' := 8) (lv' := [(2, .int z7), (0, .ref 159), (1, .int a)]) (st' := [.int z7]) rfl ?_
  refine En_iGe _ rfl rfl (fun h9 => ?_) (fun h9 => ?_)
  · refine En_Ps 2 (pc' := 17) (lv' := [(2, .int z7), (0, .ref 159), (1, .int a)]) (st' := [.int a, .ref 159]) rfl ?_
    refine En_callV rfl rfl rfl rfl rfl rfl rfl rfl tgz_159 (by decide +kernel) rfl (c_197 σ3 h4 a (geI rfl (by omega)) (leI rfl (by omega))) (by decide) (by decide) (fun v11 σ12 h10 => ?_)
    obtain ⟨h13, h14, z16, rfl, h15⟩ := h10
    have h17 := Fr_trans h8 h14 (by decide +kernel)
    exact En_ret (v := some (.int z16)) rfl rfl rfl ⟨h13, h17, z16, rfl, (by omega)⟩
  · refine En_Ps 2 (pc' := 20) (lv' := [(2, .int z7), (0, .ref 159), (1, .int a)]) (st' := [.int z7]) rfl ?_
    exact En_ret (v := some (.int z7)) rfl rfl rfl ⟨h4, h8, z7, rfl, (by omega)⟩
/-- DoorSchoolModel.put(II)V -/
abbrev P_298 (σ0 : SG) (a : Int32) (b : Int32) : PO := fun v σ => WT σ ∧ Fr [(49, 0), (50, 0)] σ0 σ ∧ v = none ∧ PUTL σ0 σ a.toInt b.toInt (b.toInt + (tkN σ0 a.toInt.toNat : Int))
set_option maxRecDepth 10000 in
set_option maxHeartbeats 4000000 in
theorem c_298 (σ0 : SG) (hσ0 : WT σ0) (a : Int32) (b : Int32) (hl_a : 0 ≤ a.toInt) (hu_a : a.toInt ≤ 5) (hl_b : 0 ≤ b.toInt) (hu_b : b.toInt ≤ 111) (hB : HB σ0) : En 1 21 none mr_298 (P_298 σ0 a b) 0 [(0, .ref 159), (1, .int a), (2, .int b)] [] σ0 := by
  have hF0 : Fr [(49, 0), (50, 0)] σ0 σ0 := Fr_rfl
  refine En_Ps 1 (pc' := 1) (lv' := [(0, .ref 159), (1, .int a), (2, .int b)]) (st' := [.ref 159]) rfl ?_
  refine En_getU (j := 27) (u := 173) (g' := 49) (q := 0) rfl rfl rfl tgz_159 (by decide +kernel) hσ0 (by decide +kernel) (by decide +kernel) (fun h1 => ?_)
  refine En_Ps 2 (pc' := 6) (lv' := [(0, .ref 159), (1, .int a), (2, .int b)]) (st' := [.int b, .int a, .ref 173]) rfl ?_
  refine En_iast (l := 0) (u := 111) rfl rfl tgz_173 (by decide +kernel) (by omega) (lnI (by decide +kernel : LN _ = 6) (by omega)) (FTsgl (by decide +kernel)) (rngI rfl (by omega) (by omega)) hσ0 hF0 (by decide +kernel) (fun σ3 h4 h5 h6 h7 => ?_)
  refine En_Ps 2 (pc' := 9) (lv' := [(3, .int b), (0, .ref 159), (1, .int a), (2, .int b)]) (st' := []) rfl ?_
  have key9 : ∀ (n9 : Nat) (σ9 : SG) (y8 : Int32), WT σ9 → Fr [(49, 0), (50, 0)] σ0 σ9 → (σ9 159)[27]? = some (.ref 173) → 0 ≤ y8.toInt → y8.toInt ≤ 127 → b.toInt - y8.toInt ≤ 0 → -y8.toInt + 127 < (n9 : Int) → PUTL σ0 σ9 a.toInt b.toInt y8.toInt → y8.toInt ≤ b.toInt + (tkN σ0 a.toInt.toNat : Int) → En 1 21 none mr_298 (P_298 σ0 a b) 9 [(0, .ref 159), (1, .int a), (2, .int b), (3, .int y8)] [] σ9 := by
    intro n9
    induction n9 with
    | zero =>
      intro σ9 y8 h10 h11 h12 h13 h14 h15 h16 h17 h18
      exfalso; omega
    | succ n9 ih9 =>
      intro σ9 y8 h10 h11 h12 h13 h14 h15 h16 h17 h18
      refine En_Ps 4 (pc' := 13) (lv' := [(0, .ref 159), (1, .int a), (2, .int b), (3, .int y8)]) (st' := [.int a, .ref 159, .int b, .int y8]) rfl ?_
      refine En_callV rfl rfl rfl rfl rfl rfl rfl rfl tgz_159 (by decide +kernel) rfl (c_319 σ9 h10 a (geI rfl (by omega)) (leI rfl (by omega))) (by decide) (by decide) (fun v20 σ21 h19 => ?_)
      obtain ⟨h22, h23, z25, rfl, h24⟩ := h19
      have h26 := h24.2.2
      obtain rfl : σ9 = σ21 := Fr_nil h23
      have h27 := tk_ci hσ0 hl_a hu_a
      have h28 := (SWd_fr h11 (by decide +kernel)) (154 + 2 * a.toInt)
      refine En_Ps 1 (pc' := 17) (lv' := [(0, .ref 159), (1, .int a), (2, .int b), (3, .int y8)]) (st' := [.int ((b + z25)), .int y8]) rfl ?_
      refine En_top (addI rfl rfl (by omega) (by omega)) (fun z29 h30 => ?_)
      refine En_icGe _ rfl rfl rfl (fun h31 => ?_) (fun h31 => ?_)
      · exact En_ret (v := none) rfl rfl rfl ⟨h10, h11, rfl, PUTL_x hσ0 h17 (by omega) (by omega) (SWd_fr h11 (by decide +kernel)) h26 (by omega) (by omega)⟩
      · refine En_Ps 1 (pc' := 21) (lv' := [(0, .ref 159), (1, .int a), (2, .int b), (3, .int y8)]) (st' := [.ref 159]) rfl ?_
        refine En_getU (j := 28) (u := 174) (g' := 50) (q := 0) rfl rfl rfl tgz_159 (by decide +kernel) h10 (by decide +kernel) (by decide +kernel) (fun h32 => ?_)
        refine En_Ps 2 (pc' := 26) (lv' := [(0, .ref 159), (1, .int a), (2, .int b), (3, .int y8)]) (st' := [.int y8, .ref 174, .int y8, .ref 174]) rfl ?_
        refine En_iald (l := (-2147483648)) (u := 2147483647) rfl rfl tgz_174 (by decide +kernel) h10 (by omega) (lnI (by decide +kernel : LN _ = 120) (by omega)) (FTsgl (by decide +kernel)) (fun z35 h34 h36 h37 => ?_)
        refine En_Ps 1 (pc' := 28) (lv' := [(0, .ref 159), (1, .int a), (2, .int b), (3, .int y8)]) (st' := [.int ((Int32.ofInt 1)), .int z35, .int y8, .ref 174]) rfl ?_
        have h38 := PUTL_b hB h17 h34 (by omega) (by omega)
        refine En_Ps 1 (pc' := 29) (lv' := [(0, .ref 159), (1, .int a), (2, .int b), (3, .int y8)]) (st' := [.int ((z35 + ((Int32.ofInt 1)))), .int y8, .ref 174]) rfl ?_
        refine En_top (addI rfl (by decide : (Int32.ofInt 1).toInt = 1) (by omega) (by omega)) (fun z39 h40 => ?_)
        refine En_iast (l := (-2147483648)) (u := 2147483647) rfl rfl tgz_174 (by decide +kernel) (by omega) (lnI (by decide +kernel : LN _ = 120) (by omega)) (FTsgl (by decide +kernel)) (fullI _) h10 h11 (by decide +kernel) (fun σ41 h42 h43 h44 h45 => ?_)
        refine En_Ps 1 (pc' := 33) (lv' := [(3, .int ((y8 + Int32.ofInt 1))), (0, .ref 159), (1, .int a), (2, .int b)]) (st' := []) rfl ?_
        refine En_lv1 (addI rfl (by decide : (Int32.ofInt 1).toInt = 1) (by omega) (by omega)) (fun z46 h47 => ?_)
        refine En_Ps 1 (pc' := 9) (lv' := [(3, .int z46), (0, .ref 159), (1, .int a), (2, .int b)]) (st' := []) rfl ?_
        refine En_lv (lv := [(0, .ref 159), (1, .int a), (2, .int b), (3, .int z46)]) ⟨rfl, rfl, rfl, rfl, trivial⟩ ?_
        exact ih9 σ41 z46 h42 h43 ((h45 _ _ (Or.inl (neTG tgz_159 tgz_174 (by decide)))).trans h12) (by omega) (by omega) (by omega) (by omega) (PUTL_s h17 h34 h44 h45 (by omega) (by omega) (by omega) (by omega)) (by omega)
  refine En_lv (lv := [(0, .ref 159), (1, .int a), (2, .int b), (3, .int b)]) ⟨rfl, rfl, rfl, rfl, trivial⟩ ?_
  exact key9 (Int.toNat (-b.toInt + 127) + 1) σ3 b h4 h5 ((h7 _ _ (Or.inl (neTG tgz_159 tgz_173 (by decide)))).trans h1) (by omega) (by omega) (by omega) (by omega) (PUTL_0 h6 h7 (by omega) rfl rfl) (by omega)
/-- DoorSchoolModel.isFree(III)Z -/
abbrev P_256 (σ0 : SG) (a : Int32) (b : Int32) (c : Int32) : PO := fun v σ => WT σ ∧ Fr [] σ0 σ ∧ ∃ ret : Int32, v = some (.int ret) ∧ -ret.toInt ≤ 0 ∧ ret.toInt - 1 ≤ 0 ∧ FREEs σ0 a.toInt b.toInt c.toInt ret.toInt
set_option maxRecDepth 10000 in
set_option maxHeartbeats 4000000 in
theorem c_256 (σ0 : SG) (hσ0 : WT σ0) (a : Int32) (b : Int32) (c : Int32) (hl_a : 0 ≤ a.toInt) (hu_a : a.toInt ≤ 111) (hl_b : 0 ≤ b.toInt) (hu_b : b.toInt ≤ 5) (hl_c : 0 ≤ c.toInt) (hu_c : c.toInt ≤ 5) : En 1 21 none mr_256 (P_256 σ0 a b c) 0 [(0, .ref 159), (1, .int a), (2, .int b), (3, .int c)] [] σ0 := by
  have hF0 : Fr [] σ0 σ0 := Fr_rfl
  refine En_Ps 2 (pc' := 3) (lv' := [(4, .int a), (0, .ref 159), (1, .int a), (2, .int b), (3, .int c)]) (st' := []) rfl ?_
  have key3 : ∀ (n3 : Nat) (y1 : Int32), 0 ≤ y1.toInt → y1.toInt ≤ 127 → a.toInt - y1.toInt ≤ 0 → -y1.toInt + 127 < (n3 : Int) → FRL σ0 a.toInt c.toInt y1.toInt → En 1 21 none mr_256 (P_256 σ0 a b c) 3 [(0, .ref 159), (1, .int a), (2, .int b), (3, .int c), (4, .int y1)] [] σ0 := by
    intro n3
    induction n3 with
    | zero =>
      intro y1 h5 h6 h7 h8 h9
      exfalso; omega
    | succ n3 ih3 =>
      intro y1 h5 h6 h7 h8 h9
      refine En_Ps 4 (pc' := 8) (lv' := [(0, .ref 159), (1, .int a), (2, .int b), (3, .int c), (4, .int y1)]) (st' := [.int b, .ref 159, .int a, .int y1]) rfl ?_
      refine En_callV rfl rfl rfl rfl rfl rfl rfl rfl tgz_159 (by decide +kernel) rfl (c_319 σ0 hσ0 b (geI rfl (by omega)) (leI rfl (by omega))) (by decide) (by decide) (fun v11 σ12 h10 => ?_)
      obtain ⟨h13, h14, z16, rfl, h15⟩ := h10
      have h17 := h15.2.2
      obtain rfl : σ0 = σ12 := Fr_nil h14
      refine En_Ps 1 (pc' := 12) (lv' := [(0, .ref 159), (1, .int a), (2, .int b), (3, .int c), (4, .int y1)]) (st' := [.int ((a + z16)), .int y1]) rfl ?_
      refine En_top (addI rfl rfl (by omega) (by omega)) (fun z18 h19 => ?_)
      refine En_icGe _ rfl rfl rfl (fun h20 => ?_) (fun h20 => ?_)
      · refine En_Ps 1 (pc' := 35) (lv' := [(0, .ref 159), (1, .int a), (2, .int b), (3, .int c), (4, .int y1)]) (st' := [.int ((Int32.ofInt 1))]) rfl ?_
        refine En_top (by decide : (Int32.ofInt 1).toInt = 1) (fun z21 h22 => ?_)
        exact En_ret (v := some (.int z21)) rfl rfl (retZ rfl rfl (by omega) (by omega)) ⟨hσ0, hF0, z21, rfl, ⟨by omega, by omega, FR_yes hσ0 h9 (by omega) (by omega) h17 (by omega) (by omega) (by omega)⟩⟩
      · refine En_Ps 1 (pc' := 16) (lv' := [(0, .ref 159), (1, .int a), (2, .int b), (3, .int c), (4, .int y1)]) (st' := [.ref 159]) rfl ?_
        refine En_getU (j := 28) (u := 174) (g' := 50) (q := 0) rfl rfl rfl tgz_159 (by decide +kernel) hσ0 (by decide +kernel) (by decide +kernel) (fun h23 => ?_)
        refine En_Ps 1 (pc' := 21) (lv' := [(0, .ref 159), (1, .int a), (2, .int b), (3, .int c), (4, .int y1)]) (st' := [.int y1, .ref 174]) rfl ?_
        refine En_iald (l := (-2147483648)) (u := 2147483647) rfl rfl tgz_174 (by decide +kernel) hσ0 (by omega) (lnI (by decide +kernel : LN _ = 120) (by omega)) (FTsgl (by decide +kernel)) (fun z26 h25 h27 h28 => ?_)
        refine En_Ps 1 (pc' := 23) (lv' := [(0, .ref 159), (1, .int a), (2, .int b), (3, .int c), (4, .int y1)]) (st' := [.int c, .int z26]) rfl ?_
        refine En_icLt _ rfl rfl rfl (fun h29 => ?_) (fun h29 => ?_)
        · refine En_Ps 1 (pc' := 31) (lv' := [(4, .int ((y1 + Int32.ofInt 1))), (0, .ref 159), (1, .int a), (2, .int b), (3, .int c)]) (st' := []) rfl ?_
          refine En_lv1 (addI rfl (by decide : (Int32.ofInt 1).toInt = 1) (by omega) (by omega)) (fun z30 h31 => ?_)
          refine En_Ps 1 (pc' := 3) (lv' := [(4, .int z30), (0, .ref 159), (1, .int a), (2, .int b), (3, .int c)]) (st' := []) rfl ?_
          refine En_lv (lv := [(0, .ref 159), (1, .int a), (2, .int b), (3, .int c), (4, .int z30)]) ⟨rfl, rfl, rfl, rfl, rfl, trivial⟩ ?_
          exact ih3 z30 (by omega) (by omega) (by omega) (by omega) (FRL_s h9 h25 (by omega) (by omega) (by omega))
        · refine En_Ps 1 (pc' := 27) (lv' := [(0, .ref 159), (1, .int a), (2, .int b), (3, .int c), (4, .int y1)]) (st' := [.int ((Int32.ofInt 0))]) rfl ?_
          refine En_top (by decide : (Int32.ofInt 0).toInt = 0) (fun z32 h33 => ?_)
          exact En_ret (v := some (.int z32)) rfl rfl (retZ rfl rfl (by omega) (by omega)) ⟨hσ0, hF0, z32, rfl, ⟨by omega, by omega, FR_no hσ0 h25 (by omega) (by omega) (by omega) (by omega) h17 (by omega) (by omega) (by omega)⟩⟩
  refine En_lv (lv := [(0, .ref 159), (1, .int a), (2, .int b), (3, .int c), (4, .int a)]) ⟨rfl, rfl, rfl, rfl, rfl, trivial⟩ ?_
  exact key3 (Int.toNat (-a.toInt + 127) + 1) a (by omega) (by omega) (by omega) (by omega) (FRL_0 rfl)
/-- DoorSchoolModel.overBy(III)I -/
abbrev P_293 (σ0 : SG) (a : Int32) (b : Int32) (c : Int32) : PO := fun v σ => WT σ ∧ Fr [(49, 0), (50, 0)] σ0 σ ∧ ∃ ret : Int32, v = some (.int ret) ∧ -ret.toInt ≤ 0 ∧ ret.toInt - 1000000 ≤ 0 ∧ OVERs σ0 a.toInt b.toInt c.toInt ret.toInt.toNat
set_option maxRecDepth 10000 in
set_option maxHeartbeats 4000000 in
theorem c_293 (σ0 : SG) (hσ0 : WT σ0) (a : Int32) (b : Int32) (c : Int32) (hl_a : 0 ≤ a.toInt) (hu_a : a.toInt ≤ 6) (hl_b : 0 ≤ b.toInt) (hl_c : 1 ≤ c.toInt) (hu_c : c.toInt ≤ 4) (hN : a.toInt ≤ ci σ0 160 5) : En 3 66 none mr_293 (P_293 σ0 a b c) 0 [(0, .ref 159), (1, .int a), (2, .int b), (3, .int c)] [] σ0 := by
  have hF0 : Fr [(49, 0), (50, 0)] σ0 σ0 := Fr_rfl
  refine En_Ps 2 (pc' := 3) (lv' := [(4, .int ((Int32.ofInt 0))), (0, .ref 159), (1, .int a), (2, .int b), (3, .int c)]) (st' := []) rfl ?_
  have key3 : ∀ (n3 : Nat) (σ2 : SG) (y1 : Int32), WT σ2 → Fr [(49, 0), (50, 0)] σ0 σ2 → 0 ≤ y1.toInt → y1.toInt ≤ 127 → -y1.toInt + 127 < (n3 : Int) → CLR σ2 y1.toInt → En 3 66 none mr_293 (P_293 σ0 a b c) 3 [(0, .ref 159), (1, .int a), (2, .int b), (3, .int c), (4, .int y1)] [] σ2 := by
    intro n3
    induction n3 with
    | zero =>
      intro σ2 y1 h3 h4 h5 h6 h7 h8
      exfalso; omega
    | succ n3 ih3 =>
      intro σ2 y1 h3 h4 h5 h6 h7 h8
      refine En_Ps 2 (pc' := 6) (lv' := [(0, .ref 159), (1, .int a), (2, .int b), (3, .int c), (4, .int y1)]) (st' := [.ref 159, .int y1]) rfl ?_
      refine En_getU (j := 28) (u := 174) (g' := 50) (q := 0) rfl rfl rfl tgz_159 (by decide +kernel) h3 (by decide +kernel) (by decide +kernel) (fun h9 => ?_)
      refine En_alenN (n := 120) rfl tgz_174 (by decide +kernel) (by decide +kernel) h3 ?_
      refine En_icGe _ rfl (by decide : (Int32.ofNat 120).toInt = 120) rfl (fun h11 => ?_) (fun h11 => ?_)
      · refine En_Ps 6 (pc' := 36) (lv' := [(6, .int ((Int32.ofInt 0))), (5, .int ((Int32.ofInt 0))), (4, .int ((Int32.ofInt 0))), (0, .ref 159), (1, .int a), (2, .int b), (3, .int c)]) (st' := []) rfl ?_
        have key36 : ∀ (n36 : Nat) (σ17 : SG) (y12 : Int32) (y13 : Int32) (y14 : Int32), WT σ17 → Fr [(49, 0), (50, 0)] σ0 σ17 → (σ17 159)[28]? = some (.ref 174) → 0 ≤ y12.toInt → y12.toInt ≤ 63 → 0 ≤ y13.toInt → y13.toInt ≤ 120 → 0 ≤ y14.toInt → y14.toInt ≤ 6 → a.toInt - y14.toInt < (n36 : Int) → PREF σ0 σ17 a.toInt y14.toInt y12.toInt y13.toInt → En 3 66 none mr_293 (P_293 σ0 a b c) 36 [(0, .ref 159), (1, .int a), (2, .int b), (3, .int c), (4, .int y12), (5, .int y13), (6, .int y14)] [] σ17 := by
          intro n36
          induction n36 with
          | zero =>
            intro σ17 y12 y13 y14 h18 h19 h20 h21 h22 h23 h24 h25 h26 h27 h28
            have h29 := PREF_lin hσ0 h28
            exfalso; omega
          | succ n36 ih36 =>
            intro σ17 y12 y13 y14 h18 h19 h20 h21 h22 h23 h24 h25 h26 h27 h28
            have h32 := PREF_lin hσ0 h28
            refine En_Ps 2 (pc' := 39) (lv' := [(0, .ref 159), (1, .int a), (2, .int b), (3, .int c), (4, .int y12), (5, .int y13), (6, .int y14)]) (st' := [.int a, .int y14]) rfl ?_
            refine En_icGe _ rfl rfl rfl (fun h33 => ?_) (fun h33 => ?_)
            · refine En_Ps 4 (pc' := 88) (lv' := [(6, .int b), (0, .ref 159), (1, .int a), (2, .int b), (3, .int c), (4, .int y12), (5, .int y13)]) (st' := [.ref 159, .int ((Int32.ofInt 1))]) rfl ?_
              refine En_getU (j := 1) (u := 160) (g' := 36) (q := 0) rfl rfl rfl tgz_159 (by decide +kernel) h18 (by decide +kernel) (by decide +kernel) (fun h34 => ?_)
              refine En_Ps 1 (pc' := 92) (lv' := [(6, .int b), (0, .ref 159), (1, .int a), (2, .int b), (3, .int c), (4, .int y12), (5, .int y13)]) (st' := [.int ((Int32.ofInt 5)), .ref 160, .int ((Int32.ofInt 1))]) rfl ?_
              refine En_iald (l := 0) (u := 6) rfl (by decide : (Int32.ofInt 5).toInt = 5) tgz_160 (by decide +kernel) h18 (by omega) (lnI (by decide +kernel : LN _ = 226) (by omega)) (by decide +kernel) (fun z37 h36 h38 h39 => ?_)
              refine En_Ps 7 (pc' := 101) (lv' := [(6, .int b), (0, .ref 159), (1, .int a), (2, .int b), (3, .int c), (4, .int y12), (5, .int y13)]) (st' := [.int ((((Int32.ofInt 1) <<< (z37 &&& 31)) - (Int32.ofInt 1) &&& (y12 ^^^ (Int32.ofInt (-1)))))]) rfl ?_
              refine En_nam (fun z40 h41 => ?_)
              refine En_Ps 2 (pc' := 104) (lv' := [(7, .int z40), (6, .int b), (0, .ref 159), (1, .int a), (2, .int b), (3, .int c), (4, .int y12), (5, .int y13)]) (st' := [.ref 159]) rfl ?_
              refine En_getK (j := 1) h34 rfl rfl rfl tgz_159 (by decide +kernel) ?_
              refine En_Ps 1 (pc' := 108) (lv' := [(7, .int z40), (6, .int b), (0, .ref 159), (1, .int a), (2, .int b), (3, .int c), (4, .int y12), (5, .int y13)]) (st' := [.int ((Int32.ofInt 5)), .ref 160]) rfl ?_
              refine En_ialdK h36 rfl (by decide : (Int32.ofInt 5).toInt = 5) tgz_160 (by decide +kernel) h18 (by omega) (lnI (by decide +kernel : LN _ = 226) (by omega)) ?_
              refine En_Ps 2 (pc' := 111) (lv' := [(7, .int z40), (6, .int b), (0, .ref 159), (1, .int a), (2, .int b), (3, .int c), (4, .int y12), (5, .int y13)]) (st' := [.int ((z37 - a))]) rfl ?_
              refine En_top (subI rfl rfl (by omega) (by omega)) (fun z43 h44 => ?_)
              refine En_Ps 1 (pc' := 113) (lv' := [(8, .int z43), (7, .int z40), (6, .int b), (0, .ref 159), (1, .int a), (2, .int b), (3, .int c), (4, .int y12), (5, .int y13)]) (st' := []) rfl ?_
              have key113 : ∀ (n113 : Nat) (σ52 : SG) (y45 : Int32) (y46 : Int32) (y47 : Int32) (y48 : Int32) (y49 : Int32), WT σ52 → Fr [(49, 0), (50, 0)] σ0 σ52 → (σ52 159)[28]? = some (.ref 174) → (σ52 159)[1]? = some (.ref 160) → (σ52 160)[(5 : Int).toNat]? = some (.int z37) → 0 ≤ y45.toInt → y45.toInt ≤ 63 → 0 ≤ y46.toInt → y46.toInt ≤ 120 → 0 ≤ y47.toInt → (-6) ≤ y49.toInt → y49.toInt ≤ 6 → y49.toInt + 6 < (n113 : Int) → MAIN σ0 σ52 a.toInt b.toInt c.toInt y45.toInt y46.toInt y47.toInt y48.toInt y49.toInt → En 3 66 none mr_293 (P_293 σ0 a b c) 113 [(0, .ref 159), (1, .int a), (2, .int b), (3, .int c), (4, .int y45), (5, .int y46), (6, .int y47), (7, .int y48), (8, .int y49)] [] σ52 := by
                intro n113
                induction n113 with
                | zero =>
                  intro σ52 y45 y46 y47 y48 y49 h53 h54 h55 h56 h57 h58 h59 h60 h61 h62 h63 h64 h65 h66
                  have h67 := MAIN_lin h66
                  exfalso; omega
                | succ n113 ih113 =>
                  intro σ52 y45 y46 y47 y48 y49 h53 h54 h55 h56 h57 h58 h59 h60 h61 h62 h63 h64 h65 h66
                  have h70 := MAIN_lin h66
                  refine En_Ps 1 (pc' := 115) (lv' := [(0, .ref 159), (1, .int a), (2, .int b), (3, .int c), (4, .int y45), (5, .int y46), (6, .int y47), (7, .int y48), (8, .int y49)]) (st' := [.int y49]) rfl ?_
                  refine En_iLe _ rfl rfl (fun h71 => ?_) (fun h71 => ?_)
                  · refine En_Ps 1 (pc' := 255) (lv' := [(0, .ref 159), (1, .int a), (2, .int b), (3, .int c), (4, .int y45), (5, .int y46), (6, .int y47), (7, .int y48), (8, .int y49)]) (st' := [.int y46]) rfl ?_
                    exact En_ret (v := some (.int y46)) rfl rfl rfl ⟨h53, h54, y46, rfl, ⟨by omega, by omega, MAIN_end h66 (by omega) rfl⟩⟩
                  · refine En_Ps 2 (pc' := 122) (lv' := [(0, .ref 159), (1, .int a), (2, .int b), (3, .int c), (4, .int y45), (5, .int y46), (6, .int y47), (7, .int y48), (8, .int y49)]) (st' := [.int y49, .int y47]) rfl ?_
                    refine En_irem (c := y49.toInt) rfl rfl rfl (by omega) (by omega) (fun z72 h73 => ?_)
                    have h74 := Int.emod_nonneg (y47.toInt) (by omega : y49.toInt ≠ 0)
                    have h75 := Int.emod_lt_of_pos (y47.toInt) (by omega : 0 < y49.toInt)
                    refine En_Ps 3 (pc' := 129) (lv' := [(9, .int z72), (0, .ref 159), (1, .int a), (2, .int b), (3, .int c), (4, .int y45), (5, .int y46), (6, .int y47), (7, .int y48), (8, .int y49)]) (st' := [.int y49, .int y47]) rfl ?_
                    refine En_idiv (c := y49.toInt) rfl rfl rfl (by omega) (by omega) (fun z76 h77 => ?_)
                    have h78 := Int.ediv_nonneg (by omega : 0 ≤ y47.toInt) (by omega : 0 ≤ y49.toInt)
                    refine En_Ps 3 (pc' := 135) (lv' := [(10, .int a), (6, .int z76), (9, .int z72), (0, .ref 159), (1, .int a), (2, .int b), (3, .int c), (4, .int y45), (5, .int y46), (7, .int y48), (8, .int y49)]) (st' := []) rfl ?_
                    have key135 : ∀ (n135 : Nat) (y80 : Int32) (y81 : Int32), 0 ≤ y80.toInt → y80.toInt ≤ 5 → 0 ≤ y81.toInt → y81.toInt ≤ 5 → -y81.toInt + 5 < (n135 : Int) → SELs y48.toInt y80.toInt y81.toInt z72.toInt a.toInt y49.toInt → En 3 66 none mr_293 (P_293 σ0 a b c) 135 [(0, .ref 159), (1, .int a), (2, .int b), (3, .int c), (4, .int y45), (5, .int y46), (6, .int z76), (7, .int y48), (8, .int y49), (9, .int y80), (10, .int y81)] [] σ52 := by
                      intro n135
                      induction n135 with
                      | zero =>
                        intro y80 y81 h87 h88 h89 h90 h91 h92
                        have h93 := SEL_lin h92
                        exfalso; omega
                      | succ n135 ih135 =>
                        intro y80 y81 h87 h88 h89 h90 h91 h92
                        have h96 := SEL_lin h92
                        refine En_Ps 2 (pc' := 139) (lv' := [(0, .ref 159), (1, .int a), (2, .int b), (3, .int c), (4, .int y45), (5, .int y46), (6, .int z76), (7, .int y48), (8, .int y49), (9, .int y80), (10, .int y81)]) (st' := [.int y81, .int y48]) rfl ?_
                        refine En_callS rfl rfl rfl rfl rfl rfl rfl rfl rfl (c_202a σ52 h53 y48 y81 (geI rfl (by omega)) (leI rfl (by omega)) (geI rfl (by omega)) (leI rfl (by omega))) (by decide) (by decide) (fun v98 σ99 h97 => ?_)
                        obtain ⟨h100, h101, z103, rfl, h102⟩ := h97
                        have h104 := h102.2.2
                        obtain rfl : σ52 = σ99 := Fr_nil h101
                        refine En_iEq _ rfl rfl (fun h105 => ?_) (fun h105 => ?_)
                        · refine En_Ps 3 (pc' := 156) (lv' := [(0, .ref 159), (1, .int a), (2, .int b), (3, .int c), (4, .int y45), (5, .int y46), (6, .int z76), (7, .int y48), (8, .int y49), (9, .int y80), (10, .int y81)]) (st' := [.int y81, .int y48, .int y80]) rfl ?_
                          refine En_callS rfl rfl rfl rfl rfl rfl rfl rfl rfl (c_202a σ52 h53 y48 y81 (geI rfl (by omega)) (leI rfl (by omega)) (geI rfl (by omega)) (leI rfl (by omega))) (by decide) (by decide) (fun v107 σ108 h106 => ?_)
                          obtain ⟨h109, h110, z112, rfl, h111⟩ := h106
                          have h113 := h111.2.2
                          obtain rfl : σ52 = σ108 := Fr_nil h110
                          refine En_Ps 1 (pc' := 160) (lv' := [(0, .ref 159), (1, .int a), (2, .int b), (3, .int c), (4, .int y45), (5, .int y46), (6, .int z76), (7, .int y48), (8, .int y49), (9, .int y80), (10, .int y81)]) (st' := [.int ((y80 - z112))]) rfl ?_
                          refine En_top (subI rfl rfl (by omega) (by omega)) (fun z114 h115 => ?_)
                          refine En_Ps 1 (pc' := 162) (lv' := [(9, .int z114), (0, .ref 159), (1, .int a), (2, .int b), (3, .int c), (4, .int y45), (5, .int y46), (6, .int z76), (7, .int y48), (8, .int y49), (10, .int y81)]) (st' := []) rfl ?_
                          have h116 := SEL_s h92 h104 h113 (by omega) (show z114.toInt = _ - _ by omega) (show y81.toInt + 1 = _ by omega)
                          have h117 := SEL_lin h116
                          refine En_Ps 1 (pc' := 165) (lv' := [(10, .int ((y81 + Int32.ofInt 1))), (9, .int z114), (0, .ref 159), (1, .int a), (2, .int b), (3, .int c), (4, .int y45), (5, .int y46), (6, .int z76), (7, .int y48), (8, .int y49)]) (st' := []) rfl ?_
                          refine En_lv1 (addI rfl (by decide : (Int32.ofInt 1).toInt = 1) (by omega) (by omega)) (fun z118 h119 => ?_)
                          refine En_Ps 1 (pc' := 135) (lv' := [(10, .int z118), (9, .int z114), (0, .ref 159), (1, .int a), (2, .int b), (3, .int c), (4, .int y45), (5, .int y46), (6, .int z76), (7, .int y48), (8, .int y49)]) (st' := []) rfl ?_
                          refine En_lv (lv := [(0, .ref 159), (1, .int a), (2, .int b), (3, .int c), (4, .int y45), (5, .int y46), (6, .int z76), (7, .int y48), (8, .int y49), (9, .int z114), (10, .int z118)]) ⟨rfl, rfl, rfl, rfl, rfl, rfl, rfl, rfl, rfl, rfl, rfl, trivial⟩ ?_
                          exact ih135 z114 z118 (by omega) (by omega) (by omega) (by omega) (by omega) (SEL_eq h116 (by omega))
                        · refine En_Ps 1 (pc' := 147) (lv' := [(0, .ref 159), (1, .int a), (2, .int b), (3, .int c), (4, .int y45), (5, .int y46), (6, .int z76), (7, .int y48), (8, .int y49), (9, .int y80), (10, .int y81)]) (st' := [.int y80]) rfl ?_
                          refine En_iLe _ rfl rfl (fun h120 => ?_) (fun h120 => ?_)
                          · refine En_Ps 7 (pc' := 177) (lv' := [(0, .ref 159), (1, .int a), (2, .int b), (3, .int c), (4, .int y45), (5, .int y46), (6, .int z76), (7, .int y48), (8, .int y49), (9, .int y80), (10, .int y81)]) (st' := [.int ((y48 &&& (((Int32.ofInt 1) <<< (y81 &&& 31)) ^^^ (Int32.ofInt (-1)))))]) rfl ?_
                            refine En_nam (fun z121 h122 => ?_)
                            refine En_Ps 4 (pc' := 184) (lv' := [(7, .int z121), (0, .ref 159), (1, .int a), (2, .int b), (3, .int c), (4, .int y45), (5, .int y46), (6, .int z76), (8, .int y49), (9, .int y80), (10, .int y81)]) (st' := [.int y45, .int y81, .ref 159]) rfl ?_
                            refine En_callV rfl rfl rfl rfl rfl rfl rfl rfl tgz_159 (by decide +kernel) rfl (c_190 σ52 h53 y81 y45 (geI rfl (by omega)) (leI rfl (by omega)) (geI rfl (by omega)) (leI rfl (by omega))) (by decide) (by decide) (fun v124 σ125 h123 => ?_)
                            obtain ⟨h126, h127, z129, rfl, h128⟩ := h123
                            have h130 := h128.2.2
                            obtain rfl : σ52 = σ125 := Fr_nil h127
                            refine En_Ps 3 (pc' := 192) (lv' := [(11, .int z129), (7, .int z121), (0, .ref 159), (1, .int a), (2, .int b), (3, .int c), (4, .int y45), (5, .int y46), (6, .int z76), (8, .int y49), (9, .int y80), (10, .int y81)]) (st' := [.int ((Int32.ofInt (-1))), .int z129]) rfl ?_
                            refine En_icNe _ rfl (by decide : (Int32.ofInt (-1)).toInt = -1) rfl (fun h131 => ?_) (fun h131 => ?_)
                            · have key199 : ∀ (n199 : Nat) (y132 : Int32), 0 ≤ y132.toInt → y132.toInt ≤ 127 → y46.toInt - y132.toInt < (n199 : Int) → WAITs σ52 y81.toInt c.toInt z129.toInt y132.toInt y46.toInt → En 3 66 none mr_293 (P_293 σ0 a b c) 199 [(0, .ref 159), (1, .int a), (2, .int b), (3, .int c), (4, .int y45), (5, .int y46), (6, .int z76), (7, .int z121), (8, .int y49), (9, .int y80), (10, .int y81), (11, .int y132)] [] σ52 := by
                                intro n199
                                induction n199 with
                                | zero =>
                                  intro y132 h138 h139 h140 h141
                                  have h142 := WAIT_lin h141
                                  exfalso; omega
                                | succ n199 ih199 =>
                                  intro y132 h138 h139 h140 h141
                                  have h145 := WAIT_lin h141
                                  refine En_Ps 4 (pc' := 205) (lv' := [(0, .ref 159), (1, .int a), (2, .int b), (3, .int c), (4, .int y45), (5, .int y46), (6, .int z76), (7, .int z121), (8, .int y49), (9, .int y80), (10, .int y81), (11, .int y132)]) (st' := [.int c, .int y81, .int y132, .ref 159]) rfl ?_
                                  refine En_callV rfl rfl rfl rfl rfl rfl rfl rfl tgz_159 (by decide +kernel) rfl (c_256 σ52 h53 y132 y81 c (geI rfl (by omega)) (leI rfl (by omega)) (geI rfl (by omega)) (leI rfl (by omega)) (geI rfl (by omega)) (leI rfl (by omega))) (by decide) (by decide) (fun v147 σ148 h146 => ?_)
                                  obtain ⟨h149, h150, z152, rfl, h151⟩ := h146
                                  have h153 := h151.2.2
                                  obtain rfl : σ52 = σ148 := Fr_nil h150
                                  refine En_iNe _ rfl rfl (fun h154 => ?_) (fun h154 => ?_)
                                  · refine En_Ps 3 (pc' := 222) (lv' := [(0, .ref 159), (1, .int a), (2, .int b), (3, .int c), (4, .int y45), (5, .int y46), (6, .int z76), (7, .int z121), (8, .int y49), (9, .int y80), (10, .int y81), (11, .int y132)]) (st' := [.int y132, .int y81, .ref 159]) rfl ?_
                                    refine En_callV rfl rfl rfl rfl rfl rfl rfl rfl tgz_159 (by decide +kernel) rfl (c_298 σ52 h53 y81 y132 (geI rfl (by omega)) (leI rfl (by omega)) (geI rfl (by omega)) (leI rfl (by omega)) (MAIN_HB h66)) (by decide) (by decide) (fun v156 σ157 h155 => ?_)
                                    obtain ⟨h158, h159, rfl, h160⟩ := h155
                                    have h161 := h160
                                    have h162 := Fr_trans h54 h159 (by decide +kernel)
                                    refine En_Ps 5 (pc' := 232) (lv' := [(0, .ref 159), (1, .int a), (2, .int b), (3, .int c), (4, .int y45), (5, .int y46), (6, .int z76), (7, .int z121), (8, .int y49), (9, .int y80), (10, .int y81), (11, .int y132)]) (st' := [.int ((y45 ||| ((Int32.ofInt 1) <<< (y81 &&& 31))))]) rfl ?_
                                    refine En_nam (fun z163 h164 => ?_)
                                    have h165 := or_small h164 rfl rfl (by omega) (by omega) (by omega) (by omega)
                                    refine En_Ps 4 (pc' := 239) (lv' := [(4, .int z163), (0, .ref 159), (1, .int a), (2, .int b), (3, .int c), (5, .int y46), (6, .int z76), (7, .int z121), (8, .int y49), (9, .int y80), (10, .int y81), (11, .int y132)]) (st' := [.int y81, .ref 159, .int y46]) rfl ?_
                                    refine En_callV rfl rfl rfl rfl rfl rfl rfl rfl tgz_159 (by decide +kernel) rfl (c_294 σ157 h158 y81 (geI rfl (by omega)) (leI rfl (by omega))) (by decide) (by decide) (fun v167 σ168 h166 => ?_)
                                    obtain ⟨h169, h170, z172, rfl, h171⟩ := h166
                                    have h173 := h171.2.2
                                    obtain rfl : σ157 = σ168 := Fr_nil h170
                                    refine En_callS rfl rfl rfl rfl rfl rfl rfl rfl rfl (c_10 σ157 h158 y46 z172) (by decide) (by decide) (fun v175 σ176 h174 => ?_)
                                    obtain ⟨h177, h178, z180, rfl, h179⟩ := h174
                                    obtain rfl : σ157 = σ176 := Fr_nil h178
                                    refine En_Ps 2 (pc' := 250) (lv' := [(8, .int ((y49 + Int32.ofInt (-1)))), (5, .int z180), (4, .int z163), (0, .ref 159), (1, .int a), (2, .int b), (3, .int c), (6, .int z76), (7, .int z121), (9, .int y80), (10, .int y81), (11, .int y132)]) (st' := []) rfl ?_
                                    refine En_lv1 (addI rfl (by decide : (Int32.ofInt (-1)).toInt = -1) (by omega) (by omega)) (fun z181 h182 => ?_)
                                    refine En_Ps 1 (pc' := 113) (lv' := [(8, .int z181), (5, .int z180), (4, .int z163), (0, .ref 159), (1, .int a), (2, .int b), (3, .int c), (6, .int z76), (7, .int z121), (9, .int y80), (10, .int y81), (11, .int y132)]) (st' := []) rfl ?_
                                    refine En_lv (lv := [(0, .ref 159), (1, .int a), (2, .int b), (3, .int c), (4, .int z163), (5, .int z180), (6, .int z76), (7, .int z121), (8, .int z181)]) ⟨rfl, rfl, rfl, rfl, rfl, rfl, rfl, rfl, rfl, trivial⟩ ?_
                                    exact ih113 σ157 z163 z180 z76 z121 z181 h158 h162 ((h159 _ _ (inW tgz_159 (by decide +kernel))).trans h55) ((h159 _ _ (inW tgz_159 (by decide +kernel))).trans h56) ((h159 _ _ (inWa tgz_160 (by decide +kernel))).trans h57) (by omega) (by omega) (by omega) (by omega) (by omega) (by omega) (by omega) (by omega) (MAIN_s hσ0 (SWd_fr h54 (by decide +kernel)) (SWd_fr h162 (by decide +kernel)) h66 (by omega) (by omega) h92 (by omega) h104 (by omega) h73 h77 h130 (by omega) h141 h153 (by omega) h161 (fun hb => andn_small h122 rfl rfl (by omega) (by omega) (by omega) (by omega) hb) h165 h173 (by omega) (by omega) (by omega) (by omega))
                                  · have h184 := WAIT_s hσ0 (SWd_fr h54 (by decide +kernel)) h66 (by omega) (by omega) h141 h153 (by omega) (show y132.toInt + 1 = _ by omega)
                                    have h185 := WAIT_lin h184
                                    refine En_Ps 1 (pc' := 214) (lv' := [(11, .int ((y132 + Int32.ofInt 1))), (0, .ref 159), (1, .int a), (2, .int b), (3, .int c), (4, .int y45), (5, .int y46), (6, .int z76), (7, .int z121), (8, .int y49), (9, .int y80), (10, .int y81)]) (st' := []) rfl ?_
                                    refine En_lv1 (addI rfl (by decide : (Int32.ofInt 1).toInt = 1) (by omega) (by omega)) (fun z186 h187 => ?_)
                                    refine En_Ps 1 (pc' := 199) (lv' := [(11, .int z186), (0, .ref 159), (1, .int a), (2, .int b), (3, .int c), (4, .int y45), (5, .int y46), (6, .int z76), (7, .int z121), (8, .int y49), (9, .int y80), (10, .int y81)]) (st' := []) rfl ?_
                                    refine En_lv (lv := [(0, .ref 159), (1, .int a), (2, .int b), (3, .int c), (4, .int y45), (5, .int y46), (6, .int z76), (7, .int z121), (8, .int y49), (9, .int y80), (10, .int y81), (11, .int z186)]) ⟨rfl, rfl, rfl, rfl, rfl, rfl, rfl, rfl, rfl, rfl, rfl, rfl, trivial⟩ ?_
                                    exact ih199 z186 (by omega) (by omega) (by omega) (WAIT_eq h184 (by omega))
                              refine En_lv (lv := [(0, .ref 159), (1, .int a), (2, .int b), (3, .int c), (4, .int y45), (5, .int y46), (6, .int z76), (7, .int z121), (8, .int y49), (9, .int y80), (10, .int y81), (11, .int z129)]) ⟨rfl, rfl, rfl, rfl, rfl, rfl, rfl, rfl, rfl, rfl, rfl, rfl, trivial⟩ ?_
                              exact key199 (Int.toNat (y46.toInt - z129.toInt) + 1) z129 (by omega) (by omega) (by omega) (WAIT_0 (SWd_fr h54 (by decide +kernel)) h66 (by omega) (by omega) h130 (by omega) rfl)
                            · refine En_Ps 1 (pc' := 198) (lv' := [(11, .int z129), (7, .int z121), (0, .ref 159), (1, .int a), (2, .int b), (3, .int c), (4, .int y45), (5, .int y46), (6, .int z76), (8, .int y49), (9, .int y80), (10, .int y81)]) (st' := [.int ((1000000 : Int32))]) rfl ?_
                              refine En_top (by decide : (1000000 : Int32).toInt = 1000000) (fun z188 h189 => ?_)
                              exact En_ret (v := some (.int z188)) rfl rfl rfl ⟨h53, h54, z188, rfl, ⟨by omega, by omega, MAIN_far (SWd_fr h54 (by decide +kernel)) h66 (by omega) h92 (by omega) h104 (by omega) h73 h130 (by omega) (by omega)⟩⟩
                          · refine En_Ps 3 (pc' := 156) (lv' := [(0, .ref 159), (1, .int a), (2, .int b), (3, .int c), (4, .int y45), (5, .int y46), (6, .int z76), (7, .int y48), (8, .int y49), (9, .int y80), (10, .int y81)]) (st' := [.int y81, .int y48, .int y80]) rfl ?_
                            refine En_callS rfl rfl rfl rfl rfl rfl rfl rfl rfl (c_202a σ52 h53 y48 y81 (geI rfl (by omega)) (leI rfl (by omega)) (geI rfl (by omega)) (leI rfl (by omega))) (by decide) (by decide) (fun v191 σ192 h190 => ?_)
                            obtain ⟨h193, h194, z196, rfl, h195⟩ := h190
                            have h197 := h195.2.2
                            obtain rfl : σ52 = σ192 := Fr_nil h194
                            refine En_Ps 1 (pc' := 160) (lv' := [(0, .ref 159), (1, .int a), (2, .int b), (3, .int c), (4, .int y45), (5, .int y46), (6, .int z76), (7, .int y48), (8, .int y49), (9, .int y80), (10, .int y81)]) (st' := [.int ((y80 - z196))]) rfl ?_
                            refine En_top (subI rfl rfl (by omega) (by omega)) (fun z198 h199 => ?_)
                            refine En_Ps 1 (pc' := 162) (lv' := [(9, .int z198), (0, .ref 159), (1, .int a), (2, .int b), (3, .int c), (4, .int y45), (5, .int y46), (6, .int z76), (7, .int y48), (8, .int y49), (10, .int y81)]) (st' := []) rfl ?_
                            have h200 := SEL_s h92 h104 h197 (by omega) (show z198.toInt = _ - _ by omega) (show y81.toInt + 1 = _ by omega)
                            have h201 := SEL_lin h200
                            refine En_Ps 1 (pc' := 165) (lv' := [(10, .int ((y81 + Int32.ofInt 1))), (9, .int z198), (0, .ref 159), (1, .int a), (2, .int b), (3, .int c), (4, .int y45), (5, .int y46), (6, .int z76), (7, .int y48), (8, .int y49)]) (st' := []) rfl ?_
                            refine En_lv1 (addI rfl (by decide : (Int32.ofInt 1).toInt = 1) (by omega) (by omega)) (fun z202 h203 => ?_)
                            refine En_Ps 1 (pc' := 135) (lv' := [(10, .int z202), (9, .int z198), (0, .ref 159), (1, .int a), (2, .int b), (3, .int c), (4, .int y45), (5, .int y46), (6, .int z76), (7, .int y48), (8, .int y49)]) (st' := []) rfl ?_
                            refine En_lv (lv := [(0, .ref 159), (1, .int a), (2, .int b), (3, .int c), (4, .int y45), (5, .int y46), (6, .int z76), (7, .int y48), (8, .int y49), (9, .int z198), (10, .int z202)]) ⟨rfl, rfl, rfl, rfl, rfl, rfl, rfl, rfl, rfl, rfl, rfl, trivial⟩ ?_
                            exact ih135 z198 z202 (by omega) (by omega) (by omega) (by omega) (by omega) (SEL_eq h200 (by omega))
                    refine En_lv (lv := [(0, .ref 159), (1, .int a), (2, .int b), (3, .int c), (4, .int y45), (5, .int y46), (6, .int z76), (7, .int y48), (8, .int y49), (9, .int z72), (10, .int a)]) ⟨rfl, rfl, rfl, rfl, rfl, rfl, rfl, rfl, rfl, rfl, rfl, trivial⟩ ?_
                    exact key135 (Int.toNat (-a.toInt + 5) + 1) z72 a (by omega) (by omega) (by omega) (by omega) (by omega) (SEL_0 h66 rfl rfl (by omega) (by omega))
              refine En_lv (lv := [(0, .ref 159), (1, .int a), (2, .int b), (3, .int c), (4, .int y12), (5, .int y13), (6, .int b), (7, .int z40), (8, .int z43)]) ⟨rfl, rfl, rfl, rfl, rfl, rfl, rfl, rfl, rfl, trivial⟩ ?_
              exact key113 (Int.toNat (z43.toInt + 6) + 1) σ17 y12 y13 b z40 z43 h18 h19 h20 h34 h36 (by omega) (by omega) (by omega) (by omega) (by omega) (by omega) (by omega) (by omega) (MAIN_0 hσ0 h28 (by omega) h41 rfl (by have e1 := ci_at h36 (rfl : (5 : Int) = 5); have e2 := (SWd_fr h19 (by decide +kernel)) 5; omega) hN rfl hl_b (by have e1 := ci_at h36 (rfl : (5 : Int) = 5); have e2 := (SWd_fr h19 (by decide +kernel)) 5; omega))
            · refine En_Ps 3 (pc' := 46) (lv' := [(0, .ref 159), (1, .int a), (2, .int b), (3, .int c), (4, .int y12), (5, .int y13), (6, .int y14)]) (st' := [.ref 159, .int y14, .ref 159]) rfl ?_
              refine En_getU (j := 29) (u := 175) (g' := 51) (q := 0) rfl rfl rfl tgz_159 (by decide +kernel) h18 (by decide +kernel) (by decide +kernel) (fun h204 => ?_)
              refine En_Ps 1 (pc' := 51) (lv' := [(0, .ref 159), (1, .int a), (2, .int b), (3, .int c), (4, .int y12), (5, .int y13), (6, .int y14)]) (st' := [.int y14, .ref 175, .int y14, .ref 159]) rfl ?_
              refine En_iald (l := 0) (u := 54) rfl rfl tgz_175 (by decide +kernel) h18 (by omega) (lnI (by decide +kernel : LN _ = 6) (by omega)) (FTsgl (by decide +kernel)) (fun z207 h206 h208 h209 => ?_)
              refine En_callV rfl rfl rfl rfl rfl rfl rfl rfl tgz_159 (by decide +kernel) rfl (c_298 σ17 h18 y14 z207 (geI rfl (by omega)) (leI rfl (by omega)) (geI rfl (by omega)) (leI rfl (by omega)) (PRE0_HB h28.1)) (by decide) (by decide) (fun v211 σ212 h210 => ?_)
              obtain ⟨h213, h214, rfl, h215⟩ := h210
              have h216 := h215
              have h217 := Fr_trans h19 h214 (by decide +kernel)
              refine En_Ps 5 (pc' := 62) (lv' := [(0, .ref 159), (1, .int a), (2, .int b), (3, .int c), (4, .int y12), (5, .int y13), (6, .int y14)]) (st' := [.int ((y12 ||| ((Int32.ofInt 1) <<< (y14 &&& 31))))]) rfl ?_
              refine En_nam (fun z218 h219 => ?_)
              have h220 := or_small h219 rfl rfl (by omega) (by omega) (by omega) (by omega)
              refine En_Ps 4 (pc' := 69) (lv' := [(4, .int z218), (0, .ref 159), (1, .int a), (2, .int b), (3, .int c), (5, .int y13), (6, .int y14)]) (st' := [.int y14, .ref 159, .int y13]) rfl ?_
              refine En_callV rfl rfl rfl rfl rfl rfl rfl rfl tgz_159 (by decide +kernel) rfl (c_294 σ212 h213 y14 (geI rfl (by omega)) (leI rfl (by omega))) (by decide) (by decide) (fun v222 σ223 h221 => ?_)
              obtain ⟨h224, h225, z227, rfl, h226⟩ := h221
              have h228 := h226.2.2
              obtain rfl : σ212 = σ223 := Fr_nil h225
              refine En_callS rfl rfl rfl rfl rfl rfl rfl rfl rfl (c_10 σ212 h213 y13 z227) (by decide) (by decide) (fun v230 σ231 h229 => ?_)
              obtain ⟨h232, h233, z235, rfl, h234⟩ := h229
              obtain rfl : σ212 = σ231 := Fr_nil h233
              refine En_Ps 2 (pc' := 80) (lv' := [(6, .int ((y14 + Int32.ofInt 1))), (5, .int z235), (4, .int z218), (0, .ref 159), (1, .int a), (2, .int b), (3, .int c)]) (st' := []) rfl ?_
              refine En_lv1 (addI rfl (by decide : (Int32.ofInt 1).toInt = 1) (by omega) (by omega)) (fun z236 h237 => ?_)
              refine En_Ps 1 (pc' := 36) (lv' := [(6, .int z236), (5, .int z235), (4, .int z218), (0, .ref 159), (1, .int a), (2, .int b), (3, .int c)]) (st' := []) rfl ?_
              refine En_lv (lv := [(0, .ref 159), (1, .int a), (2, .int b), (3, .int c), (4, .int z218), (5, .int z235), (6, .int z236)]) ⟨rfl, rfl, rfl, rfl, rfl, rfl, rfl, trivial⟩ ?_
              exact ih36 σ212 z218 z235 z236 h213 h217 ((h214 _ _ (inW tgz_159 (by decide +kernel))).trans h20) (by omega) (by omega) (by omega) (by omega) (by omega) (by omega) (by omega) (PREF_s hσ0 h28 (SWd_fr h19 (by decide +kernel)) (SXd_fr h19 (by decide +kernel)) (by omega) (ci_at h206 rfl).symm h216 (by omega) (by omega) (SWd_fr h217 (by decide +kernel)) h228 (by omega) (by omega) (by omega))
        have := (by decide : (Int32.ofInt 0).toInt = 0)
        have := (by decide : (Int32.ofInt 0).toInt = 0)
        have := (by decide : (Int32.ofInt 0).toInt = 0)
        refine En_lv (lv := [(0, .ref 159), (1, .int a), (2, .int b), (3, .int c), (4, .int ((Int32.ofInt 0))), (5, .int ((Int32.ofInt 0))), (6, .int ((Int32.ofInt 0)))]) ⟨rfl, rfl, rfl, rfl, rfl, rfl, rfl, trivial⟩ ?_
        exact key36 (Int.toNat (a.toInt) + 1) σ2 ((Int32.ofInt 0)) ((Int32.ofInt 0)) ((Int32.ofInt 0)) h3 h4 h9 (by omega) (by omega) (by omega) (by omega) (by omega) (by omega) (by omega) (PREF_0 h8 (by omega) hl_a hu_a (by decide) (by decide) (by decide))
      · refine En_Ps 1 (pc' := 14) (lv' := [(0, .ref 159), (1, .int a), (2, .int b), (3, .int c), (4, .int y1)]) (st' := [.ref 159]) rfl ?_
        refine En_getK (j := 28) h9 rfl rfl rfl tgz_159 (by decide +kernel) ?_
        refine En_Ps 2 (pc' := 20) (lv' := [(0, .ref 159), (1, .int a), (2, .int b), (3, .int c), (4, .int y1)]) (st' := [.int ((Int32.ofInt 0)), .int y1, .ref 174]) rfl ?_
        refine En_iast (l := (-2147483648)) (u := 2147483647) rfl rfl tgz_174 (by decide +kernel) (by omega) (lnI (by decide +kernel : LN _ = 120) (by omega)) (FTsgl (by decide +kernel)) (fullI _) h3 h4 (by decide +kernel) (fun σ238 h239 h240 h241 h242 => ?_)
        refine En_Ps 1 (pc' := 24) (lv' := [(4, .int ((y1 + Int32.ofInt 1))), (0, .ref 159), (1, .int a), (2, .int b), (3, .int c)]) (st' := []) rfl ?_
        refine En_lv1 (addI rfl (by decide : (Int32.ofInt 1).toInt = 1) (by omega) (by omega)) (fun z243 h244 => ?_)
        refine En_Ps 1 (pc' := 3) (lv' := [(4, .int z243), (0, .ref 159), (1, .int a), (2, .int b), (3, .int c)]) (st' := []) rfl ?_
        refine En_lv (lv := [(0, .ref 159), (1, .int a), (2, .int b), (3, .int c), (4, .int z243)]) ⟨rfl, rfl, rfl, rfl, rfl, trivial⟩ ?_
        exact ih3 σ238 z243 h239 h240 (by omega) (by omega) (by omega) (CLR_s h8 h241 h242 (by decide) (by omega) (by omega))
  have := (by decide : (Int32.ofInt 0).toInt = 0)
  refine En_lv (lv := [(0, .ref 159), (1, .int a), (2, .int b), (3, .int c), (4, .int ((Int32.ofInt 0)))]) ⟨rfl, rfl, rfl, rfl, rfl, trivial⟩ ?_
  exact key3 (Int.toNat (127) + 1) σ0 ((Int32.ofInt 0)) hσ0 hF0 (by omega) (by omega) (by omega) (CLR_0 (by decide))
/-- DoorSchoolModel.leastHours(II)I -/
abbrev P_277 (σ0 : SG) (a : Int32) (b : Int32) : PO := fun v σ => WT σ ∧ Fr [(49, 0), (50, 0)] σ0 σ ∧ ∃ ret : Int32, v = some (.int ret) ∧ -ret.toInt ≤ 0 ∧ ret.toInt - 1000000 ≤ 0 ∧ LEASTs σ0 a.toInt b.toInt ret.toInt.toNat
set_option maxRecDepth 10000 in
set_option maxHeartbeats 4000000 in
theorem c_277 (σ0 : SG) (hσ0 : WT σ0) (a : Int32) (b : Int32) (hl_a : 0 ≤ a.toInt) (hu_a : a.toInt ≤ 6) (hl_b : 1 ≤ b.toInt) (hu_b : b.toInt ≤ 4) (hN : a.toInt ≤ ci σ0 160 5) : En 4 97 none mr_277 (P_277 σ0 a b) 0 [(0, .ref 159), (1, .int a), (2, .int b)] [] σ0 := by
  have hF0 : Fr [(49, 0), (50, 0)] σ0 σ0 := Fr_rfl
  refine En_Ps 4 (pc' := 5) (lv' := [(4, .int ((Int32.ofInt 2))), (3, .int ((Int32.ofInt 1))), (0, .ref 159), (1, .int a), (2, .int b)]) (st' := []) rfl ?_
  have key5 : ∀ (n5 : Nat) (y1 : Int32) (y2 : Int32), 2 ≤ y2.toInt → y2.toInt ≤ 7 → 8 - y2.toInt < (n5 : Int) → ORDs y1.toInt y2.toInt (ci σ0 160 5 - a.toInt) → En 4 97 none mr_277 (P_277 σ0 a b) 5 [(0, .ref 159), (1, .int a), (2, .int b), (3, .int y1), (4, .int y2)] [] σ0 := by
    intro n5
    induction n5 with
    | zero =>
      intro y1 y2 h8 h9 h10 h11
      exfalso; have := ORD_lin h11; omega
    | succ n5 ih5 =>
      intro y1 y2 h8 h9 h10 h11
      have h14 := ORD_lin h11
      refine En_Ps 2 (pc' := 8) (lv' := [(0, .ref 159), (1, .int a), (2, .int b), (3, .int y1), (4, .int y2)]) (st' := [.ref 159, .int y2]) rfl ?_
      refine En_getU (j := 1) (u := 160) (g' := 36) (q := 0) rfl rfl rfl tgz_159 (by decide +kernel) hσ0 (by decide +kernel) (by decide +kernel) (fun h15 => ?_)
      refine En_Ps 1 (pc' := 12) (lv' := [(0, .ref 159), (1, .int a), (2, .int b), (3, .int y1), (4, .int y2)]) (st' := [.int ((Int32.ofInt 5)), .ref 160, .int y2]) rfl ?_
      refine En_iald (l := 0) (u := 6) rfl (by decide : (Int32.ofInt 5).toInt = 5) tgz_160 (by decide +kernel) hσ0 (by omega) (lnI (by decide +kernel : LN _ = 226) (by omega)) (by decide +kernel) (fun z18 h17 h19 h20 => ?_)
      have h21 := ci_at h17 (rfl : (5 : Int) = 5)
      refine En_Ps 2 (pc' := 15) (lv' := [(0, .ref 159), (1, .int a), (2, .int b), (3, .int y1), (4, .int y2)]) (st' := [.int ((z18 - a)), .int y2]) rfl ?_
      refine En_top (subI rfl rfl (by omega) (by omega)) (fun z22 h23 => ?_)
      refine En_icGt _ rfl rfl rfl (fun h24 => ?_) (fun h24 => ?_)
      · have h25 := ORD_x h11 (by omega) (by omega)
        refine En_Ps 4 (pc' := 37) (lv' := [(5, .int ((Int32.ofInt 0))), (4, .int ((1000000 : Int32))), (0, .ref 159), (1, .int a), (2, .int b), (3, .int y1)]) (st' := []) rfl ?_
        have key37 : ∀ (n37 : Nat) (σ30 : SG) (y26 : Int32) (y27 : Int32), WT σ30 → Fr [(49, 0), (50, 0)] σ0 σ30 → (σ30 159)[1]? = some (.ref 160) → (σ30 160)[(5 : Int).toNat]? = some (.int z18) → 0 ≤ y26.toInt → y26.toInt ≤ 1000000 → 0 ≤ y27.toInt → y1.toInt - y27.toInt < (n37 : Int) → LSTL σ0 a.toInt b.toInt y26.toInt y27.toInt → y27.toInt ≤ y1.toInt → En 4 97 none mr_277 (P_277 σ0 a b) 37 [(0, .ref 159), (1, .int a), (2, .int b), (3, .int y1), (4, .int y26), (5, .int y27)] [] σ30 := by
          intro n37
          induction n37 with
          | zero =>
            intro σ30 y26 y27 h31 h32 h33 h34 h35 h36 h37 h38 h39 h40
            have h41 := LST_lin h39
            exfalso; omega
          | succ n37 ih37 =>
            intro σ30 y26 y27 h31 h32 h33 h34 h35 h36 h37 h38 h39 h40
            have h44 := LST_lin h39
            refine En_Ps 2 (pc' := 40) (lv' := [(0, .ref 159), (1, .int a), (2, .int b), (3, .int y1), (4, .int y26), (5, .int y27)]) (st' := [.int y1, .int y27]) rfl ?_
            refine En_icGe _ rfl rfl rfl (fun h45 => ?_) (fun h45 => ?_)
            · refine En_Ps 1 (pc' := 66) (lv' := [(0, .ref 159), (1, .int a), (2, .int b), (3, .int y1), (4, .int y26), (5, .int y27)]) (st' := [.int y26]) rfl ?_
              exact En_ret (v := some (.int y26)) rfl rfl rfl ⟨h31, h32, y26, rfl, ⟨by omega, by omega, LST_x h39 h25 (by omega) hl_a hN (by omega)⟩⟩
            · refine En_Ps 5 (pc' := 50) (lv' := [(0, .ref 159), (1, .int a), (2, .int b), (3, .int y1), (4, .int y26), (5, .int y27)]) (st' := [.int b, .int y27, .int a, .ref 159, .int y26]) rfl ?_
              refine En_callV rfl rfl rfl rfl rfl rfl rfl rfl tgz_159 (by decide +kernel) rfl (c_293 σ30 h31 a y27 b (geI rfl (by omega)) (leI rfl (by omega)) (geI rfl (by omega)) (geI rfl (by omega)) (leI rfl (by omega)) (by have e1 := (SWd_fr h32 (by decide +kernel)) 5; omega)) (by decide) (by decide) (fun v47 σ48 h46 => ?_)
              obtain ⟨h49, h50, z52, rfl, h51⟩ := h46
              have h53 := h51.2.2
              have h54 := Fr_trans h32 h50 (by decide +kernel)
              refine En_callS rfl rfl rfl rfl rfl rfl rfl rfl rfl (c_11 σ48 h49 y26 z52) (by decide) (by decide) (fun v56 σ57 h55 => ?_)
              obtain ⟨h58, h59, z61, rfl, h60⟩ := h55
              obtain rfl : σ48 = σ57 := Fr_nil h59
              refine En_Ps 2 (pc' := 61) (lv' := [(5, .int ((y27 + Int32.ofInt 1))), (4, .int z61), (0, .ref 159), (1, .int a), (2, .int b), (3, .int y1)]) (st' := []) rfl ?_
              refine En_lv1 (addI rfl (by decide : (Int32.ofInt 1).toInt = 1) (by omega) (by omega)) (fun z62 h63 => ?_)
              refine En_Ps 1 (pc' := 37) (lv' := [(5, .int z62), (4, .int z61), (0, .ref 159), (1, .int a), (2, .int b), (3, .int y1)]) (st' := []) rfl ?_
              refine En_lv (lv := [(0, .ref 159), (1, .int a), (2, .int b), (3, .int y1), (4, .int z61), (5, .int z62)]) ⟨rfl, rfl, rfl, rfl, rfl, rfl, trivial⟩ ?_
              exact ih37 σ48 z61 z62 h49 h54 ((h50 _ _ (inW tgz_159 (by decide +kernel))).trans h33) ((h50 _ _ (inWa tgz_160 (by decide +kernel))).trans h34) (by omega) (by omega) (by omega) (by omega) (LST_s (SWd_fr h32 (by decide +kernel)) (SXd_fr h32 (by decide +kernel)) h39 h53 (by omega) (by omega) (by omega) (by omega) (by omega)) (by omega)
        have := (by decide : (1000000 : Int32).toInt = 1000000)
        have := (by decide : (Int32.ofInt 0).toInt = 0)
        refine En_lv (lv := [(0, .ref 159), (1, .int a), (2, .int b), (3, .int y1), (4, .int ((1000000 : Int32))), (5, .int ((Int32.ofInt 0)))]) ⟨rfl, rfl, rfl, rfl, rfl, rfl, trivial⟩ ?_
        exact key37 (Int.toNat (y1.toInt) + 1) σ0 ((1000000 : Int32)) ((Int32.ofInt 0)) hσ0 hF0 h15 h17 (by omega) (by omega) (by omega) (by omega) (LST_0 (by decide) (by decide)) (by omega)
      · refine En_Ps 3 (pc' := 22) (lv' := [(0, .ref 159), (1, .int a), (2, .int b), (3, .int y1), (4, .int y2)]) (st' := [.int ((y1 * y2))]) rfl ?_
        refine En_nam (fun z64 h65 => ?_)
        refine En_Ps 2 (pc' := 26) (lv' := [(4, .int ((y2 + Int32.ofInt 1))), (3, .int z64), (0, .ref 159), (1, .int a), (2, .int b)]) (st' := []) rfl ?_
        refine En_lv1 (addI rfl (by decide : (Int32.ofInt 1).toInt = 1) (by omega) (by omega)) (fun z66 h67 => ?_)
        refine En_Ps 1 (pc' := 5) (lv' := [(4, .int z66), (3, .int z64), (0, .ref 159), (1, .int a), (2, .int b)]) (st' := []) rfl ?_
        refine En_lv (lv := [(0, .ref 159), (1, .int a), (2, .int b), (3, .int z64), (4, .int z66)]) ⟨rfl, rfl, rfl, rfl, rfl, trivial⟩ ?_
        exact ih5 z64 z66 (by omega) (by omega) (by omega) (ORD_s h11 h65 rfl rfl (by omega) (by omega) rfl)
  have := (by decide : (Int32.ofInt 1).toInt = 1)
  have := (by decide : (Int32.ofInt 2).toInt = 2)
  refine En_lv (lv := [(0, .ref 159), (1, .int a), (2, .int b), (3, .int ((Int32.ofInt 1))), (4, .int ((Int32.ofInt 2)))]) ⟨rfl, rfl, rfl, rfl, rfl, trivial⟩ ?_
  exact key5 (Int.toNat (8 - 2) + 1) ((Int32.ofInt 1)) ((Int32.ofInt 2)) (by omega) (by omega) (by omega) (ORD_0 (by have := n6 hσ0; omega) (by decide) (by decide))
/-- DoorSchoolModel.mayBegin(II)Z -/
abbrev P_284 (σ0 : SG) (a : Int32) (b : Int32) : PO := fun v σ => WT σ ∧ Fr [(49, 0), (50, 0)] σ0 σ ∧ ∃ ret : Int32, v = some (.int ret) ∧ -ret.toInt ≤ 0 ∧ ret.toInt - 1 ≤ 0 ∧ (MAYs σ0 a.toInt b.toInt → ret.toInt = 1)
set_option maxRecDepth 10000 in
set_option maxHeartbeats 4000000 in
theorem c_284 (σ0 : SG) (hσ0 : WT σ0) (a : Int32) (b : Int32) (hl_a : 0 ≤ a.toInt) (hu_a : a.toInt ≤ 5) (hl_b : 0 ≤ b.toInt) (hu_b : b.toInt ≤ 54) : En 3 66 none mr_284 (P_284 σ0 a b) 0 [(0, .ref 159), (1, .int a), (2, .int b)] [] σ0 := by
  have hF0 : Fr [(49, 0), (50, 0)] σ0 σ0 := Fr_rfl
  refine En_Ps 2 (pc' := 2) (lv' := [(3, .int ((Int32.ofInt 0))), (0, .ref 159), (1, .int a), (2, .int b)]) (st' := []) rfl ?_
  have key2 : ∀ (n2 : Nat) (σ2 : SG) (y1 : Int32), WT σ2 → Fr [(49, 0), (50, 0)] σ0 σ2 → 0 ≤ y1.toInt → y1.toInt ≤ 127 → -y1.toInt + 127 < (n2 : Int) → CLR σ2 y1.toInt → En 3 66 none mr_284 (P_284 σ0 a b) 2 [(0, .ref 159), (1, .int a), (2, .int b), (3, .int y1)] [] σ2 := by
    intro n2
    induction n2 with
    | zero =>
      intro σ2 y1 h3 h4 h5 h6 h7 h8
      exfalso; omega
    | succ n2 ih2 =>
      intro σ2 y1 h3 h4 h5 h6 h7 h8
      refine En_Ps 2 (pc' := 4) (lv' := [(0, .ref 159), (1, .int a), (2, .int b), (3, .int y1)]) (st' := [.ref 159, .int y1]) rfl ?_
      refine En_getU (j := 28) (u := 174) (g' := 50) (q := 0) rfl rfl rfl tgz_159 (by decide +kernel) h3 (by decide +kernel) (by decide +kernel) (fun h9 => ?_)
      refine En_alenN (n := 120) rfl tgz_174 (by decide +kernel) (by decide +kernel) h3 ?_
      refine En_icGe _ rfl (by decide : (Int32.ofNat 120).toInt = 120) rfl (fun h11 => ?_) (fun h11 => ?_)
      · refine En_Ps 2 (pc' := 26) (lv' := [(3, .int ((Int32.ofInt 0))), (0, .ref 159), (1, .int a), (2, .int b)]) (st' := []) rfl ?_
        have key26 : ∀ (n26 : Nat) (σ15 : SG) (y12 : Int32), WT σ15 → Fr [(49, 0), (50, 0)] σ0 σ15 → (σ15 159)[28]? = some (.ref 174) → 0 ≤ y12.toInt → y12.toInt ≤ 5 → a.toInt - y12.toInt < (n26 : Int) → PRE0 σ0 σ15 a.toInt y12.toInt → En 3 66 none mr_284 (P_284 σ0 a b) 26 [(0, .ref 159), (1, .int a), (2, .int b), (3, .int y12)] [] σ15 := by
          intro n26
          induction n26 with
          | zero =>
            intro σ15 y12 h16 h17 h18 h19 h20 h21 h22
            have h23 := PRE0_lin h22
            exfalso; omega
          | succ n26 ih26 =>
            intro σ15 y12 h16 h17 h18 h19 h20 h21 h22
            have h26 := PRE0_lin h22
            refine En_Ps 2 (pc' := 28) (lv' := [(0, .ref 159), (1, .int a), (2, .int b), (3, .int y12)]) (st' := [.int a, .int y12]) rfl ?_
            refine En_icGe _ rfl rfl rfl (fun h27 => ?_) (fun h27 => ?_)
            · refine En_Ps 3 (pc' := 51) (lv' := [(0, .ref 159), (1, .int a), (2, .int b), (3, .int y12)]) (st' := [.int a, .ref 159, .int b]) rfl ?_
              refine En_Ps 5 (pc' := 56) (lv' := [(0, .ref 159), (1, .int a), (2, .int b), (3, .int y12)]) (st' := [.int ((((Int32.ofInt 1) <<< (a &&& 31)) - (Int32.ofInt 1))), .int a, .ref 159, .int b]) rfl ?_
              refine En_nam (fun z28 h29 => ?_)
              have h30 := m1_small h29 rfl (by omega) (by omega)
              have h31 := PRE0_at h22 (by omega : y12.toInt = a.toInt)
              refine En_callV rfl rfl rfl rfl rfl rfl rfl rfl tgz_159 (by decide +kernel) rfl (c_190 σ15 h16 a z28 (geI rfl (by omega)) (leI rfl (by omega)) (geI rfl (by omega)) (leI rfl (by omega))) (by decide) (by decide) (fun v33 σ34 h32 => ?_)
              obtain ⟨h35, h36, z38, rfl, h37⟩ := h32
              have h39 := h37.2.2
              obtain rfl : σ15 = σ34 := Fr_nil h36
              refine En_icLt _ rfl rfl rfl (fun h40 => ?_) (fun h40 => ?_)
              · refine En_Ps 1 (pc' := 82) (lv' := [(0, .ref 159), (1, .int a), (2, .int b), (3, .int y12)]) (st' := [.int ((Int32.ofInt 0))]) rfl ?_
                refine En_top (by decide : (Int32.ofInt 0).toInt = 0) (fun z41 h42 => ?_)
                exact En_ret (v := some (.int z41)) rfl rfl (retZ rfl rfl (by omega) (by omega)) ⟨h16, h17, z41, rfl, ⟨by omega, by omega, MAY_1 (SWd_fr h17 (by decide +kernel)) h31 h30.1 hu_a hl_b h39 (by omega)⟩⟩
              · refine En_Ps 4 (pc' := 66) (lv' := [(0, .ref 159), (1, .int a), (2, .int b), (3, .int y12)]) (st' := [.ref 159, .int a, .int b, .ref 159]) rfl ?_
                refine En_getU (j := 1) (u := 160) (g' := 36) (q := 0) rfl rfl rfl tgz_159 (by decide +kernel) h16 (by decide +kernel) (by decide +kernel) (fun h43 => ?_)
                refine En_Ps 1 (pc' := 70) (lv' := [(0, .ref 159), (1, .int a), (2, .int b), (3, .int y12)]) (st' := [.int ((Int32.ofInt 1)), .ref 160, .int a, .int b, .ref 159]) rfl ?_
                refine En_iald (l := 0) (u := 3) rfl (by decide : (Int32.ofInt 1).toInt = 1) tgz_160 (by decide +kernel) h16 (by omega) (lnI (by decide +kernel : LN _ = 226) (by omega)) (by decide +kernel) (fun z46 h45 h47 h48 => ?_)
                refine En_callV rfl rfl rfl rfl rfl rfl rfl rfl tgz_159 (by decide +kernel) rfl (c_256 σ15 h16 b a z46 (geI rfl (by omega)) (leI rfl (by omega)) (geI rfl (by omega)) (leI rfl (by omega)) (geI rfl (by omega)) (leI rfl (by omega))) (by decide) (by decide) (fun v50 σ51 h49 => ?_)
                obtain ⟨h52, h53, z55, rfl, h54⟩ := h49
                have h56 := h54.2.2
                obtain rfl : σ15 = σ51 := Fr_nil h53
                refine En_iEq _ rfl rfl (fun h57 => ?_) (fun h57 => ?_)
                · refine En_Ps 1 (pc' := 82) (lv' := [(0, .ref 159), (1, .int a), (2, .int b), (3, .int y12)]) (st' := [.int ((Int32.ofInt 0))]) rfl ?_
                  refine En_top (by decide : (Int32.ofInt 0).toInt = 0) (fun z58 h59 => ?_)
                  exact En_ret (v := some (.int z58)) rfl rfl (retZ rfl rfl (by omega) (by omega)) ⟨h16, h17, z58, rfl, ⟨by omega, by omega, MAY_2 hσ0 (SWd_fr h17 (by decide +kernel)) h31 hl_b hu_b (ci_at h45 rfl).symm h56 (by omega)⟩⟩
                · refine En_Ps 2 (pc' := 82) (lv' := [(0, .ref 159), (1, .int a), (2, .int b), (3, .int y12)]) (st' := [.int ((Int32.ofInt 1))]) rfl ?_
                  refine En_top (by decide : (Int32.ofInt 1).toInt = 1) (fun z60 h61 => ?_)
                  exact En_ret (v := some (.int z60)) rfl rfl (retZ rfl rfl (by omega) (by omega)) ⟨h16, h17, z60, rfl, ⟨by omega, by omega, fun _ => (by omega)⟩⟩
            · refine En_Ps 3 (pc' := 34) (lv' := [(0, .ref 159), (1, .int a), (2, .int b), (3, .int y12)]) (st' := [.ref 159, .int y12, .ref 159]) rfl ?_
              refine En_getU (j := 29) (u := 175) (g' := 51) (q := 0) rfl rfl rfl tgz_159 (by decide +kernel) h16 (by decide +kernel) (by decide +kernel) (fun h62 => ?_)
              refine En_Ps 1 (pc' := 38) (lv' := [(0, .ref 159), (1, .int a), (2, .int b), (3, .int y12)]) (st' := [.int y12, .ref 175, .int y12, .ref 159]) rfl ?_
              refine En_iald (l := 0) (u := 54) rfl rfl tgz_175 (by decide +kernel) h16 (by omega) (lnI (by decide +kernel : LN _ = 6) (by omega)) (FTsgl (by decide +kernel)) (fun z65 h64 h66 h67 => ?_)
              refine En_callV rfl rfl rfl rfl rfl rfl rfl rfl tgz_159 (by decide +kernel) rfl (c_298 σ15 h16 y12 z65 (geI rfl (by omega)) (leI rfl (by omega)) (geI rfl (by omega)) (leI rfl (by omega)) (PRE0_HB h22)) (by decide) (by decide) (fun v69 σ70 h68 => ?_)
              obtain ⟨h71, h72, rfl, h73⟩ := h68
              have h74 := h73
              have h75 := Fr_trans h17 h72 (by decide +kernel)
              refine En_Ps 1 (pc' := 45) (lv' := [(3, .int ((y12 + Int32.ofInt 1))), (0, .ref 159), (1, .int a), (2, .int b)]) (st' := []) rfl ?_
              refine En_lv1 (addI rfl (by decide : (Int32.ofInt 1).toInt = 1) (by omega) (by omega)) (fun z76 h77 => ?_)
              refine En_Ps 1 (pc' := 26) (lv' := [(3, .int z76), (0, .ref 159), (1, .int a), (2, .int b)]) (st' := []) rfl ?_
              refine En_lv (lv := [(0, .ref 159), (1, .int a), (2, .int b), (3, .int z76)]) ⟨rfl, rfl, rfl, rfl, trivial⟩ ?_
              exact ih26 σ70 z76 h71 h75 ((h72 _ _ (inW tgz_159 (by decide +kernel))).trans h18) (by omega) (by omega) (by omega) (PRE0_s hσ0 h22 (SWd_fr h17 (by decide +kernel)) (SXd_fr h17 (by decide +kernel)) (by omega) (ci_at h64 rfl).symm h74 (by omega))
        have := (by decide : (Int32.ofInt 0).toInt = 0)
        refine En_lv (lv := [(0, .ref 159), (1, .int a), (2, .int b), (3, .int ((Int32.ofInt 0)))]) ⟨rfl, rfl, rfl, rfl, trivial⟩ ?_
        exact key26 (Int.toNat (a.toInt) + 1) σ2 ((Int32.ofInt 0)) h3 h4 h9 (by omega) (by omega) (by omega) (PRE0_0 h8 (by omega) hl_a (by omega) (by decide))
      · refine En_Ps 1 (pc' := 12) (lv' := [(0, .ref 159), (1, .int a), (2, .int b), (3, .int y1)]) (st' := [.ref 159]) rfl ?_
        refine En_getK (j := 28) h9 rfl rfl rfl tgz_159 (by decide +kernel) ?_
        refine En_Ps 2 (pc' := 17) (lv' := [(0, .ref 159), (1, .int a), (2, .int b), (3, .int y1)]) (st' := [.int ((Int32.ofInt 0)), .int y1, .ref 174]) rfl ?_
        refine En_iast (l := (-2147483648)) (u := 2147483647) rfl rfl tgz_174 (by decide +kernel) (by omega) (lnI (by decide +kernel : LN _ = 120) (by omega)) (FTsgl (by decide +kernel)) (fullI _) h3 h4 (by decide +kernel) (fun σ78 h79 h80 h81 h82 => ?_)
        refine En_Ps 1 (pc' := 21) (lv' := [(3, .int ((y1 + Int32.ofInt 1))), (0, .ref 159), (1, .int a), (2, .int b)]) (st' := []) rfl ?_
        refine En_lv1 (addI rfl (by decide : (Int32.ofInt 1).toInt = 1) (by omega) (by omega)) (fun z83 h84 => ?_)
        refine En_Ps 1 (pc' := 2) (lv' := [(3, .int z83), (0, .ref 159), (1, .int a), (2, .int b)]) (st' := []) rfl ?_
        refine En_lv (lv := [(0, .ref 159), (1, .int a), (2, .int b), (3, .int z83)]) ⟨rfl, rfl, rfl, rfl, trivial⟩ ?_
        exact ih2 σ78 z83 h79 h80 (by omega) (by omega) (by omega) (CLR_s h8 h81 h82 (by decide) (by omega) (by omega))
  have := (by decide : (Int32.ofInt 0).toInt = 0)
  refine En_lv (lv := [(0, .ref 159), (1, .int a), (2, .int b), (3, .int ((Int32.ofInt 0)))]) ⟨rfl, rfl, rfl, rfl, trivial⟩ ?_
  exact key2 (Int.toNat (127) + 1) σ0 ((Int32.ofInt 0)) hσ0 hF0 (by omega) (by omega) (by omega) (CLR_0 (by decide))
/-- DoorSchoolModel.begins(I)I -/
abbrev P_200 (σ0 : SG) (a : Int32) : PO := fun v σ => WT σ ∧ Fr [(49, 0), (50, 0), (51, 0)] σ0 σ ∧ ∃ ret : Int32, v = some (.int ret) ∧ -ret.toInt - 2 ≤ 0 ∧ ret.toInt - 54 ≤ 0
set_option maxRecDepth 10000 in
set_option maxHeartbeats 4000000 in
theorem c_200 (σ0 : SG) (hσ0 : WT σ0) (a : Int32) (hT : TPOS σ0) : En 5 122 none mr_200 (P_200 σ0 a) 0 [(0, .ref 159), (1, .int a)] [] σ0 := by
  have hF0 : Fr [(49, 0), (50, 0), (51, 0)] σ0 σ0 := Fr_rfl
  refine En_Ps 4 (pc' := 4) (lv' := [(0, .ref 159), (1, .int a)]) (st' := [.ref 159, .long ((Int64.ofNat 0)), .long a.toInt64]) rfl ?_
  refine En_getU (j := 1) (u := 160) (g' := 36) (q := 0) rfl rfl rfl tgz_159 (by decide +kernel) hσ0 (by decide +kernel) (by decide +kernel) (fun h1 => ?_)
  refine En_Ps 1 (pc' := 8) (lv' := [(0, .ref 159), (1, .int a)]) (st' := [.int ((Int32.ofInt 5)), .ref 160, .long ((Int64.ofNat 0)), .long a.toInt64]) rfl ?_
  refine En_iald (l := 0) (u := 6) rfl (by decide : (Int32.ofInt 5).toInt = 5) tgz_160 (by decide +kernel) hσ0 (by omega) (lnI (by decide +kernel : LN _ = 226) (by omega)) (by decide +kernel) (fun z4 h3 h5 h6 => ?_)
  refine En_Ps 2 (pc' := 11) (lv' := [(0, .ref 159), (1, .int a)]) (st' := [.int ((z4 - ((Int32.ofInt 1)))), .long ((Int64.ofNat 0)), .long a.toInt64]) rfl ?_
  refine En_top (subI rfl (by decide : (Int32.ofInt 1).toInt = 1) (by omega) (by omega)) (fun z7 h8 => ?_)
  refine En_Ps 1 (pc' := 12) (lv' := [(0, .ref 159), (1, .int a)]) (st' := [.long z7.toInt64, .long ((Int64.ofNat 0)), .long a.toInt64]) rfl ?_
  have : a.toInt64.toInt = a.toInt := (i2lI rfl)
  have := (by decide : ((Int64.ofNat 0)).toInt = 0)
  have : z7.toInt64.toInt = z7.toInt := (i2lI rfl)
  refine En_callS rfl rfl rfl rfl rfl rfl rfl rfl rfl (c_249 σ0 hσ0 a.toInt64 ((Int64.ofNat 0)) z7.toInt64) (by decide) (by decide) (fun v10 σ11 h9 => ?_)
  obtain ⟨h12, h13, z15, rfl, h14⟩ := h9
  obtain rfl : σ0 = σ11 := Fr_nil h13
  refine En_iNe _ rfl rfl (fun h16 => ?_) (fun h16 => ?_)
  · refine En_Ps 3 (pc' := 24) (lv' := [(0, .ref 159), (1, .int a)]) (st' := [.ref 159, .int ((Int32.ofInt 0)), .ref 159]) rfl ?_
    refine En_getK (j := 1) h1 rfl rfl rfl tgz_159 (by decide +kernel) ?_
    refine En_Ps 1 (pc' := 28) (lv' := [(0, .ref 159), (1, .int a)]) (st' := [.int ((Int32.ofInt 1)), .ref 160, .int ((Int32.ofInt 0)), .ref 159]) rfl ?_
    refine En_iald (l := 0) (u := 3) rfl (by decide : (Int32.ofInt 1).toInt = 1) tgz_160 (by decide +kernel) hσ0 (by omega) (lnI (by decide +kernel : LN _ = 226) (by omega)) (by decide +kernel) (fun z18 h17 h19 h20 => ?_)
    have h21 : 1 ≤ z18.toInt := by have e1 := ci_at h17 (rfl : (1 : Int) = 1); have e5 := ci_at h3 (rfl : (5 : Int) = 5); have e := hT (Or.inl (by omega)); omega
    have := (by decide : ((Int32.ofInt 0)).toInt = 0)
    refine En_callV rfl rfl rfl rfl rfl rfl rfl rfl tgz_159 (by decide +kernel) rfl (c_277 σ0 hσ0 ((Int32.ofInt 0)) z18 (geI (by decide : (Int32.ofInt 0).toInt = 0) (by omega)) (leI (by decide : (Int32.ofInt 0).toInt = 0) (by omega)) (geI rfl (by omega)) (leI rfl (by omega)) (by have := n6 hσ0; omega)) (by decide) (by decide) (fun v23 σ24 h22 => ?_)
    obtain ⟨h25, h26, z28, rfl, h27⟩ := h22
    have h29 := h27.2.2
    have h30 := Fr_trans hF0 h26 (by decide +kernel)
    refine En_Ps 3 (pc' := 35) (lv' := [(3, .int ((Int32.ofInt 0))), (2, .int z28), (0, .ref 159), (1, .int a)]) (st' := []) rfl ?_
    have key35 : ∀ (n35 : Nat) (σ34 : SG) (y31 : Int32), WT σ34 → Fr [(49, 0), (50, 0), (51, 0)] σ0 σ34 → (σ34 159)[1]? = some (.ref 160) → (σ34 160)[(5 : Int).toNat]? = some (.int z4) → (σ34 160)[(1 : Int).toNat]? = some (.int z18) → 0 ≤ y31.toInt → y31.toInt ≤ 6 → -y31.toInt + 6 < (n35 : Int) → BEGs σ34 y31.toInt z28.toInt → En 5 122 none mr_200 (P_200 σ0 a) 35 [(0, .ref 159), (1, .int a), (2, .int z28), (3, .int y31)] [] σ34 := by
      intro n35
      induction n35 with
      | zero =>
        intro σ34 y31 h35 h36 h37 h38 h39 h40 h41 h42 h43
        have h44 := BEG_lin h43
        exfalso; omega
      | succ n35 ih35 =>
        intro σ34 y31 h35 h36 h37 h38 h39 h40 h41 h42 h43
        have h47 := BEG_lin h43
        refine En_Ps 2 (pc' := 37) (lv' := [(0, .ref 159), (1, .int a), (2, .int z28), (3, .int y31)]) (st' := [.int a, .int y31]) rfl ?_
        refine En_icGt _ rfl rfl rfl (fun h48 => ?_) (fun h48 => ?_)
        · refine En_Ps 1 (pc' := 98) (lv' := [(0, .ref 159), (1, .int a), (2, .int z28), (3, .int y31)]) (st' := [.ref 159]) rfl ?_
          refine En_getU (j := 29) (u := 175) (g' := 51) (q := 0) rfl rfl rfl tgz_159 (by decide +kernel) h35 (by decide +kernel) (by decide +kernel) (fun h49 => ?_)
          refine En_Ps 1 (pc' := 102) (lv' := [(0, .ref 159), (1, .int a), (2, .int z28), (3, .int y31)]) (st' := [.int a, .ref 175]) rfl ?_
          refine En_iald (l := 0) (u := 54) rfl rfl tgz_175 (by decide +kernel) h35 (by omega) (lnI (by decide +kernel : LN _ = 6) (by omega)) (FTsgl (by decide +kernel)) (fun z52 h51 h53 h54 => ?_)
          exact En_ret (v := some (.int z52)) rfl rfl rfl ⟨h35, h36, z52, rfl, (by omega)⟩
        · refine En_Ps 1 (pc' := 41) (lv' := [(0, .ref 159), (1, .int a), (2, .int z28), (3, .int y31)]) (st' := [.ref 159]) rfl ?_
          refine En_getU (j := 29) (u := 175) (g' := 51) (q := 0) rfl rfl rfl tgz_159 (by decide +kernel) h35 (by decide +kernel) (by decide +kernel) (fun h55 => ?_)
          refine En_Ps 2 (pc' := 46) (lv' := [(0, .ref 159), (1, .int a), (2, .int z28), (3, .int y31)]) (st' := [.int ((Int32.ofInt 0)), .int y31, .ref 175]) rfl ?_
          refine En_iast (l := 0) (u := 54) rfl rfl tgz_175 (by decide +kernel) (by omega) (lnI (by decide +kernel : LN _ = 6) (by omega)) (FTsgl (by decide +kernel)) (rngI (by decide : (Int32.ofInt 0).toInt = 0) (by omega) (by omega)) h35 h36 (by decide +kernel) (fun σ57 h58 h59 h60 h61 => ?_)
          have key47 : ∀ (n47 : Nat) (σ64 : SG), WT σ64 → Fr [(49, 0), (50, 0), (51, 0)] σ0 σ64 → (σ64 159)[1]? = some (.ref 160) → (σ64 160)[(5 : Int).toNat]? = some (.int z4) → (σ64 160)[(1 : Int).toNat]? = some (.int z18) → (σ64 159)[29]? = some (.ref 175) → 55 - ci σ64 175 y31.toInt < (n47 : Int) → AIMs σ64 y31.toInt z28.toInt → En 5 122 none mr_200 (P_200 σ0 a) 47 [(0, .ref 159), (1, .int a), (2, .int z28), (3, .int y31)] [] σ64 := by
            intro n47
            induction n47 with
            | zero =>
              intro σ64 h65 h66 h67 h68 h69 h70 h71 h72
              exfalso; have := AIM_lin (by assumption) h72; omega
            | succ n47 ih47 =>
              intro σ64 h65 h66 h67 h68 h69 h70 h71 h72
              have h75 := AIM_lin h65 h72
              refine En_Ps 3 (pc' := 50) (lv' := [(0, .ref 159), (1, .int a), (2, .int z28), (3, .int y31)]) (st' := [.ref 159, .int y31, .ref 159]) rfl ?_
              refine En_getK (j := 29) h70 rfl rfl rfl tgz_159 (by decide +kernel) ?_
              refine En_Ps 1 (pc' := 54) (lv' := [(0, .ref 159), (1, .int a), (2, .int z28), (3, .int y31)]) (st' := [.int y31, .ref 175, .int y31, .ref 159]) rfl ?_
              refine En_iald (l := 0) (u := 54) rfl rfl tgz_175 (by decide +kernel) h65 (by omega) (lnI (by decide +kernel : LN _ = 6) (by omega)) (FTsgl (by decide +kernel)) (fun z77 h76 h78 h79 => ?_)
              refine En_callV rfl rfl rfl rfl rfl rfl rfl rfl tgz_159 (by decide +kernel) rfl (c_284 σ64 h65 y31 z77 (geI rfl (by omega)) (leI rfl (by omega)) (geI rfl (by omega)) (leI rfl (by omega))) (by decide) (by decide) (fun v81 σ82 h80 => ?_)
              obtain ⟨h83, h84, z86, rfl, h85⟩ := h80
              have h87 := h85.2.2
              have h88 := Fr_trans h66 h84 (by decide +kernel)
              refine En_iEq _ rfl rfl (fun h89 => ?_) (fun h89 => ?_)
              · have h90 := GO_1 (all := z28.toInt) h87 (by omega)
                have h91 := AIM_53 h65 h72 h76 h90
                refine En_Ps 1 (pc' := 79) (lv' := [(0, .ref 159), (1, .int a), (2, .int z28), (3, .int y31)]) (st' := [.ref 159]) rfl ?_
                refine En_getK (j := 29) ((h84 _ _ (inW tgz_159 (by decide +kernel))).trans h70) rfl rfl rfl tgz_159 (by decide +kernel) ?_
                refine En_Ps 2 (pc' := 84) (lv' := [(0, .ref 159), (1, .int a), (2, .int z28), (3, .int y31)]) (st' := [.int y31, .ref 175, .int y31, .ref 175]) rfl ?_
                refine En_ialdK ((h84 _ _ (inWa tgz_175 (by decide +kernel))).trans h76) rfl rfl tgz_175 (by decide +kernel) h83 (by omega) (lnI (by decide +kernel : LN _ = 6) (by omega)) ?_
                refine En_Ps 2 (pc' := 87) (lv' := [(0, .ref 159), (1, .int a), (2, .int z28), (3, .int y31)]) (st' := [.int ((z77 + ((Int32.ofInt 1)))), .int y31, .ref 175]) rfl ?_
                refine En_top (addI rfl (by decide : (Int32.ofInt 1).toInt = 1) (by omega) (by omega)) (fun z93 h94 => ?_)
                refine En_iast (l := 0) (u := 54) rfl rfl tgz_175 (by decide +kernel) (by omega) (lnI (by decide +kernel : LN _ = 6) (by omega)) (FTsgl (by decide +kernel)) (rngI rfl (by omega) (by omega)) h83 h88 (by decide +kernel) (fun σ95 h96 h97 h98 h99 => ?_)
                refine En_Ps 1 (pc' := 47) (lv' := [(0, .ref 159), (1, .int a), (2, .int z28), (3, .int y31)]) (st' := []) rfl ?_
                have h100 := ci_at h98 (rfl : y31.toInt = y31.toInt)
                have h101 := ci_at h76 (rfl : y31.toInt = y31.toInt)
                exact ih47 σ95 h96 h97 ((h99 _ _ (Or.inl (neTG tgz_159 tgz_175 (by decide)))).trans ((h84 _ _ (inW tgz_159 (by decide +kernel))).trans h67)) ((h99 _ _ (Or.inl (neTG tgz_160 tgz_175 (by decide)))).trans ((h84 _ _ (inWa tgz_160 (by decide +kernel))).trans h68)) ((h99 _ _ (Or.inl (neTG tgz_160 tgz_175 (by decide)))).trans ((h84 _ _ (inWa tgz_160 (by decide +kernel))).trans h69)) ((h99 _ _ (Or.inl (neTG tgz_159 tgz_175 (by decide)))).trans ((h84 _ _ (inW tgz_159 (by decide +kernel))).trans h70)) (by omega) (AIM_s h65 (SWd_fr h84 (by decide +kernel)) (SXd_fr h84 (by decide +kernel)) h72 h76 h90 h98 h99 (by omega))
              · refine En_Ps 4 (pc' := 65) (lv' := [(0, .ref 159), (1, .int a), (2, .int z28), (3, .int y31)]) (st' := [.int ((y31 + ((Int32.ofInt 1)))), .ref 159]) rfl ?_
                refine En_top (addI rfl (by decide : (Int32.ofInt 1).toInt = 1) (by omega) (by omega)) (fun z102 h103 => ?_)
                refine En_Ps 1 (pc' := 66) (lv' := [(0, .ref 159), (1, .int a), (2, .int z28), (3, .int y31)]) (st' := [.ref 159, .int z102, .ref 159]) rfl ?_
                refine En_getK (j := 1) ((h84 _ _ (inW tgz_159 (by decide +kernel))).trans h67) rfl rfl rfl tgz_159 (by decide +kernel) ?_
                refine En_Ps 1 (pc' := 70) (lv' := [(0, .ref 159), (1, .int a), (2, .int z28), (3, .int y31)]) (st' := [.int ((Int32.ofInt 1)), .ref 160, .int z102, .ref 159]) rfl ?_
                refine En_ialdK ((h84 _ _ (inWa tgz_160 (by decide +kernel))).trans h69) rfl (by decide : (Int32.ofInt 1).toInt = 1) tgz_160 (by decide +kernel) h83 (by omega) (lnI (by decide +kernel : LN _ = 226) (by omega)) ?_
                refine En_callV rfl rfl rfl rfl rfl rfl rfl rfl tgz_159 (by decide +kernel) rfl (c_277 σ82 h83 z102 z18 (geI rfl (by omega)) (leI rfl (by omega)) (geI rfl (by omega)) (leI rfl (by omega)) (by have e5 := ci_at ((h84 _ _ (inWa tgz_160 (by decide +kernel))).trans h68) (rfl : (5 : Int) = 5); omega)) (by decide) (by decide) (fun v106 σ107 h105 => ?_)
                obtain ⟨h108, h109, z111, rfl, h110⟩ := h105
                have h112 := h110.2.2
                have h113 := Fr_trans h88 h109 (by decide +kernel)
                refine En_Ps 1 (pc' := 75) (lv' := [(0, .ref 159), (1, .int a), (2, .int z28), (3, .int y31)]) (st' := [.int z28, .int z111]) rfl ?_
                refine En_icLe _ rfl rfl rfl (fun h114 => ?_) (fun h114 => ?_)
                · refine En_Ps 1 (pc' := 94) (lv' := [(3, .int ((y31 + Int32.ofInt 1))), (0, .ref 159), (1, .int a), (2, .int z28)]) (st' := []) rfl ?_
                  refine En_lv1 (addI rfl (by decide : (Int32.ofInt 1).toInt = 1) (by omega) (by omega)) (fun z115 h116 => ?_)
                  refine En_Ps 1 (pc' := 35) (lv' := [(3, .int z115), (0, .ref 159), (1, .int a), (2, .int z28)]) (st' := []) rfl ?_
                  refine En_lv (lv := [(0, .ref 159), (1, .int a), (2, .int z28), (3, .int z115)]) ⟨rfl, rfl, rfl, rfl, trivial⟩ ?_
                  exact ih35 σ107 z115 h108 h113 ((h109 _ _ (inW tgz_159 (by decide +kernel))).trans ((h84 _ _ (inW tgz_159 (by decide +kernel))).trans h67)) ((h109 _ _ (inWa tgz_160 (by decide +kernel))).trans ((h84 _ _ (inWa tgz_160 (by decide +kernel))).trans h68)) ((h109 _ _ (inWa tgz_160 (by decide +kernel))).trans ((h84 _ _ (inWa tgz_160 (by decide +kernel))).trans h69)) (by omega) (by omega) (by omega) (BEG_s h112 (SWd_fr h109 (by decide +kernel)) (SXd_fr h109 (by decide +kernel)) (by omega) (ci_at ((h84 _ _ (inWa tgz_160 (by decide +kernel))).trans h69) rfl).symm (by omega) (by omega) (by omega) (by omega) (by omega))
                · have h117 := GO_2 (hour := z77.toInt) (SWd_fr h84 (by decide +kernel)) (SXd_fr h84 (by decide +kernel)) h112 (by omega : _ = y31.toInt + 1) (ci_at ((h84 _ _ (inWa tgz_160 (by decide +kernel))).trans h69) rfl).symm (by omega) (by omega : z28.toInt < _) (by omega)
                  have h118 := AIM_53 h65 h72 h76 h117
                  refine En_Ps 1 (pc' := 79) (lv' := [(0, .ref 159), (1, .int a), (2, .int z28), (3, .int y31)]) (st' := [.ref 159]) rfl ?_
                  refine En_getK (j := 29) ((h109 _ _ (inW tgz_159 (by decide +kernel))).trans ((h84 _ _ (inW tgz_159 (by decide +kernel))).trans h70)) rfl rfl rfl tgz_159 (by decide +kernel) ?_
                  refine En_Ps 2 (pc' := 84) (lv' := [(0, .ref 159), (1, .int a), (2, .int z28), (3, .int y31)]) (st' := [.int y31, .ref 175, .int y31, .ref 175]) rfl ?_
                  refine En_ialdK ((h109 _ _ (inWa tgz_175 (by decide +kernel))).trans ((h84 _ _ (inWa tgz_175 (by decide +kernel))).trans h76)) rfl rfl tgz_175 (by decide +kernel) h108 (by omega) (lnI (by decide +kernel : LN _ = 6) (by omega)) ?_
                  refine En_Ps 2 (pc' := 87) (lv' := [(0, .ref 159), (1, .int a), (2, .int z28), (3, .int y31)]) (st' := [.int ((z77 + ((Int32.ofInt 1)))), .int y31, .ref 175]) rfl ?_
                  refine En_top (addI rfl (by decide : (Int32.ofInt 1).toInt = 1) (by omega) (by omega)) (fun z120 h121 => ?_)
                  refine En_iast (l := 0) (u := 54) rfl rfl tgz_175 (by decide +kernel) (by omega) (lnI (by decide +kernel : LN _ = 6) (by omega)) (FTsgl (by decide +kernel)) (rngI rfl (by omega) (by omega)) h108 h113 (by decide +kernel) (fun σ122 h123 h124 h125 h126 => ?_)
                  refine En_Ps 1 (pc' := 47) (lv' := [(0, .ref 159), (1, .int a), (2, .int z28), (3, .int y31)]) (st' := []) rfl ?_
                  have h127 := ci_at h125 (rfl : y31.toInt = y31.toInt)
                  have h128 := ci_at h76 (rfl : y31.toInt = y31.toInt)
                  exact ih47 σ122 h123 h124 ((h126 _ _ (Or.inl (neTG tgz_159 tgz_175 (by decide)))).trans ((h109 _ _ (inW tgz_159 (by decide +kernel))).trans ((h84 _ _ (inW tgz_159 (by decide +kernel))).trans h67))) ((h126 _ _ (Or.inl (neTG tgz_160 tgz_175 (by decide)))).trans ((h109 _ _ (inWa tgz_160 (by decide +kernel))).trans ((h84 _ _ (inWa tgz_160 (by decide +kernel))).trans h68))) ((h126 _ _ (Or.inl (neTG tgz_160 tgz_175 (by decide)))).trans ((h109 _ _ (inWa tgz_160 (by decide +kernel))).trans ((h84 _ _ (inWa tgz_160 (by decide +kernel))).trans h69))) ((h126 _ _ (Or.inl (neTG tgz_159 tgz_175 (by decide)))).trans ((h109 _ _ (inW tgz_159 (by decide +kernel))).trans ((h84 _ _ (inW tgz_159 (by decide +kernel))).trans h70))) (by omega) (AIM_s h65 (SWd_tr (SWd_fr h84 (by decide +kernel)) (SWd_fr h109 (by decide +kernel))) (SXd_tr (SXd_fr h84 (by decide +kernel)) (SXd_fr h109 (by decide +kernel))) h72 h76 h117 h125 h126 (by omega))
          exact key47 (Int.toNat (55 - ci σ57 175 y31.toInt) + 1) σ57 h58 h59 ((h61 _ _ (Or.inl (neTG tgz_159 tgz_175 (by decide)))).trans h37) ((h61 _ _ (Or.inl (neTG tgz_160 tgz_175 (by decide)))).trans h38) ((h61 _ _ (Or.inl (neTG tgz_160 tgz_175 (by decide)))).trans h39) ((h61 _ _ (Or.inl (neTG tgz_159 tgz_175 (by decide)))).trans h55) (by omega) (AIM_0 h35 h43 (by have e5 := ci_at h38 (rfl : (5 : Int) = 5); omega) h60 h61 (by decide))
    have := (by decide : (Int32.ofInt 0).toInt = 0)
    refine En_lv (lv := [(0, .ref 159), (1, .int a), (2, .int z28), (3, .int ((Int32.ofInt 0)))]) ⟨rfl, rfl, rfl, rfl, trivial⟩ ?_
    exact key35 (Int.toNat (6) + 1) σ24 ((Int32.ofInt 0)) h25 h30 ((h26 _ _ (inW tgz_159 (by decide +kernel))).trans h1) ((h26 _ _ (inWa tgz_160 (by decide +kernel))).trans h3) ((h26 _ _ (inWa tgz_160 (by decide +kernel))).trans h17) (by omega) (by omega) (by omega) (BEG_0 hσ0 (SWd_fr h26 (by decide +kernel)) (SXd_fr h26 (by decide +kernel)) h29 (by decide) (ci_at h17 rfl).symm (by omega) (by omega) (by decide))
  · refine En_Ps 1 (pc' := 20) (lv' := [(0, .ref 159), (1, .int a)]) (st' := [.int (((Int8.ofInt (-2)).toInt32))]) rfl ?_
    refine En_top (by decide : ((Int8.ofInt (-2)).toInt32).toInt = -2) (fun z129 h130 => ?_)
    exact En_ret (v := some (.int z129)) rfl rfl rfl ⟨hσ0, hF0, z129, rfl, (by omega)⟩

