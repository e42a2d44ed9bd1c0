/-- DoorSchoolModel.askOf(I)I -/
abbrev P_197 (σ0 : SG) (a : Int32) : PO := fun v σ => WT σ ∧ Fr [(35, 18), (42, 0), (43, 0), (44, 0)] σ0 σ ∧ ∃ ret : Int32, v = some (.int ret) ∧ -ret.toInt - 1 ≤ 0 ∧ ret.toInt - 15 ≤ 0
set_option maxRecDepth 10000 in
set_option maxHeartbeats 4000000 in
theorem c_197 (σ0 : SG) (hσ0 : WT σ0) (a : Int32) (hl_a : 0 ≤ a.toInt) (hu_a : a.toInt ≤ 3) : En 5 110 none mr_197 (P_197 σ0 a) 0 [(0, .ref 159), (1, .int a)] [] σ0 := by
  have hF0 : Fr [(35, 18), (42, 0), (43, 0), (44, 0)] σ0 σ0 := Fr_rfl
  refine En_Ps 2 (pc' := 2) (lv' := [(0, .ref 159), (1, .int a)]) (st' := [.int a, .ref 159]) rfl ?_
  refine En_callV rfl rfl rfl rfl rfl rfl rfl rfl tgz_159 (by decide +kernel) rfl (c_231 σ0 hσ0 a (geI rfl (by first | exact q_58e6e51dcc hl_a | omega)) (leI rfl (by first | exact q_da5e9b976f hu_a | omega))) (by decide) (by decide) (fun v2 σ3 h1 => ?_)
  obtain ⟨h4, h5, z7, rfl, h6⟩ := h1
  have h8 := Fr_trans hF0 h5 (by decide +kernel)
  refine En_Ps 5 (pc' := 11) (lv' := [(4, .int ((Int32.ofInt 0))), (3, .int ((Int32.ofInt (-1)))), (2, .int z7), (0, .ref 159), (1, .int a)]) (st' := []) rfl ?_
  have key11 : ∀ (n11 : Nat) (σ12 : SG) (y9 : Int32) (y10 : Int32) (y11 : Int32), WT σ12 → Fr [(35, 18), (42, 0), (43, 0), (44, 0)] σ0 σ12 → 0 ≤ y9.toInt → y9.toInt ≤ 81 → (-1) ≤ y10.toInt → y10.toInt ≤ 15 → 0 ≤ y11.toInt → y11.toInt ≤ 16 → y10.toInt - y11.toInt + 1 ≤ 0 → -y11.toInt + 16 < (n11 : Int) → En 5 110 none mr_197 (P_197 σ0 a) 11 [(0, .ref 159), (1, .int a), (2, .int y9), (3, .int y10), (4, .int y11)] [] σ12 := by
    intro n11
    induction n11 with
    | zero =>
      intro σ12 y9 y10 y11 h13 h14 h15 h16 h17 h18 h19 h20 h21 h22
      first | exact (q_511f6d33ac h22 h20).elim | (exfalso; omega)
    | succ n11 ih11 =>
      intro σ12 y9 y10 y11 h13 h14 h15 h16 h17 h18 h19 h20 h21 h22
      refine En_Ps 2 (pc' := 14) (lv' := [(0, .ref 159), (1, .int a), (2, .int y9), (3, .int y10), (4, .int y11)]) (st' := [.ref 159, .int y11]) rfl ?_
      obtain ⟨z24, h23, h25, h26⟩ := WT_peekI h13 tgz_160 (by decide +kernel : FT 36 (0 : Int).toNat = (0, 0, 4)) (by decide +kernel)
      obtain ⟨z28, h27, h29, h30⟩ := WT_peekI h13 tgz_160 (by decide +kernel : FT 36 (7 : Int).toNat = (0, 0, 1600)) (by decide +kernel)
      refine En_callV rfl rfl rfl rfl rfl rfl rfl rfl tgz_159 (by decide +kernel) rfl (c_269 σ12 h13 z24 h23 z28 h27) (by decide) (by decide) (fun v32 σ33 h31 => ?_)
      obtain ⟨h34, h35, z37, rfl, h36⟩ := h31
      have h38 := h36.2.2
      have h39 := Fr_trans h14 h35 (by decide +kernel)
      refine En_icGe _ rfl rfl rfl (fun h40 => ?_) (fun h40 => ?_)
      · refine En_Ps 1 (pc' := 51) (lv' := [(0, .ref 159), (1, .int a), (2, .int y9), (3, .int y10), (4, .int y11)]) (st' := [.int y10]) rfl ?_
        exact En_ret (v := some (.int y10)) rfl rfl rfl ⟨h34, h39, y10, rfl, ⟨by first | exact q_909eef6c0e h17 | omega, by first | exact q_867a9ac627 h18 | omega⟩⟩
      · refine En_Ps 3 (pc' := 24) (lv' := [(0, .ref 159), (1, .int a), (2, .int y9), (3, .int y10), (4, .int y11)]) (st' := [.int y11, .int a, .ref 159]) rfl ?_
        refine En_callV rfl rfl rfl rfl rfl rfl rfl rfl tgz_159 (by decide +kernel) rfl (c_332 σ33 h34 a y11 (geI rfl (by first | exact q_58e6e51dcc hl_a | omega)) (leI rfl (by first | exact q_da5e9b976f hu_a | omega))) (by decide) (by decide) (fun v42 σ43 h41 => ?_)
        obtain ⟨h44, h45, z47, rfl, h46⟩ := h41
        have h48 := Fr_trans h39 h45 (by decide +kernel)
        refine En_Ps 3 (pc' := 32) (lv' := [(5, .int z47), (0, .ref 159), (1, .int a), (2, .int y9), (3, .int y10), (4, .int y11)]) (st' := [.int y9, .int z47]) rfl ?_
        refine En_icLt _ rfl rfl rfl (fun h49 => ?_) (fun h49 => ?_)
        · refine En_Ps 5 (pc' := 47) (lv' := [(4, .int ((y11 + Int32.ofInt 1))), (3, .int y11), (2, .int z47), (5, .int z47), (0, .ref 159), (1, .int a)]) (st' := []) rfl ?_
          refine En_lv1 (addI rfl (by decide : (Int32.ofInt 1).toInt = 1) (by first | exact q_465ab79ac1 h19 | omega) (by first | exact q_f3f8e04381 h20 | omega)) (fun z50 h51 => ?_)
          refine En_Ps 1 (pc' := 11) (lv' := [(4, .int z50), (3, .int y11), (2, .int z47), (5, .int z47), (0, .ref 159), (1, .int a)]) (st' := []) rfl ?_
          refine En_lv (lv := [(0, .ref 159), (1, .int a), (2, .int z47), (3, .int y11), (4, .int z50)]) ⟨rfl, rfl, rfl, rfl, rfl, trivial⟩ ?_
          exact ih11 σ43 z47 y11 z50 h44 h48 (by first | exact q_ef1e8e38bf h46.1 | omega) (by first | exact q_e0af57759e h46.2 | omega) (by first | exact q_5b439548fc h19 | omega) (by first | exact q_c15b485600 h40 h36.2.1 | omega) (by first | exact q_35104ce9d3 h51 h19 | omega) (by first | exact q_34dc714687 h51 h40 h36.2.1 | omega) (by first | exact q_2fedec469a h51 | omega) (by first | exact q_c5d740bdff h51 h22 | omega)
        · refine En_Ps 2 (pc' := 47) (lv' := [(4, .int ((y11 + Int32.ofInt 1))), (5, .int z47), (0, .ref 159), (1, .int a), (2, .int y9), (3, .int y10)]) (st' := []) rfl ?_
          refine En_lv1 (addI rfl (by decide : (Int32.ofInt 1).toInt = 1) (by first | exact q_465ab79ac1 h19 | omega) (by first | exact q_f3f8e04381 h20 | omega)) (fun z52 h53 => ?_)
          refine En_Ps 1 (pc' := 11) (lv' := [(4, .int z52), (5, .int z47), (0, .ref 159), (1, .int a), (2, .int y9), (3, .int y10)]) (st' := []) rfl ?_
          refine En_lv (lv := [(0, .ref 159), (1, .int a), (2, .int y9), (3, .int y10), (4, .int z52)]) ⟨rfl, rfl, rfl, rfl, rfl, trivial⟩ ?_
          exact ih11 σ43 y9 y10 z52 h44 h48 (by first | exact q_58e6e51dcc h15 | omega) (by first | exact q_938d18a0b8 h16 | omega) (by first | exact q_77b189e83d h17 | omega) (by first | exact q_5a4d8a7e08 h18 | omega) (by first | exact q_35104ce9d3 h53 h19 | omega) (by first | exact q_34dc714687 h53 h40 h36.2.1 | omega) (by first | exact q_6591527e3e h21 h53 | omega) (by first | exact q_c5d740bdff h53 h22 | omega)
  have := (by decide : (Int32.ofInt (-1)).toInt = -1)
  have := (by decide : (Int32.ofInt 0).toInt = 0)
  refine En_lv (lv := [(0, .ref 159), (1, .int a), (2, .int z7), (3, .int ((Int32.ofInt (-1)))), (4, .int ((Int32.ofInt 0)))]) ⟨rfl, rfl, rfl, rfl, rfl, trivial⟩ ?_
  exact key11 (Int.toNat (16) + 1) σ3 z7 ((Int32.ofInt (-1))) ((Int32.ofInt 0)) h4 h8 (by first | exact q_ef1e8e38bf h6.1 | omega) (by first | exact q_e0af57759e h6.2 | omega) (by decide) (by decide) (by decide) (by decide) (by omega) (by first | exact toN_lt _ | omega)
/-- DoorSchoolModel.ask(I)I -/
abbrev P_196 (σ0 : SG) (a : Int32) : PO := fun v σ => WT σ ∧ Fr [(35, 18), (42, 0), (43, 0), (44, 0)] σ0 σ ∧ ∃ ret : Int32, v = some (.int ret) ∧ -ret.toInt - 6 ≤ 0 ∧ ret.toInt - 15 ≤ 0
set_option maxRecDepth 10000 in
set_option maxHeartbeats 4000000 in
theorem c_196 (σ0 : SG) (hσ0 : WT σ0) (a : Int32) : En 6 135 none mr_196 (P_196 σ0 a) 0 [(0, .ref 159), (1, .int a)] [] σ0 := by
  have hF0 : Fr [(35, 18), (42, 0), (43, 0), (44, 0)] σ0 σ0 := Fr_rfl
  refine En_Ps 3 (pc' := 3) (lv' := [(0, .ref 159), (1, .int a)]) (st' := [.int ((Int32.ofInt 1)), .int a, .ref 159]) rfl ?_
  have := (by decide : ((Int32.ofInt 1)).toInt = 1)
  refine En_callV rfl rfl rfl rfl rfl rfl rfl rfl tgz_159 (by decide +kernel) rfl (c_198 σ0 hσ0 a ((Int32.ofInt 1)) (geI (by decide : (Int32.ofInt 1).toInt = 1) (by decide)) (leI (by decide : (Int32.ofInt 1).toInt = 1) (by decide))) (by decide) (by decide) (fun v2 σ3 h1 => ?_)
  obtain ⟨h4, h5, z7, rfl, h6⟩ := h1
  have h8 := Fr_trans hF0 h5 (by decide +kernel)
  refine En_Ps 2 (pc' := 8) (lv' := [(2, .int z7), (0, .ref 159), (1, .int a)]) (st' := [.int z7]) rfl ?_
  refine En_iGe _ rfl rfl (fun h9 => ?_) (fun h9 => ?_)
  · refine En_Ps 2 (pc' := 17) (lv' := [(2, .int z7), (0, .ref 159), (1, .int a)]) (st' := [.int a, .ref 159]) rfl ?_
    refine En_callV rfl rfl rfl rfl rfl rfl rfl rfl tgz_159 (by decide +kernel) rfl (c_197 σ3 h4 a (geI rfl (by omega)) (leI rfl (by omega))) (by decide) (by decide) (fun v11 σ12 h10 => ?_)
    obtain ⟨h13, h14, z16, rfl, h15⟩ := h10
    have h17 := Fr_trans h8 h14 (by decide +kernel)
    exact En_ret (v := some (.int z16)) rfl rfl rfl ⟨h13, h17, z16, rfl, ⟨by first | exact q_1d41d4b205 h15.1 | omega, by first | exact q_cc7dfeacf0 h15.2 | omega⟩⟩
  · refine En_Ps 2 (pc' := 20) (lv' := [(2, .int z7), (0, .ref 159), (1, .int a)]) (st' := [.int z7]) rfl ?_
    exact En_ret (v := some (.int z7)) rfl rfl rfl ⟨h4, h8, z7, rfl, ⟨by first | exact q_629d629181 h6.1 | omega, by first | exact q_ee93ba13c8 h9 | omega⟩⟩
/-- DoorSchoolModel.put(II)V -/
abbrev P_298 (σ0 : SG) (a : Int32) (b : Int32) : PO := fun v σ => WT σ ∧ Fr [(49, 0), (50, 0)] σ0 σ ∧ v = none ∧ PUTL σ0 σ a.toInt b.toInt (b.toInt + (tkN σ0 a.toInt.toNat : Int))
set_option maxRecDepth 10000 in
set_option maxHeartbeats 4000000 in
theorem c_298 (σ0 : SG) (hσ0 : WT σ0) (a : Int32) (b : Int32) (hl_a : 0 ≤ a.toInt) (hu_a : a.toInt ≤ 5) (hl_b : 0 ≤ b.toInt) (hu_b : b.toInt ≤ 111) (hB : HB σ0) : En 1 21 none mr_298 (P_298 σ0 a b) 0 [(0, .ref 159), (1, .int a), (2, .int b)] [] σ0 := by
  have hF0 : Fr [(49, 0), (50, 0)] σ0 σ0 := Fr_rfl
  refine En_Ps 1 (pc' := 1) (lv' := [(0, .ref 159), (1, .int a), (2, .int b)]) (st' := [.ref 159]) rfl ?_
  refine En_getU (j := 27) (u := 173) (g' := 49) (q := 0) rfl rfl rfl tgz_159 (by decide +kernel) hσ0 (by decide +kernel) (by decide +kernel) (fun h1 => ?_)
  refine En_Ps 2 (pc' := 6) (lv' := [(0, .ref 159), (1, .int a), (2, .int b)]) (st' := [.int b, .int a, .ref 173]) rfl ?_
  refine En_iast (l := 0) (u := 111) rfl rfl tgz_173 (by decide +kernel) (by first | exact q_58e6e51dcc hl_a | omega) (lnI (by decide +kernel : LN _ = 6) (by first | exact q_f6226e27c9 hu_a | omega)) (FTsgl (by decide +kernel)) (rngI rfl (by first | exact q_58e6e51dcc hl_b | omega) (by first | exact q_927e0182ca hu_b | omega)) hσ0 hF0 (by decide +kernel) (fun σ3 h4 h5 h6 h7 => ?_)
  refine En_Ps 2 (pc' := 9) (lv' := [(3, .int b), (0, .ref 159), (1, .int a), (2, .int b)]) (st' := []) rfl ?_
  have key9 : ∀ (n9 : Nat) (σ9 : SG) (y8 : Int32), WT σ9 → Fr [(49, 0), (50, 0)] σ0 σ9 → (σ9 159)[27]? = some (.ref 173) → 0 ≤ y8.toInt → y8.toInt ≤ 127 → b.toInt - y8.toInt ≤ 0 → -y8.toInt + 127 < (n9 : Int) → PUTL σ0 σ9 a.toInt b.toInt y8.toInt → y8.toInt ≤ b.toInt + (tkN σ0 a.toInt.toNat : Int) → En 1 21 none mr_298 (P_298 σ0 a b) 9 [(0, .ref 159), (1, .int a), (2, .int b), (3, .int y8)] [] σ9 := by
    intro n9
    induction n9 with
    | zero =>
      intro σ9 y8 h10 h11 h12 h13 h14 h15 h16 h17 h18
      first | exact (q_aaec68a920 h16 h14).elim | (exfalso; omega)
    | succ n9 ih9 =>
      intro σ9 y8 h10 h11 h12 h13 h14 h15 h16 h17 h18
      refine En_Ps 4 (pc' := 13) (lv' := [(0, .ref 159), (1, .int a), (2, .int b), (3, .int y8)]) (st' := [.int a, .ref 159, .int b, .int y8]) rfl ?_
      refine En_callV rfl rfl rfl rfl rfl rfl rfl rfl tgz_159 (by decide +kernel) rfl (c_319 σ9 h10 a (geI rfl (by first | exact q_58e6e51dcc hl_a | omega)) (leI rfl (by first | exact q_d9092b5ca1 hu_a | omega))) (by decide) (by decide) (fun v20 σ21 h19 => ?_)
      obtain ⟨h22, h23, z25, rfl, h24⟩ := h19
      have h26 := h24.2.2
      obtain rfl : σ9 = σ21 := Fr_nil h23
      have h27 := tk_ci hσ0 hl_a hu_a
      have h28 := (SWd_fr h11 (by decide +kernel)) (154 + 2 * a.toInt)
      refine En_Ps 1 (pc' := 17) (lv' := [(0, .ref 159), (1, .int a), (2, .int b), (3, .int y8)]) (st' := [.int ((b + z25)), .int y8]) rfl ?_
      refine En_top (addI rfl rfl (by first | exact q_eb9502dde8 hl_b h24.1 | omega) (by first | exact q_59dac5040b hu_b h24.2.1 | omega)) (fun z29 h30 => ?_)
      refine En_icGe _ rfl rfl rfl (fun h31 => ?_) (fun h31 => ?_)
      · exact En_ret (v := none) rfl rfl rfl ⟨h10, h11, rfl, PUTL_x hσ0 h17 (by omega) (by omega) (SWd_fr h11 (by decide +kernel)) h26 (by omega) (by omega)⟩
      · refine En_Ps 1 (pc' := 21) (lv' := [(0, .ref 159), (1, .int a), (2, .int b), (3, .int y8)]) (st' := [.ref 159]) rfl ?_
        refine En_getU (j := 28) (u := 174) (g' := 50) (q := 0) rfl rfl rfl tgz_159 (by decide +kernel) h10 (by decide +kernel) (by decide +kernel) (fun h32 => ?_)
        refine En_Ps 2 (pc' := 26) (lv' := [(0, .ref 159), (1, .int a), (2, .int b), (3, .int y8)]) (st' := [.int y8, .ref 174, .int y8, .ref 174]) rfl ?_
        refine En_iald (l := (-2147483648)) (u := 2147483647) rfl rfl tgz_174 (by decide +kernel) h10 (by first | exact q_58e6e51dcc h13 | omega) (lnI (by decide +kernel : LN _ = 120) (by first | exact q_434f72d29c h30 h31 hu_b h24.2.1 | omega)) (FTsgl (by decide +kernel)) (fun z35 h34 h36 h37 => ?_)
        refine En_Ps 1 (pc' := 28) (lv' := [(0, .ref 159), (1, .int a), (2, .int b), (3, .int y8)]) (st' := [.int ((Int32.ofInt 1)), .int z35, .int y8, .ref 174]) rfl ?_
        have h38 := PUTL_b hB h17 h34 (by omega) (by omega)
        refine En_Ps 1 (pc' := 29) (lv' := [(0, .ref 159), (1, .int a), (2, .int b), (3, .int y8)]) (st' := [.int ((z35 + ((Int32.ofInt 1)))), .int y8, .ref 174]) rfl ?_
        refine En_top (addI rfl (by decide : (Int32.ofInt 1).toInt = 1) (by first | exact q_b465f713f7 h36 | omega) (by omega)) (fun z39 h40 => ?_)
        refine En_iast (l := (-2147483648)) (u := 2147483647) rfl rfl tgz_174 (by decide +kernel) (by first | exact q_58e6e51dcc h13 | omega) (lnI (by decide +kernel : LN _ = 120) (by first | exact q_434f72d29c h30 h31 hu_b h24.2.1 | omega)) (FTsgl (by decide +kernel)) (fullI _) h10 h11 (by decide +kernel) (fun σ41 h42 h43 h44 h45 => ?_)
        refine En_Ps 1 (pc' := 33) (lv' := [(3, .int ((y8 + Int32.ofInt 1))), (0, .ref 159), (1, .int a), (2, .int b)]) (st' := []) rfl ?_
        refine En_lv1 (addI rfl (by decide : (Int32.ofInt 1).toInt = 1) (by first | exact q_465ab79ac1 h13 | omega) (by first | exact q_6ee16b2e33 h14 | omega)) (fun z46 h47 => ?_)
        refine En_Ps 1 (pc' := 9) (lv' := [(3, .int z46), (0, .ref 159), (1, .int a), (2, .int b)]) (st' := []) rfl ?_
        refine En_lv (lv := [(0, .ref 159), (1, .int a), (2, .int b), (3, .int z46)]) ⟨rfl, rfl, rfl, rfl, trivial⟩ ?_
        exact ih9 σ41 z46 h42 h43 ((h45 _ _ (Or.inl (neTG tgz_159 tgz_174 (by decide)))).trans h12) (by first | exact q_35104ce9d3 h47 h13 | omega) (by first | exact q_16862d8bc0 h47 h30 h31 hu_b h24.2.1 | omega) (by first | exact q_3a5e225620 h15 h47 | omega) (by first | exact q_086be879e1 h47 h16 | omega) (PUTL_s h17 h34 h44 h45 (by omega) (by omega) (by omega) (by omega)) (by omega)
  refine En_lv (lv := [(0, .ref 159), (1, .int a), (2, .int b), (3, .int b)]) ⟨rfl, rfl, rfl, rfl, trivial⟩ ?_
  exact key9 (Int.toNat (-b.toInt + 127) + 1) σ3 b h4 h5 ((h7 _ _ (Or.inl (neTG tgz_159 tgz_173 (by decide)))).trans h1) (by first | exact q_58e6e51dcc hl_b | omega) (by first | exact q_e7fd343b1e hu_b | omega) (by first | exact q_1bb76abeaf | omega) (by first | exact toN_lt _ | omega) (PUTL_0 h6 h7 (by omega) rfl rfl) (by omega)
/-- DoorSchoolModel.isFree(III)Z -/
abbrev P_256 (σ0 : SG) (a : Int32) (b : Int32) (c : Int32) : PO := fun v σ => WT σ ∧ Fr [] σ0 σ ∧ ∃ ret : Int32, v = some (.int ret) ∧ -ret.toInt ≤ 0 ∧ ret.toInt - 1 ≤ 0 ∧ FREEs σ0 a.toInt b.toInt c.toInt ret.toInt
set_option maxRecDepth 10000 in
set_option maxHeartbeats 4000000 in
theorem c_256 (σ0 : SG) (hσ0 : WT σ0) (a : Int32) (b : Int32) (c : Int32) (hl_a : 0 ≤ a.toInt) (hu_a : a.toInt ≤ 111) (hl_b : 0 ≤ b.toInt) (hu_b : b.toInt ≤ 5) (hl_c : 0 ≤ c.toInt) (hu_c : c.toInt ≤ 5) : En 1 21 none mr_256 (P_256 σ0 a b c) 0 [(0, .ref 159), (1, .int a), (2, .int b), (3, .int c)] [] σ0 := by
  have hF0 : Fr [] σ0 σ0 := Fr_rfl
  refine En_Ps 2 (pc' := 3) (lv' := [(4, .int a), (0, .ref 159), (1, .int a), (2, .int b), (3, .int c)]) (st' := []) rfl ?_
  have key3 : ∀ (n3 : Nat) (y1 : Int32), 0 ≤ y1.toInt → y1.toInt ≤ 127 → a.toInt - y1.toInt ≤ 0 → -y1.toInt + 127 < (n3 : Int) → FRL σ0 a.toInt c.toInt y1.toInt → En 1 21 none mr_256 (P_256 σ0 a b c) 3 [(0, .ref 159), (1, .int a), (2, .int b), (3, .int c), (4, .int y1)] [] σ0 := by
    intro n3
    induction n3 with
    | zero =>
      intro y1 h5 h6 h7 h8 h9
      first | exact (q_aaec68a920 h8 h6).elim | (exfalso; omega)
    | succ n3 ih3 =>
      intro y1 h5 h6 h7 h8 h9
      refine En_Ps 4 (pc' := 8) (lv' := [(0, .ref 159), (1, .int a), (2, .int b), (3, .int c), (4, .int y1)]) (st' := [.int b, .ref 159, .int a, .int y1]) rfl ?_
      refine En_callV rfl rfl rfl rfl rfl rfl rfl rfl tgz_159 (by decide +kernel) rfl (c_319 σ0 hσ0 b (geI rfl (by first | exact q_58e6e51dcc hl_b | omega)) (leI rfl (by first | exact q_d9092b5ca1 hu_b | omega))) (by decide) (by decide) (fun v11 σ12 h10 => ?_)
      obtain ⟨h13, h14, z16, rfl, h15⟩ := h10
      have h17 := h15.2.2
      obtain rfl : σ0 = σ12 := Fr_nil h14
      refine En_Ps 1 (pc' := 12) (lv' := [(0, .ref 159), (1, .int a), (2, .int b), (3, .int c), (4, .int y1)]) (st' := [.int ((a + z16)), .int y1]) rfl ?_
      refine En_top (addI rfl rfl (by first | exact q_eb9502dde8 hl_a h15.1 | omega) (by first | exact q_59dac5040b hu_a h15.2.1 | omega)) (fun z18 h19 => ?_)
      refine En_icGe _ rfl rfl rfl (fun h20 => ?_) (fun h20 => ?_)
      · refine En_Ps 1 (pc' := 35) (lv' := [(0, .ref 159), (1, .int a), (2, .int b), (3, .int c), (4, .int y1)]) (st' := [.int ((Int32.ofInt 1))]) rfl ?_
        refine En_top (by decide : (Int32.ofInt 1).toInt = 1) (fun z21 h22 => ?_)
        exact En_ret (v := some (.int z21)) rfl rfl (retZ rfl rfl (by first | exact q_2b07c97645 h22 | omega) (by first | exact q_d9e7cbb253 h22 | omega)) ⟨hσ0, hF0, z21, rfl, ⟨by omega, by omega, FR_yes hσ0 h9 (by omega) (by omega) h17 (by omega) (by omega) (by omega)⟩⟩
      · refine En_Ps 1 (pc' := 16) (lv' := [(0, .ref 159), (1, .int a), (2, .int b), (3, .int c), (4, .int y1)]) (st' := [.ref 159]) rfl ?_
        refine En_getU (j := 28) (u := 174) (g' := 50) (q := 0) rfl rfl rfl tgz_159 (by decide +kernel) hσ0 (by decide +kernel) (by decide +kernel) (fun h23 => ?_)
        refine En_Ps 1 (pc' := 21) (lv' := [(0, .ref 159), (1, .int a), (2, .int b), (3, .int c), (4, .int y1)]) (st' := [.int y1, .ref 174]) rfl ?_
        refine En_iald (l := (-2147483648)) (u := 2147483647) rfl rfl tgz_174 (by decide +kernel) hσ0 (by first | exact q_58e6e51dcc h5 | omega) (lnI (by decide +kernel : LN _ = 120) (by first | exact q_434f72d29c h19 h20 hu_a h15.2.1 | omega)) (FTsgl (by decide +kernel)) (fun z26 h25 h27 h28 => ?_)
        refine En_Ps 1 (pc' := 23) (lv' := [(0, .ref 159), (1, .int a), (2, .int b), (3, .int c), (4, .int y1)]) (st' := [.int c, .int z26]) rfl ?_
        refine En_icLt _ rfl rfl rfl (fun h29 => ?_) (fun h29 => ?_)
        · refine En_Ps 1 (pc' := 31) (lv' := [(4, .int ((y1 + Int32.ofInt 1))), (0, .ref 159), (1, .int a), (2, .int b), (3, .int c)]) (st' := []) rfl ?_
          refine En_lv1 (addI rfl (by decide : (Int32.ofInt 1).toInt = 1) (by first | exact q_465ab79ac1 h5 | omega) (by first | exact q_6ee16b2e33 h6 | omega)) (fun z30 h31 => ?_)
          refine En_Ps 1 (pc' := 3) (lv' := [(4, .int z30), (0, .ref 159), (1, .int a), (2, .int b), (3, .int c)]) (st' := []) rfl ?_
          refine En_lv (lv := [(0, .ref 159), (1, .int a), (2, .int b), (3, .int c), (4, .int z30)]) ⟨rfl, rfl, rfl, rfl, rfl, trivial⟩ ?_
          exact ih3 z30 (by first | exact q_35104ce9d3 h31 h5 | omega) (by first | exact q_16862d8bc0 h31 h19 h20 hu_a h15.2.1 | omega) (by first | exact q_3a5e225620 h7 h31 | omega) (by first | exact q_086be879e1 h31 h8 | omega) (FRL_s h9 h25 (by omega) (by omega) (by omega))
        · refine En_Ps 1 (pc' := 27) (lv' := [(0, .ref 159), (1, .int a), (2, .int b), (3, .int c), (4, .int y1)]) (st' := [.int ((Int32.ofInt 0))]) rfl ?_
          refine En_top (by decide : (Int32.ofInt 0).toInt = 0) (fun z32 h33 => ?_)
          exact En_ret (v := some (.int z32)) rfl rfl (retZ rfl rfl (by first | exact q_55451d0a83 h33 | omega) (by first | exact q_87849c3859 h33 | omega)) ⟨hσ0, hF0, z32, rfl, ⟨by omega, by omega, FR_no hσ0 h25 (by omega) (by omega) (by omega) (by omega) h17 (by omega) (by omega) (by omega)⟩⟩
  refine En_lv (lv := [(0, .ref 159), (1, .int a), (2, .int b), (3, .int c), (4, .int a)]) ⟨rfl, rfl, rfl, rfl, rfl, trivial⟩ ?_
  exact key3 (Int.toNat (-a.toInt + 127) + 1) a (by first | exact q_58e6e51dcc hl_a | omega) (by first | exact q_e7fd343b1e hu_a | omega) (by first | exact q_1bb76abeaf | omega) (by first | exact toN_lt _ | omega) (FRL_0 rfl)
/-- DoorSchoolModel.overBy(III)I -/
abbrev P_293 (σ0 : SG) (a : Int32) (b : Int32) (c : Int32) : PO := fun v σ => WT σ ∧ Fr [(49, 0), (50, 0)] σ0 σ ∧ ∃ ret : Int32, v = some (.int ret) ∧ -ret.toInt ≤ 0 ∧ ret.toInt - 1000000 ≤ 0 ∧ OVERs σ0 a.toInt b.toInt c.toInt ret.toInt.toNat
set_option maxRecDepth 10000 in
set_option maxHeartbeats 4000000 in
theorem c_293 (σ0 : SG) (hσ0 : WT σ0) (a : Int32) (b : Int32) (c : Int32) (hl_a : 0 ≤ a.toInt) (hu_a : a.toInt ≤ 6) (hl_b : 0 ≤ b.toInt) (hl_c : 1 ≤ c.toInt) (hu_c : c.toInt ≤ 4) (hN : a.toInt ≤ ci σ0 160 5) : En 3 66 none mr_293 (P_293 σ0 a b c) 0 [(0, .ref 159), (1, .int a), (2, .int b), (3, .int c)] [] σ0 := by
  have hF0 : Fr [(49, 0), (50, 0)] σ0 σ0 := Fr_rfl
  refine En_Ps 2 (pc' := 3) (lv' := [(4, .int ((Int32.ofInt 0))), (0, .ref 159), (1, .int a), (2, .int b), (3, .int c)]) (st' := []) rfl ?_
  have key3 : ∀ (n3 : Nat) (σ2 : SG) (y1 : Int32), WT σ2 → Fr [(49, 0), (50, 0)] σ0 σ2 → 0 ≤ y1.toInt → y1.toInt ≤ 127 → -y1.toInt + 127 < (n3 : Int) → CLR σ2 y1.toInt → En 3 66 none mr_293 (P_293 σ0 a b c) 3 [(0, .ref 159), (1, .int a), (2, .int b), (3, .int c), (4, .int y1)] [] σ2 := by
    intro n3
    induction n3 with
    | zero =>
      intro σ2 y1 h3 h4 h5 h6 h7 h8
      first | exact (q_aaec68a920 h7 h6).elim | (exfalso; omega)
    | succ n3 ih3 =>
      intro σ2 y1 h3 h4 h5 h6 h7 h8
      refine En_Ps 2 (pc' := 6) (lv' := [(0, .ref 159), (1, .int a), (2, .int b), (3, .int c), (4, .int y1)]) (st' := [.ref 159, .int y1]) rfl ?_
      refine En_getU (j := 28) (u := 174) (g' := 50) (q := 0) rfl rfl rfl tgz_159 (by decide +kernel) h3 (by decide +kernel) (by decide +kernel) (fun h9 => ?_)
      refine En_alenN (n := 120) rfl tgz_174 (by decide +kernel) (by decide +kernel) h3 ?_
      refine En_icGe _ rfl (by decide : (Int32.ofNat 120).toInt = 120) rfl (fun h11 => ?_) (fun h11 => ?_)
      · refine En_Ps 6 (pc' := 36) (lv' := [(6, .int ((Int32.ofInt 0))), (5, .int ((Int32.ofInt 0))), (4, .int ((Int32.ofInt 0))), (0, .ref 159), (1, .int a), (2, .int b), (3, .int c)]) (st' := []) rfl ?_
        have key36 : ∀ (n36 : Nat) (σ17 : SG) (y12 : Int32) (y13 : Int32) (y14 : Int32), WT σ17 → Fr [(49, 0), (50, 0)] σ0 σ17 → (σ17 159)[28]? = some (.ref 174) → 0 ≤ y12.toInt → y12.toInt ≤ 63 → 0 ≤ y13.toInt → y13.toInt ≤ 120 → 0 ≤ y14.toInt → y14.toInt ≤ 6 → a.toInt - y14.toInt < (n36 : Int) → PREF σ0 σ17 a.toInt y14.toInt y12.toInt y13.toInt → En 3 66 none mr_293 (P_293 σ0 a b c) 36 [(0, .ref 159), (1, .int a), (2, .int b), (3, .int c), (4, .int y12), (5, .int y13), (6, .int y14)] [] σ17 := by
          intro n36
          induction n36 with
          | zero =>
            intro σ17 y12 y13 y14 h18 h19 h20 h21 h22 h23 h24 h25 h26 h27 h28
            have h29 := PREF_lin hσ0 h28
            exfalso; omega
          | succ n36 ih36 =>
            intro σ17 y12 y13 y14 h18 h19 h20 h21 h22 h23 h24 h25 h26 h27 h28
            have h33 := PREF_lin hσ0 h28
            refine En_Ps 2 (pc' := 39) (lv' := [(0, .ref 159), (1, .int a), (2, .int b), (3, .int c), (4, .int y12), (5, .int y13), (6, .int y14)]) (st' := [.int a, .int y14]) rfl ?_
            refine En_icGe _ rfl rfl rfl (fun h34 => ?_) (fun h34 => ?_)
            · refine En_Ps 4 (pc' := 88) (lv' := [(6, .int b), (0, .ref 159), (1, .int a), (2, .int b), (3, .int c), (4, .int y12), (5, .int y13)]) (st' := [.ref 159, .int ((Int32.ofInt 1))]) rfl ?_
              refine En_getU (j := 1) (u := 160) (g' := 36) (q := 0) rfl rfl rfl tgz_159 (by decide +kernel) h18 (by decide +kernel) (by decide +kernel) (fun h35 => ?_)
              refine En_Ps 1 (pc' := 92) (lv' := [(6, .int b), (0, .ref 159), (1, .int a), (2, .int b), (3, .int c), (4, .int y12), (5, .int y13)]) (st' := [.int ((Int32.ofInt 5)), .ref 160, .int ((Int32.ofInt 1))]) rfl ?_
              refine En_iald (l := 0) (u := 6) rfl (by decide : (Int32.ofInt 5).toInt = 5) tgz_160 (by decide +kernel) h18 (by decide) (lnI (by decide +kernel : LN _ = 226) (by decide)) (by decide +kernel) (fun z38 h37 h39 h40 => ?_)
              refine En_Ps 7 (pc' := 101) (lv' := [(6, .int b), (0, .ref 159), (1, .int a), (2, .int b), (3, .int c), (4, .int y12), (5, .int y13)]) (st' := [.int ((((Int32.ofInt 1) <<< (z38 &&& 31)) - (Int32.ofInt 1) &&& (y12 ^^^ (Int32.ofInt (-1)))))]) rfl ?_
              refine En_nam (fun z41 h42 => ?_)
              refine En_Ps 2 (pc' := 104) (lv' := [(7, .int z41), (6, .int b), (0, .ref 159), (1, .int a), (2, .int b), (3, .int c), (4, .int y12), (5, .int y13)]) (st' := [.ref 159]) rfl ?_
              refine En_getK (j := 1) h35 rfl rfl rfl tgz_159 (by decide +kernel) ?_
              refine En_Ps 1 (pc' := 108) (lv' := [(7, .int z41), (6, .int b), (0, .ref 159), (1, .int a), (2, .int b), (3, .int c), (4, .int y12), (5, .int y13)]) (st' := [.int ((Int32.ofInt 5)), .ref 160]) rfl ?_
              refine En_ialdK h37 rfl (by decide : (Int32.ofInt 5).toInt = 5) tgz_160 (by decide +kernel) h18 (by decide) (lnI (by decide +kernel : LN _ = 226) (by decide)) ?_
              refine En_Ps 2 (pc' := 111) (lv' := [(7, .int z41), (6, .int b), (0, .ref 159), (1, .int a), (2, .int b), (3, .int c), (4, .int y12), (5, .int y13)]) (st' := [.int ((z38 - a))]) rfl ?_
              refine En_top (subI rfl rfl (by first | exact q_7e8a97a116 hu_a h39 | omega) (by first | exact q_f60c02febd hl_a h40 | omega)) (fun z44 h45 => ?_)
              refine En_Ps 1 (pc' := 113) (lv' := [(8, .int z44), (7, .int z41), (6, .int b), (0, .ref 159), (1, .int a), (2, .int b), (3, .int c), (4, .int y12), (5, .int y13)]) (st' := []) rfl ?_
              have key113 : ∀ (n113 : Nat) (σ53 : SG) (y46 : Int32) (y47 : Int32) (y48 : Int32) (y49 : Int32) (y50 : Int32), WT σ53 → Fr [(49, 0), (50, 0)] σ0 σ53 → (σ53 159)[28]? = some (.ref 174) → (σ53 159)[1]? = some (.ref 160) → (σ53 160)[(5 : Int).toNat]? = some (.int z38) → 0 ≤ y46.toInt → y46.toInt ≤ 63 → 0 ≤ y47.toInt → y47.toInt ≤ 120 → 0 ≤ y48.toInt → (-6) ≤ y50.toInt → y50.toInt ≤ 6 → y50.toInt + 6 < (n113 : Int) → MAIN σ0 σ53 a.toInt b.toInt c.toInt y46.toInt y47.toInt y48.toInt y49.toInt y50.toInt → En 3 66 none mr_293 (P_293 σ0 a b c) 113 [(0, .ref 159), (1, .int a), (2, .int b), (3, .int c), (4, .int y46), (5, .int y47), (6, .int y48), (7, .int y49), (8, .int y50)] [] σ53 := by
                intro n113
                induction n113 with
                | zero =>
                  intro σ53 y46 y47 y48 y49 y50 h54 h55 h56 h57 h58 h59 h60 h61 h62 h63 h64 h65 h66 h67
                  have h68 := MAIN_lin h67
                  first | exact (q_e327fe2edc h64 h66).elim | (exfalso; omega)
                | succ n113 ih113 =>
                  intro σ53 y46 y47 y48 y49 y50 h54 h55 h56 h57 h58 h59 h60 h61 h62 h63 h64 h65 h66 h67
                  have h72 := MAIN_lin h67
                  refine En_Ps 1 (pc' := 115) (lv' := [(0, .ref 159), (1, .int a), (2, .int b), (3, .int c), (4, .int y46), (5, .int y47), (6, .int y48), (7, .int y49), (8, .int y50)]) (st' := [.int y50]) rfl ?_
                  refine En_iLe _ rfl rfl (fun h73 => ?_) (fun h73 => ?_)
                  · refine En_Ps 1 (pc' := 255) (lv' := [(0, .ref 159), (1, .int a), (2, .int b), (3, .int c), (4, .int y46), (5, .int y47), (6, .int y48), (7, .int y49), (8, .int y50)]) (st' := [.int y47]) rfl ?_
                    exact En_ret (v := some (.int y47)) rfl rfl rfl ⟨h54, h55, y47, rfl, ⟨by omega, by omega, MAIN_end h67 (by omega) rfl⟩⟩
                  · refine En_Ps 2 (pc' := 122) (lv' := [(0, .ref 159), (1, .int a), (2, .int b), (3, .int c), (4, .int y46), (5, .int y47), (6, .int y48), (7, .int y49), (8, .int y50)]) (st' := [.int y50, .int y48]) rfl ?_
                    refine En_irem (c := y50.toInt) rfl rfl rfl (by omega) (by omega) (fun z74 h75 => ?_)
                    have h76 := Int.emod_nonneg (y48.toInt) (by omega : y50.toInt ≠ 0)
                    have h77 := Int.emod_lt_of_pos (y48.toInt) (by omega : 0 < y50.toInt)
                    refine En_Ps 3 (pc' := 129) (lv' := [(9, .int z74), (0, .ref 159), (1, .int a), (2, .int b), (3, .int c), (4, .int y46), (5, .int y47), (6, .int y48), (7, .int y49), (8, .int y50)]) (st' := [.int y50, .int y48]) rfl ?_
                    refine En_idiv (c := y50.toInt) rfl rfl rfl (by omega) (by omega) (fun z78 h79 => ?_)
                    have h80 := Int.ediv_nonneg (by omega : 0 ≤ y48.toInt) (by omega : 0 ≤ y50.toInt)
                    refine En_Ps 3 (pc' := 135) (lv' := [(10, .int a), (6, .int z78), (9, .int z74), (0, .ref 159), (1, .int a), (2, .int b), (3, .int c), (4, .int y46), (5, .int y47), (7, .int y49), (8, .int y50)]) (st' := []) rfl ?_
                    have key135 : ∀ (n135 : Nat) (y82 : Int32) (y83 : Int32), 0 ≤ y82.toInt → y82.toInt ≤ 5 → 0 ≤ y83.toInt → y83.toInt ≤ 5 → -y83.toInt + 5 < (n135 : Int) → SELs y49.toInt y82.toInt y83.toInt z74.toInt a.toInt y50.toInt → En 3 66 none mr_293 (P_293 σ0 a b c) 135 [(0, .ref 159), (1, .int a), (2, .int b), (3, .int c), (4, .int y46), (5, .int y47), (6, .int z78), (7, .int y49), (8, .int y50), (9, .int y82), (10, .int y83)] [] σ53 := by
                      intro n135
                      induction n135 with
                      | zero =>
                        intro y82 y83 h89 h90 h91 h92 h93 h94
                        have h95 := SEL_lin h94
                        first | exact (q_94ef5d5129 h93 h92).elim | (exfalso; omega)
                      | succ n135 ih135 =>
                        intro y82 y83 h89 h90 h91 h92 h93 h94
                        have h99 := SEL_lin h94
                        refine En_Ps 2 (pc' := 139) (lv' := [(0, .ref 159), (1, .int a), (2, .int b), (3, .int c), (4, .int y46), (5, .int y47), (6, .int z78), (7, .int y49), (8, .int y50), (9, .int y82), (10, .int y83)]) (st' := [.int y83, .int y49]) rfl ?_
                        refine En_callS rfl rfl rfl rfl rfl rfl rfl rfl rfl (c_202a σ53 h54 y49 y83 (geI rfl (by omega)) (leI rfl (by omega)) (geI rfl (by first | exact q_58e6e51dcc h91 | omega)) (leI rfl (by first | exact q_c4fbf921fa h92 | omega))) (by decide) (by decide) (fun v101 σ102 h100 => ?_)
                        obtain ⟨h103, h104, z106, rfl, h105⟩ := h100
                        have h107 := h105.2.2
                        obtain rfl : σ53 = σ102 := Fr_nil h104
                        refine En_iEq _ rfl rfl (fun h108 => ?_) (fun h108 => ?_)
                        · refine En_Ps 3 (pc' := 156) (lv' := [(0, .ref 159), (1, .int a), (2, .int b), (3, .int c), (4, .int y46), (5, .int y47), (6, .int z78), (7, .int y49), (8, .int y50), (9, .int y82), (10, .int y83)]) (st' := [.int y83, .int y49, .int y82]) rfl ?_
                          refine En_callS rfl rfl rfl rfl rfl rfl rfl rfl rfl (c_202a σ53 h54 y49 y83 (geI rfl (by omega)) (leI rfl (by omega)) (geI rfl (by first | exact q_58e6e51dcc h91 | omega)) (leI rfl (by first | exact q_c4fbf921fa h92 | omega))) (by decide) (by decide) (fun v110 σ111 h109 => ?_)
                          obtain ⟨h112, h113, z115, rfl, h114⟩ := h109
                          have h116 := h114.2.2
                          obtain rfl : σ53 = σ111 := Fr_nil h113
                          refine En_Ps 1 (pc' := 160) (lv' := [(0, .ref 159), (1, .int a), (2, .int b), (3, .int c), (4, .int y46), (5, .int y47), (6, .int z78), (7, .int y49), (8, .int y50), (9, .int y82), (10, .int y83)]) (st' := [.int ((y82 - z115))]) rfl ?_
                          refine En_top (subI rfl rfl (by first | exact q_6e34b1aaff h89 h114.2.1 | omega) (by first | exact q_ba42866db6 h90 h114.1 | omega)) (fun z117 h118 => ?_)
                          refine En_Ps 1 (pc' := 162) (lv' := [(9, .int z117), (0, .ref 159), (1, .int a), (2, .int b), (3, .int c), (4, .int y46), (5, .int y47), (6, .int z78), (7, .int y49), (8, .int y50), (10, .int y83)]) (st' := []) rfl ?_
                          have h119 := SEL_s h94 h107 h116 (by omega) (show z117.toInt = _ - _ by omega) (show y83.toInt + 1 = _ by omega)
                          have h120 := SEL_lin h119
                          refine En_Ps 1 (pc' := 165) (lv' := [(10, .int ((y83 + Int32.ofInt 1))), (9, .int z117), (0, .ref 159), (1, .int a), (2, .int b), (3, .int c), (4, .int y46), (5, .int y47), (6, .int z78), (7, .int y49), (8, .int y50)]) (st' := []) rfl ?_
                          refine En_lv1 (addI rfl (by decide : (Int32.ofInt 1).toInt = 1) (by first | exact q_465ab79ac1 h91 | omega) (by first | exact q_aeda34609f h92 | omega)) (fun z121 h122 => ?_)
                          refine En_Ps 1 (pc' := 135) (lv' := [(10, .int z121), (9, .int z117), (0, .ref 159), (1, .int a), (2, .int b), (3, .int c), (4, .int y46), (5, .int y47), (6, .int z78), (7, .int y49), (8, .int y50)]) (st' := []) rfl ?_
                          refine En_lv (lv := [(0, .ref 159), (1, .int a), (2, .int b), (3, .int c), (4, .int y46), (5, .int y47), (6, .int z78), (7, .int y49), (8, .int y50), (9, .int z117), (10, .int z121)]) ⟨rfl, rfl, rfl, rfl, rfl, rfl, rfl, rfl, rfl, rfl, rfl, trivial⟩ ?_
                          exact ih135 z117 z121 (by omega) (by first | exact q_2089b5ea15 h118 h90 h114.1 | omega) (by first | exact q_35104ce9d3 h122 h91 | omega) (by omega) (by first | exact q_4f8c136792 h122 h93 | omega) (SEL_eq h119 (by omega))
                        · refine En_Ps 1 (pc' := 147) (lv' := [(0, .ref 159), (1, .int a), (2, .int b), (3, .int c), (4, .int y46), (5, .int y47), (6, .int z78), (7, .int y49), (8, .int y50), (9, .int y82), (10, .int y83)]) (st' := [.int y82]) rfl ?_
                          refine En_iLe _ rfl rfl (fun h123 => ?_) (fun h123 => ?_)
                          · refine En_Ps 7 (pc' := 177) (lv' := [(0, .ref 159), (1, .int a), (2, .int b), (3, .int c), (4, .int y46), (5, .int y47), (6, .int z78), (7, .int y49), (8, .int y50), (9, .int y82), (10, .int y83)]) (st' := [.int ((y49 &&& (((Int32.ofInt 1) <<< (y83 &&& 31)) ^^^ (Int32.ofInt (-1)))))]) rfl ?_
                            refine En_nam (fun z124 h125 => ?_)
                            refine En_Ps 4 (pc' := 184) (lv' := [(7, .int z124), (0, .ref 159), (1, .int a), (2, .int b), (3, .int c), (4, .int y46), (5, .int y47), (6, .int z78), (8, .int y50), (9, .int y82), (10, .int y83)]) (st' := [.int y46, .int y83, .ref 159]) rfl ?_
                            refine En_callV rfl rfl rfl rfl rfl rfl rfl rfl tgz_159 (by decide +kernel) rfl (c_190 σ53 h54 y83 y46 (geI rfl (by first | exact q_58e6e51dcc h91 | omega)) (leI rfl (by first | exact q_d9092b5ca1 h92 | omega)) (geI rfl (by first | exact q_58e6e51dcc h59 | omega)) (leI rfl (by first | exact q_8bf848900a h60 | omega))) (by decide) (by decide) (fun v127 σ128 h126 => ?_)
                            obtain ⟨h129, h130, z132, rfl, h131⟩ := h126
                            have h133 := h131.2.2
                            obtain rfl : σ53 = σ128 := Fr_nil h130
                            refine En_Ps 3 (pc' := 192) (lv' := [(11, .int z132), (7, .int z124), (0, .ref 159), (1, .int a), (2, .int b), (3, .int c), (4, .int y46), (5, .int y47), (6, .int z78), (8, .int y50), (9, .int y82), (10, .int y83)]) (st' := [.int ((Int32.ofInt (-1))), .int z132]) rfl ?_
                            refine En_icNe _ rfl (by decide : (Int32.ofInt (-1)).toInt = -1) rfl (fun h134 => ?_) (fun h134 => ?_)
                            · have key199 : ∀ (n199 : Nat) (y135 : Int32), 0 ≤ y135.toInt → y135.toInt ≤ 127 → y47.toInt - y135.toInt < (n199 : Int) → WAITs σ53 y83.toInt c.toInt z132.toInt y135.toInt y47.toInt → En 3 66 none mr_293 (P_293 σ0 a b c) 199 [(0, .ref 159), (1, .int a), (2, .int b), (3, .int c), (4, .int y46), (5, .int y47), (6, .int z78), (7, .int z124), (8, .int y50), (9, .int y82), (10, .int y83), (11, .int y135)] [] σ53 := by
                                intro n199
                                induction n199 with
                                | zero =>
                                  intro y135 h141 h142 h143 h144
                                  have h145 := WAIT_lin h144
                                  exfalso; omega
                                | succ n199 ih199 =>
                                  intro y135 h141 h142 h143 h144
                                  have h149 := WAIT_lin h144
                                  refine En_Ps 4 (pc' := 205) (lv' := [(0, .ref 159), (1, .int a), (2, .int b), (3, .int c), (4, .int y46), (5, .int y47), (6, .int z78), (7, .int z124), (8, .int y50), (9, .int y82), (10, .int y83), (11, .int y135)]) (st' := [.int c, .int y83, .int y135, .ref 159]) rfl ?_
                                  refine En_callV rfl rfl rfl rfl rfl rfl rfl rfl tgz_159 (by decide +kernel) rfl (c_256 σ53 h54 y135 y83 c (geI rfl (by first | exact q_58e6e51dcc h141 | omega)) (leI rfl (by omega)) (geI rfl (by first | exact q_58e6e51dcc h91 | omega)) (leI rfl (by first | exact q_d9092b5ca1 h92 | omega)) (geI rfl (by first | exact q_337a85e294 hl_c | omega)) (leI rfl (by first | exact q_a7436ddd7e hu_c | omega))) (by decide) (by decide) (fun v151 σ152 h150 => ?_)
                                  obtain ⟨h153, h154, z156, rfl, h155⟩ := h150
                                  have h157 := h155.2.2
                                  obtain rfl : σ53 = σ152 := Fr_nil h154
                                  refine En_iNe _ rfl rfl (fun h158 => ?_) (fun h158 => ?_)
                                  · refine En_Ps 3 (pc' := 222) (lv' := [(0, .ref 159), (1, .int a), (2, .int b), (3, .int c), (4, .int y46), (5, .int y47), (6, .int z78), (7, .int z124), (8, .int y50), (9, .int y82), (10, .int y83), (11, .int y135)]) (st' := [.int y135, .int y83, .ref 159]) rfl ?_
                                    refine En_callV rfl rfl rfl rfl rfl rfl rfl rfl tgz_159 (by decide +kernel) rfl (c_298 σ53 h54 y83 y135 (geI rfl (by first | exact q_58e6e51dcc h91 | omega)) (leI rfl (by first | exact q_d9092b5ca1 h92 | omega)) (geI rfl (by first | exact q_58e6e51dcc h141 | omega)) (leI rfl (by omega)) (MAIN_HB h67)) (by decide) (by decide) (fun v160 σ161 h159 => ?_)
                                    obtain ⟨h162, h163, rfl, h164⟩ := h159
                                    have h165 := h164
                                    have h166 := Fr_trans h55 h163 (by decide +kernel)
                                    refine En_Ps 5 (pc' := 232) (lv' := [(0, .ref 159), (1, .int a), (2, .int b), (3, .int c), (4, .int y46), (5, .int y47), (6, .int z78), (7, .int z124), (8, .int y50), (9, .int y82), (10, .int y83), (11, .int y135)]) (st' := [.int ((y46 ||| ((Int32.ofInt 1) <<< (y83 &&& 31))))]) rfl ?_
                                    refine En_nam (fun z167 h168 => ?_)
                                    have h169 := or_small h168 rfl rfl (by omega) (by omega) (by omega) (by omega)
                                    refine En_Ps 4 (pc' := 239) (lv' := [(4, .int z167), (0, .ref 159), (1, .int a), (2, .int b), (3, .int c), (5, .int y47), (6, .int z78), (7, .int z124), (8, .int y50), (9, .int y82), (10, .int y83), (11, .int y135)]) (st' := [.int y83, .ref 159, .int y47]) rfl ?_
                                    refine En_callV rfl rfl rfl rfl rfl rfl rfl rfl tgz_159 (by decide +kernel) rfl (c_294 σ161 h162 y83 (geI rfl (by first | exact q_58e6e51dcc h91 | omega)) (leI rfl (by first | exact q_d9092b5ca1 h92 | omega))) (by decide) (by decide) (fun v171 σ172 h170 => ?_)
                                    obtain ⟨h173, h174, z176, rfl, h175⟩ := h170
                                    have h177 := h175.2.2
                                    obtain rfl : σ161 = σ172 := Fr_nil h174
                                    refine En_callS rfl rfl rfl rfl rfl rfl rfl rfl rfl (c_10 σ161 h162 y47 z176) (by decide) (by decide) (fun v179 σ180 h178 => ?_)
                                    obtain ⟨h181, h182, z184, rfl, h183⟩ := h178
                                    obtain rfl : σ161 = σ180 := Fr_nil h182
                                    refine En_Ps 2 (pc' := 250) (lv' := [(8, .int ((y50 + Int32.ofInt (-1)))), (5, .int z184), (4, .int z167), (0, .ref 159), (1, .int a), (2, .int b), (3, .int c), (6, .int z78), (7, .int z124), (9, .int y82), (10, .int y83), (11, .int y135)]) (st' := []) rfl ?_
                                    refine En_lv1 (addI rfl (by decide : (Int32.ofInt (-1)).toInt = -1) (by first | exact q_6334a1f278 h73 | omega) (by first | exact q_8648629b60 h65 | omega)) (fun z185 h186 => ?_)
                                    refine En_Ps 1 (pc' := 113) (lv' := [(8, .int z185), (5, .int z184), (4, .int z167), (0, .ref 159), (1, .int a), (2, .int b), (3, .int c), (6, .int z78), (7, .int z124), (9, .int y82), (10, .int y83), (11, .int y135)]) (st' := []) rfl ?_
                                    refine En_lv (lv := [(0, .ref 159), (1, .int a), (2, .int b), (3, .int c), (4, .int z167), (5, .int z184), (6, .int z78), (7, .int z124), (8, .int z185)]) ⟨rfl, rfl, rfl, rfl, rfl, rfl, rfl, rfl, rfl, trivial⟩ ?_
                                    exact ih113 σ161 z167 z184 z78 z124 z185 h162 h166 ((h163 _ _ (inW tgz_159 (by decide +kernel))).trans h56) ((h163 _ _ (inW tgz_159 (by decide +kernel))).trans h57) ((h163 _ _ (inWa tgz_160 (by decide +kernel))).trans h58) (by omega) (by omega) (by first | exact q_f062bc8aa8 h183.1 h61 | omega) (by omega) (by omega) (by first | exact q_1cc20f3994 h186 h73 | omega) (by first | exact q_3ab6b389d6 h186 h65 | omega) (by first | exact q_3f755c6613 h186 h66 | omega) (MAIN_s hσ0 (SWd_fr h55 (by decide +kernel)) (SWd_fr h166 (by decide +kernel)) h67 (by omega) (by omega) h94 (by omega) h107 (by omega) h75 h79 h133 (by omega) h144 h157 (by omega) h165 (fun hb => andn_small h125 rfl rfl (by omega) (by omega) (by omega) (by omega) hb) h169 h177 (by omega) (by omega) (by omega) (by omega))
                                  · have h188 := WAIT_s hσ0 (SWd_fr h55 (by decide +kernel)) h67 (by omega) (by omega) h144 h157 (by omega) (show y135.toInt + 1 = _ by omega)
                                    have h189 := WAIT_lin h188
                                    refine En_Ps 1 (pc' := 214) (lv' := [(11, .int ((y135 + Int32.ofInt 1))), (0, .ref 159), (1, .int a), (2, .int b), (3, .int c), (4, .int y46), (5, .int y47), (6, .int z78), (7, .int z124), (8, .int y50), (9, .int y82), (10, .int y83)]) (st' := []) rfl ?_
                                    refine En_lv1 (addI rfl (by decide : (Int32.ofInt 1).toInt = 1) (by first | exact q_465ab79ac1 h141 | omega) (by first | exact q_6ee16b2e33 h142 | omega)) (fun z190 h191 => ?_)
                                    refine En_Ps 1 (pc' := 199) (lv' := [(11, .int z190), (0, .ref 159), (1, .int a), (2, .int b), (3, .int c), (4, .int y46), (5, .int y47), (6, .int z78), (7, .int z124), (8, .int y50), (9, .int y82), (10, .int y83)]) (st' := []) rfl ?_
                                    refine En_lv (lv := [(0, .ref 159), (1, .int a), (2, .int b), (3, .int c), (4, .int y46), (5, .int y47), (6, .int z78), (7, .int z124), (8, .int y50), (9, .int y82), (10, .int y83), (11, .int z190)]) ⟨rfl, rfl, rfl, rfl, rfl, rfl, rfl, rfl, rfl, rfl, rfl, rfl, trivial⟩ ?_
                                    exact ih199 z190 (by first | exact q_35104ce9d3 h191 h141 | omega) (by omega) (by first | exact q_8d03a5a7cb h191 h143 | omega) (WAIT_eq h188 (by omega))
                              refine En_lv (lv := [(0, .ref 159), (1, .int a), (2, .int b), (3, .int c), (4, .int y46), (5, .int y47), (6, .int z78), (7, .int z124), (8, .int y50), (9, .int y82), (10, .int y83), (11, .int z132)]) ⟨rfl, rfl, rfl, rfl, rfl, rfl, rfl, rfl, rfl, rfl, rfl, rfl, trivial⟩ ?_
                              exact key199 (Int.toNat (y47.toInt - z132.toInt) + 1) z132 (by first | exact q_b1cade0df5 h134 h131.1 | omega) (by first | exact q_7e85c5d738 h131.2.1 | omega) (by first | exact toN_lt _ | omega) (WAIT_0 (SWd_fr h55 (by decide +kernel)) h67 (by omega) (by omega) h133 (by omega) rfl)
                            · refine En_Ps 1 (pc' := 198) (lv' := [(11, .int z132), (7, .int z124), (0, .ref 159), (1, .int a), (2, .int b), (3, .int c), (4, .int y46), (5, .int y47), (6, .int z78), (8, .int y50), (9, .int y82), (10, .int y83)]) (st' := [.int ((1000000 : Int32))]) rfl ?_
                              refine En_top (by decide : (1000000 : Int32).toInt = 1000000) (fun z192 h193 => ?_)
                              exact En_ret (v := some (.int z192)) rfl rfl rfl ⟨h54, h55, z192, rfl, ⟨by omega, by omega, MAIN_far (SWd_fr h55 (by decide +kernel)) h67 (by omega) h94 (by omega) h107 (by omega) h75 h133 (by omega) (by omega)⟩⟩
                          · refine En_Ps 3 (pc' := 156) (lv' := [(0, .ref 159), (1, .int a), (2, .int b), (3, .int c), (4, .int y46), (5, .int y47), (6, .int z78), (7, .int y49), (8, .int y50), (9, .int y82), (10, .int y83)]) (st' := [.int y83, .int y49, .int y82]) rfl ?_
                            refine En_callS rfl rfl rfl rfl rfl rfl rfl rfl rfl (c_202a σ53 h54 y49 y83 (geI rfl (by omega)) (leI rfl (by omega)) (geI rfl (by first | exact q_58e6e51dcc h91 | omega)) (leI rfl (by first | exact q_c4fbf921fa h92 | omega))) (by decide) (by decide) (fun v195 σ196 h194 => ?_)
                            obtain ⟨h197, h198, z200, rfl, h199⟩ := h194
                            have h201 := h199.2.2
                            obtain rfl : σ53 = σ196 := Fr_nil h198
                            refine En_Ps 1 (pc' := 160) (lv' := [(0, .ref 159), (1, .int a), (2, .int b), (3, .int c), (4, .int y46), (5, .int y47), (6, .int z78), (7, .int y49), (8, .int y50), (9, .int y82), (10, .int y83)]) (st' := [.int ((y82 - z200))]) rfl ?_
                            refine En_top (subI rfl rfl (by first | exact q_40505db8ac h123 h199.2.1 | omega) (by first | exact q_ba42866db6 h90 h199.1 | omega)) (fun z202 h203 => ?_)
                            refine En_Ps 1 (pc' := 162) (lv' := [(9, .int z202), (0, .ref 159), (1, .int a), (2, .int b), (3, .int c), (4, .int y46), (5, .int y47), (6, .int z78), (7, .int y49), (8, .int y50), (10, .int y83)]) (st' := []) rfl ?_
                            have h204 := SEL_s h94 h107 h201 (by omega) (show z202.toInt = _ - _ by omega) (show y83.toInt + 1 = _ by omega)
                            have h205 := SEL_lin h204
                            refine En_Ps 1 (pc' := 165) (lv' := [(10, .int ((y83 + Int32.ofInt 1))), (9, .int z202), (0, .ref 159), (1, .int a), (2, .int b), (3, .int c), (4, .int y46), (5, .int y47), (6, .int z78), (7, .int y49), (8, .int y50)]) (st' := []) rfl ?_
                            refine En_lv1 (addI rfl (by decide : (Int32.ofInt 1).toInt = 1) (by first | exact q_465ab79ac1 h91 | omega) (by first | exact q_aeda34609f h92 | omega)) (fun z206 h207 => ?_)
                            refine En_Ps 1 (pc' := 135) (lv' := [(10, .int z206), (9, .int z202), (0, .ref 159), (1, .int a), (2, .int b), (3, .int c), (4, .int y46), (5, .int y47), (6, .int z78), (7, .int y49), (8, .int y50)]) (st' := []) rfl ?_
                            refine En_lv (lv := [(0, .ref 159), (1, .int a), (2, .int b), (3, .int c), (4, .int y46), (5, .int y47), (6, .int z78), (7, .int y49), (8, .int y50), (9, .int z202), (10, .int z206)]) ⟨rfl, rfl, rfl, rfl, rfl, rfl, rfl, rfl, rfl, rfl, rfl, trivial⟩ ?_
                            exact ih135 z202 z206 (by first | exact q_75a2bf1838 h203 h123 h199.2.1 | omega) (by first | exact q_2089b5ea15 h203 h90 h199.1 | omega) (by first | exact q_35104ce9d3 h207 h91 | omega) (by omega) (by first | exact q_4f8c136792 h207 h93 | omega) (SEL_eq h204 (by omega))
                    refine En_lv (lv := [(0, .ref 159), (1, .int a), (2, .int b), (3, .int c), (4, .int y46), (5, .int y47), (6, .int z78), (7, .int y49), (8, .int y50), (9, .int z74), (10, .int a)]) ⟨rfl, rfl, rfl, rfl, rfl, rfl, rfl, rfl, rfl, rfl, rfl, trivial⟩ ?_
                    exact key135 (Int.toNat (-a.toInt + 5) + 1) z74 a (by omega) (by omega) (by first | exact q_58e6e51dcc hl_a | omega) (by omega) (by first | exact toN_lt _ | omega) (SEL_0 h67 rfl rfl (by omega) (by omega))
              refine En_lv (lv := [(0, .ref 159), (1, .int a), (2, .int b), (3, .int c), (4, .int y12), (5, .int y13), (6, .int b), (7, .int z41), (8, .int z44)]) ⟨rfl, rfl, rfl, rfl, rfl, rfl, rfl, rfl, rfl, trivial⟩ ?_
              exact key113 (Int.toNat (z44.toInt + 6) + 1) σ17 y12 y13 b z41 z44 h18 h19 h20 h35 h37 (by first | exact q_58e6e51dcc h21 | omega) (by first | exact q_8bf848900a h22 | omega) (by first | exact q_58e6e51dcc h23 | omega) (by first | exact q_9a800af02a h24 | omega) (by first | exact q_58e6e51dcc hl_b | omega) (by first | exact q_f54a842966 h45 hu_a h39 | omega) (by first | exact q_d03198a131 h45 hl_a h40 | omega) (by first | exact toN_lt _ | omega) (MAIN_0 hσ0 h28 (by omega) h42 rfl (by have e1 := ci_at h37 (rfl : (5 : Int) = 5); have e2 := (SWd_fr h19 (by decide +kernel)) 5; omega) hN rfl hl_b (by have e1 := ci_at h37 (rfl : (5 : Int) = 5); have e2 := (SWd_fr h19 (by decide +kernel)) 5; omega))
            · refine En_Ps 3 (pc' := 46) (lv' := [(0, .ref 159), (1, .int a), (2, .int b), (3, .int c), (4, .int y12), (5, .int y13), (6, .int y14)]) (st' := [.ref 159, .int y14, .ref 159]) rfl ?_
              refine En_getU (j := 29) (u := 175) (g' := 51) (q := 0) rfl rfl rfl tgz_159 (by decide +kernel) h18 (by decide +kernel) (by decide +kernel) (fun h208 => ?_)
              refine En_Ps 1 (pc' := 51) (lv' := [(0, .ref 159), (1, .int a), (2, .int b), (3, .int c), (4, .int y12), (5, .int y13), (6, .int y14)]) (st' := [.int y14, .ref 175, .int y14, .ref 159]) rfl ?_
              refine En_iald (l := 0) (u := 54) rfl rfl tgz_175 (by decide +kernel) h18 (by first | exact q_58e6e51dcc h25 | omega) (lnI (by decide +kernel : LN _ = 6) (by first | exact q_f252e21553 h34 hu_a | omega)) (FTsgl (by decide +kernel)) (fun z211 h210 h212 h213 => ?_)
              refine En_callV rfl rfl rfl rfl rfl rfl rfl rfl tgz_159 (by decide +kernel) rfl (c_298 σ17 h18 y14 z211 (geI rfl (by first | exact q_58e6e51dcc h25 | omega)) (leI rfl (by first | exact q_2c6b8d4bd3 h34 hu_a | omega)) (geI rfl (by first | exact q_58e6e51dcc h212 | omega)) (leI rfl (by first | exact q_4e4196c588 h213 | omega)) (PRE0_HB h28.1)) (by decide) (by decide) (fun v215 σ216 h214 => ?_)
              obtain ⟨h217, h218, rfl, h219⟩ := h214
              have h220 := h219
              have h221 := Fr_trans h19 h218 (by decide +kernel)
              refine En_Ps 5 (pc' := 62) (lv' := [(0, .ref 159), (1, .int a), (2, .int b), (3, .int c), (4, .int y12), (5, .int y13), (6, .int y14)]) (st' := [.int ((y12 ||| ((Int32.ofInt 1) <<< (y14 &&& 31))))]) rfl ?_
              refine En_nam (fun z222 h223 => ?_)
              have h224 := or_small h223 rfl rfl (by omega) (by omega) (by omega) (by omega)
              refine En_Ps 4 (pc' := 69) (lv' := [(4, .int z222), (0, .ref 159), (1, .int a), (2, .int b), (3, .int c), (5, .int y13), (6, .int y14)]) (st' := [.int y14, .ref 159, .int y13]) rfl ?_
              refine En_callV rfl rfl rfl rfl rfl rfl rfl rfl tgz_159 (by decide +kernel) rfl (c_294 σ216 h217 y14 (geI rfl (by first | exact q_58e6e51dcc h25 | omega)) (leI rfl (by first | exact q_2c6b8d4bd3 h34 hu_a | omega))) (by decide) (by decide) (fun v226 σ227 h225 => ?_)
              obtain ⟨h228, h229, z231, rfl, h230⟩ := h225
              have h232 := h230.2.2
              obtain rfl : σ216 = σ227 := Fr_nil h229
              refine En_callS rfl rfl rfl rfl rfl rfl rfl rfl rfl (c_10 σ216 h217 y13 z231) (by decide) (by decide) (fun v234 σ235 h233 => ?_)
              obtain ⟨h236, h237, z239, rfl, h238⟩ := h233
              obtain rfl : σ216 = σ235 := Fr_nil h237
              refine En_Ps 2 (pc' := 80) (lv' := [(6, .int ((y14 + Int32.ofInt 1))), (5, .int z239), (4, .int z222), (0, .ref 159), (1, .int a), (2, .int b), (3, .int c)]) (st' := []) rfl ?_
              refine En_lv1 (addI rfl (by decide : (Int32.ofInt 1).toInt = 1) (by first | exact q_465ab79ac1 h25 | omega) (by first | exact q_9a865ca0e4 h26 | omega)) (fun z240 h241 => ?_)
              refine En_Ps 1 (pc' := 36) (lv' := [(6, .int z240), (5, .int z239), (4, .int z222), (0, .ref 159), (1, .int a), (2, .int b), (3, .int c)]) (st' := []) rfl ?_
              refine En_lv (lv := [(0, .ref 159), (1, .int a), (2, .int b), (3, .int c), (4, .int z222), (5, .int z239), (6, .int z240)]) ⟨rfl, rfl, rfl, rfl, rfl, rfl, rfl, trivial⟩ ?_
              exact ih36 σ216 z222 z239 z240 h217 h221 ((h218 _ _ (inW tgz_159 (by decide +kernel))).trans h20) (by omega) (by omega) (by first | exact q_f062bc8aa8 h238.1 h23 | omega) (by omega) (by first | exact q_35104ce9d3 h241 h25 | omega) (by first | exact q_c76cfd8d15 h241 h34 hu_a | omega) (by first | exact q_8d03a5a7cb h241 h27 | omega) (PREF_s hσ0 h28 (SWd_fr h19 (by decide +kernel)) (SXd_fr h19 (by decide +kernel)) (by omega) (ci_at h210 rfl).symm h220 (by omega) (by omega) (SWd_fr h221 (by decide +kernel)) h232 (by omega) (by omega) (by omega))
        have := (by decide : (Int32.ofInt 0).toInt = 0)
        have := (by decide : (Int32.ofInt 0).toInt = 0)
        have := (by decide : (Int32.ofInt 0).toInt = 0)
        refine En_lv (lv := [(0, .ref 159), (1, .int a), (2, .int b), (3, .int c), (4, .int ((Int32.ofInt 0))), (5, .int ((Int32.ofInt 0))), (6, .int ((Int32.ofInt 0)))]) ⟨rfl, rfl, rfl, rfl, rfl, rfl, rfl, trivial⟩ ?_
        exact key36 (Int.toNat (a.toInt) + 1) σ2 ((Int32.ofInt 0)) ((Int32.ofInt 0)) ((Int32.ofInt 0)) h3 h4 h9 (by decide) (by decide) (by decide) (by decide) (by decide) (by decide) (by first | exact toN_lt _ | omega) (PREF_0 h8 (by omega) hl_a hu_a (by decide) (by decide) (by decide))
      · refine En_Ps 1 (pc' := 14) (lv' := [(0, .ref 159), (1, .int a), (2, .int b), (3, .int c), (4, .int y1)]) (st' := [.ref 159]) rfl ?_
        refine En_getK (j := 28) h9 rfl rfl rfl tgz_159 (by decide +kernel) ?_
        refine En_Ps 2 (pc' := 20) (lv' := [(0, .ref 159), (1, .int a), (2, .int b), (3, .int c), (4, .int y1)]) (st' := [.int ((Int32.ofInt 0)), .int y1, .ref 174]) rfl ?_
        refine En_iast (l := (-2147483648)) (u := 2147483647) rfl rfl tgz_174 (by decide +kernel) (by first | exact q_58e6e51dcc h5 | omega) (lnI (by decide +kernel : LN _ = 120) (by first | exact q_a3140d0b4a h11 | omega)) (FTsgl (by decide +kernel)) (fullI _) h3 h4 (by decide +kernel) (fun σ242 h243 h244 h245 h246 => ?_)
        refine En_Ps 1 (pc' := 24) (lv' := [(4, .int ((y1 + Int32.ofInt 1))), (0, .ref 159), (1, .int a), (2, .int b), (3, .int c)]) (st' := []) rfl ?_
        refine En_lv1 (addI rfl (by decide : (Int32.ofInt 1).toInt = 1) (by first | exact q_465ab79ac1 h5 | omega) (by first | exact q_68a4db60cc h11 | omega)) (fun z247 h248 => ?_)
        refine En_Ps 1 (pc' := 3) (lv' := [(4, .int z247), (0, .ref 159), (1, .int a), (2, .int b), (3, .int c)]) (st' := []) rfl ?_
        refine En_lv (lv := [(0, .ref 159), (1, .int a), (2, .int b), (3, .int c), (4, .int z247)]) ⟨rfl, rfl, rfl, rfl, rfl, trivial⟩ ?_
        exact ih3 σ242 z247 h243 h244 (by first | exact q_35104ce9d3 h248 h5 | omega) (by first | exact q_82af9d7fcb h248 h11 | omega) (by first | exact q_086be879e1 h248 h7 | omega) (CLR_s h8 h245 h246 (by decide) (by omega) (by omega))
  have := (by decide : (Int32.ofInt 0).toInt = 0)
  refine En_lv (lv := [(0, .ref 159), (1, .int a), (2, .int b), (3, .int c), (4, .int ((Int32.ofInt 0)))]) ⟨rfl, rfl, rfl, rfl, rfl, trivial⟩ ?_
  exact key3 (Int.toNat (127) + 1) σ0 ((Int32.ofInt 0)) hσ0 hF0 (by decide) (by decide) (by first | exact toN_lt _ | omega) (CLR_0 (by decide))
/-- DoorSchoolModel.leastHours(II)I -/
abbrev P_277 (σ0 : SG) (a : Int32) (b : Int32) : PO := fun v σ => WT σ ∧ Fr [(49, 0), (50, 0)] σ0 σ ∧ ∃ ret : Int32, v = some (.int ret) ∧ -ret.toInt ≤ 0 ∧ ret.toInt - 1000000 ≤ 0 ∧ LEASTs σ0 a.toInt b.toInt ret.toInt.toNat
set_option maxRecDepth 10000 in
set_option maxHeartbeats 4000000 in
theorem c_277 (σ0 : SG) (hσ0 : WT σ0) (a : Int32) (b : Int32) (hl_a : 0 ≤ a.toInt) (hu_a : a.toInt ≤ 6) (hl_b : 1 ≤ b.toInt) (hu_b : b.toInt ≤ 4) (hN : a.toInt ≤ ci σ0 160 5) : En 4 97 none mr_277 (P_277 σ0 a b) 0 [(0, .ref 159), (1, .int a), (2, .int b)] [] σ0 := by
  have hF0 : Fr [(49, 0), (50, 0)] σ0 σ0 := Fr_rfl
  refine En_Ps 4 (pc' := 5) (lv' := [(4, .int ((Int32.ofInt 2))), (3, .int ((Int32.ofInt 1))), (0, .ref 159), (1, .int a), (2, .int b)]) (st' := []) rfl ?_
  have key5 : ∀ (n5 : Nat) (y1 : Int32) (y2 : Int32), 2 ≤ y2.toInt → y2.toInt ≤ 7 → 8 - y2.toInt < (n5 : Int) → ORDs y1.toInt y2.toInt (ci σ0 160 5 - a.toInt) → En 4 97 none mr_277 (P_277 σ0 a b) 5 [(0, .ref 159), (1, .int a), (2, .int b), (3, .int y1), (4, .int y2)] [] σ0 := by
    intro n5
    induction n5 with
    | zero =>
      intro y1 y2 h8 h9 h10 h11
      exfalso; have := ORD_lin h11; omega
    | succ n5 ih5 =>
      intro y1 y2 h8 h9 h10 h11
      have h14 := ORD_lin h11
      refine En_Ps 2 (pc' := 8) (lv' := [(0, .ref 159), (1, .int a), (2, .int b), (3, .int y1), (4, .int y2)]) (st' := [.ref 159, .int y2]) rfl ?_
      refine En_getU (j := 1) (u := 160) (g' := 36) (q := 0) rfl rfl rfl tgz_159 (by decide +kernel) hσ0 (by decide +kernel) (by decide +kernel) (fun h15 => ?_)
      refine En_Ps 1 (pc' := 12) (lv' := [(0, .ref 159), (1, .int a), (2, .int b), (3, .int y1), (4, .int y2)]) (st' := [.int ((Int32.ofInt 5)), .ref 160, .int y2]) rfl ?_
      refine En_iald (l := 0) (u := 6) rfl (by decide : (Int32.ofInt 5).toInt = 5) tgz_160 (by decide +kernel) hσ0 (by decide) (lnI (by decide +kernel : LN _ = 226) (by decide)) (by decide +kernel) (fun z18 h17 h19 h20 => ?_)
      have h21 := ci_at h17 (rfl : (5 : Int) = 5)
      refine En_Ps 2 (pc' := 15) (lv' := [(0, .ref 159), (1, .int a), (2, .int b), (3, .int y1), (4, .int y2)]) (st' := [.int ((z18 - a)), .int y2]) rfl ?_
      refine En_top (subI rfl rfl (by first | exact q_7e8a97a116 hu_a h19 | omega) (by first | exact q_f60c02febd hl_a h20 | omega)) (fun z22 h23 => ?_)
      refine En_icGt _ rfl rfl rfl (fun h24 => ?_) (fun h24 => ?_)
      · have h25 := ORD_x h11 (by omega) (by omega)
        refine En_Ps 4 (pc' := 37) (lv' := [(5, .int ((Int32.ofInt 0))), (4, .int ((1000000 : Int32))), (0, .ref 159), (1, .int a), (2, .int b), (3, .int y1)]) (st' := []) rfl ?_
        have key37 : ∀ (n37 : Nat) (σ30 : SG) (y26 : Int32) (y27 : Int32), WT σ30 → Fr [(49, 0), (50, 0)] σ0 σ30 → (σ30 159)[1]? = some (.ref 160) → (σ30 160)[(5 : Int).toNat]? = some (.int z18) → 0 ≤ y26.toInt → y26.toInt ≤ 1000000 → 0 ≤ y27.toInt → y1.toInt - y27.toInt < (n37 : Int) → LSTL σ0 a.toInt b.toInt y26.toInt y27.toInt → y27.toInt ≤ y1.toInt → En 4 97 none mr_277 (P_277 σ0 a b) 37 [(0, .ref 159), (1, .int a), (2, .int b), (3, .int y1), (4, .int y26), (5, .int y27)] [] σ30 := by
          intro n37
          induction n37 with
          | zero =>
            intro σ30 y26 y27 h31 h32 h33 h34 h35 h36 h37 h38 h39 h40
            have h41 := LST_lin h39
            exfalso; omega
          | succ n37 ih37 =>
            intro σ30 y26 y27 h31 h32 h33 h34 h35 h36 h37 h38 h39 h40
            have h45 := LST_lin h39
            refine En_Ps 2 (pc' := 40) (lv' := [(0, .ref 159), (1, .int a), (2, .int b), (3, .int y1), (4, .int y26), (5, .int y27)]) (st' := [.int y1, .int y27]) rfl ?_
            refine En_icGe _ rfl rfl rfl (fun h46 => ?_) (fun h46 => ?_)
            · refine En_Ps 1 (pc' := 66) (lv' := [(0, .ref 159), (1, .int a), (2, .int b), (3, .int y1), (4, .int y26), (5, .int y27)]) (st' := [.int y26]) rfl ?_
              exact En_ret (v := some (.int y26)) rfl rfl rfl ⟨h31, h32, y26, rfl, ⟨by omega, by omega, LST_x h39 h25 (by omega) hl_a hN (by omega)⟩⟩
            · refine En_Ps 5 (pc' := 50) (lv' := [(0, .ref 159), (1, .int a), (2, .int b), (3, .int y1), (4, .int y26), (5, .int y27)]) (st' := [.int b, .int y27, .int a, .ref 159, .int y26]) rfl ?_
              refine En_callV rfl rfl rfl rfl rfl rfl rfl rfl tgz_159 (by decide +kernel) rfl (c_293 σ30 h31 a y27 b (geI rfl (by first | exact q_58e6e51dcc hl_a | omega)) (leI rfl (by first | exact q_615333d33f hu_a | omega)) (geI rfl (by first | exact q_58e6e51dcc h37 | omega)) (geI rfl (by first | exact q_41c8504a86 hl_b | omega)) (leI rfl (by first | exact q_c82ed93a8c hu_b | omega)) (by have e1 := (SWd_fr h32 (by decide +kernel)) 5; omega)) (by decide) (by decide) (fun v48 σ49 h47 => ?_)
              obtain ⟨h50, h51, z53, rfl, h52⟩ := h47
              have h54 := h52.2.2
              have h55 := Fr_trans h32 h51 (by decide +kernel)
              refine En_callS rfl rfl rfl rfl rfl rfl rfl rfl rfl (c_11 σ49 h50 y26 z53) (by decide) (by decide) (fun v57 σ58 h56 => ?_)
              obtain ⟨h59, h60, z62, rfl, h61⟩ := h56
              obtain rfl : σ49 = σ58 := Fr_nil h60
              refine En_Ps 2 (pc' := 61) (lv' := [(5, .int ((y27 + Int32.ofInt 1))), (4, .int z62), (0, .ref 159), (1, .int a), (2, .int b), (3, .int y1)]) (st' := []) rfl ?_
              refine En_lv1 (addI rfl (by decide : (Int32.ofInt 1).toInt = 1) (by first | exact q_465ab79ac1 h37 | omega) (by omega)) (fun z63 h64 => ?_)
              refine En_Ps 1 (pc' := 37) (lv' := [(5, .int z63), (4, .int z62), (0, .ref 159), (1, .int a), (2, .int b), (3, .int y1)]) (st' := []) rfl ?_
              refine En_lv (lv := [(0, .ref 159), (1, .int a), (2, .int b), (3, .int y1), (4, .int z62), (5, .int z63)]) ⟨rfl, rfl, rfl, rfl, rfl, rfl, trivial⟩ ?_
              exact ih37 σ49 z62 z63 h50 h55 ((h51 _ _ (inW tgz_159 (by decide +kernel))).trans h33) ((h51 _ _ (inWa tgz_160 (by decide +kernel))).trans h34) (by omega) (by first | exact q_a83191ed3e h61.1 h36 | omega) (by first | exact q_35104ce9d3 h64 h37 | omega) (by first | exact q_8d03a5a7cb h64 h38 | omega) (LST_s (SWd_fr h32 (by decide +kernel)) (SXd_fr h32 (by decide +kernel)) h39 h54 (by omega) (by omega) (by omega) (by omega) (by omega)) (by omega)
        have := (by decide : (1000000 : Int32).toInt = 1000000)
        have := (by decide : (Int32.ofInt 0).toInt = 0)
        refine En_lv (lv := [(0, .ref 159), (1, .int a), (2, .int b), (3, .int y1), (4, .int ((1000000 : Int32))), (5, .int ((Int32.ofInt 0)))]) ⟨rfl, rfl, rfl, rfl, rfl, rfl, trivial⟩ ?_
        exact key37 (Int.toNat (y1.toInt) + 1) σ0 ((1000000 : Int32)) ((Int32.ofInt 0)) hσ0 hF0 h15 h17 (by decide) (by decide) (by decide) (by first | exact toN_lt _ | omega) (LST_0 (by decide) (by decide)) (by omega)
      · refine En_Ps 3 (pc' := 22) (lv' := [(0, .ref 159), (1, .int a), (2, .int b), (3, .int y1), (4, .int y2)]) (st' := [.int ((y1 * y2))]) rfl ?_
        refine En_nam (fun z65 h66 => ?_)
        refine En_Ps 2 (pc' := 26) (lv' := [(4, .int ((y2 + Int32.ofInt 1))), (3, .int z65), (0, .ref 159), (1, .int a), (2, .int b)]) (st' := []) rfl ?_
        refine En_lv1 (addI rfl (by decide : (Int32.ofInt 1).toInt = 1) (by first | exact q_b7dadf652e h8 | omega) (by first | exact q_ec36873654 h9 | omega)) (fun z67 h68 => ?_)
        refine En_Ps 1 (pc' := 5) (lv' := [(4, .int z67), (3, .int z65), (0, .ref 159), (1, .int a), (2, .int b)]) (st' := []) rfl ?_
        refine En_lv (lv := [(0, .ref 159), (1, .int a), (2, .int b), (3, .int z65), (4, .int z67)]) ⟨rfl, rfl, rfl, rfl, rfl, trivial⟩ ?_
        exact ih5 z65 z67 (by first | exact q_e684beeb97 h68 h8 | omega) (by first | exact q_9b1ab74a6f h68 h24 h23 hl_a h20 | omega) (by omega) (ORD_s h11 h66 rfl rfl (by omega) (by omega) rfl)
  have := (by decide : (Int32.ofInt 1).toInt = 1)
  have := (by decide : (Int32.ofInt 2).toInt = 2)
  refine En_lv (lv := [(0, .ref 159), (1, .int a), (2, .int b), (3, .int ((Int32.ofInt 1))), (4, .int ((Int32.ofInt 2)))]) ⟨rfl, rfl, rfl, rfl, rfl, trivial⟩ ?_
  exact key5 (Int.toNat (8 - 2) + 1) ((Int32.ofInt 1)) ((Int32.ofInt 2)) (by decide) (by decide) (by omega) (ORD_0 (by have := n6 hσ0; omega) (by decide) (by decide))
/-- DoorSchoolModel.mayBegin(II)Z -/
abbrev P_284 (σ0 : SG) (a : Int32) (b : Int32) : PO := fun v σ => WT σ ∧ Fr [(49, 0), (50, 0)] σ0 σ ∧ ∃ ret : Int32, v = some (.int ret) ∧ -ret.toInt ≤ 0 ∧ ret.toInt - 1 ≤ 0 ∧ (MAYs σ0 a.toInt b.toInt → ret.toInt = 1)
set_option maxRecDepth 10000 in
set_option maxHeartbeats 4000000 in
theorem c_284 (σ0 : SG) (hσ0 : WT σ0) (a : Int32) (b : Int32) (hl_a : 0 ≤ a.toInt) (hu_a : a.toInt ≤ 5) (hl_b : 0 ≤ b.toInt) (hu_b : b.toInt ≤ 54) : En 3 66 none mr_284 (P_284 σ0 a b) 0 [(0, .ref 159), (1, .int a), (2, .int b)] [] σ0 := by
  have hF0 : Fr [(49, 0), (50, 0)] σ0 σ0 := Fr_rfl
  refine En_Ps 2 (pc' := 2) (lv' := [(3, .int ((Int32.ofInt 0))), (0, .ref 159), (1, .int a), (2, .int b)]) (st' := []) rfl ?_
  have key2 : ∀ (n2 : Nat) (σ2 : SG) (y1 : Int32), WT σ2 → Fr [(49, 0), (50, 0)] σ0 σ2 → 0 ≤ y1.toInt → y1.toInt ≤ 127 → -y1.toInt + 127 < (n2 : Int) → CLR σ2 y1.toInt → En 3 66 none mr_284 (P_284 σ0 a b) 2 [(0, .ref 159), (1, .int a), (2, .int b), (3, .int y1)] [] σ2 := by
    intro n2
    induction n2 with
    | zero =>
      intro σ2 y1 h3 h4 h5 h6 h7 h8
      first | exact (q_aaec68a920 h7 h6).elim | (exfalso; omega)
    | succ n2 ih2 =>
      intro σ2 y1 h3 h4 h5 h6 h7 h8
      refine En_Ps 2 (pc' := 4) (lv' := [(0, .ref 159), (1, .int a), (2, .int b), (3, .int y1)]) (st' := [.ref 159, .int y1]) rfl ?_
      refine En_getU (j := 28) (u := 174) (g' := 50) (q := 0) rfl rfl rfl tgz_159 (by decide +kernel) h3 (by decide +kernel) (by decide +kernel) (fun h9 => ?_)
      refine En_alenN (n := 120) rfl tgz_174 (by decide +kernel) (by decide +kernel) h3 ?_
      refine En_icGe _ rfl (by decide : (Int32.ofNat 120).toInt = 120) rfl (fun h11 => ?_) (fun h11 => ?_)
      · refine En_Ps 2 (pc' := 26) (lv' := [(3, .int ((Int32.ofInt 0))), (0, .ref 159), (1, .int a), (2, .int b)]) (st' := []) rfl ?_
        have key26 : ∀ (n26 : Nat) (σ15 : SG) (y12 : Int32), WT σ15 → Fr [(49, 0), (50, 0)] σ0 σ15 → (σ15 159)[28]? = some (.ref 174) → 0 ≤ y12.toInt → y12.toInt ≤ 5 → a.toInt - y12.toInt < (n26 : Int) → PRE0 σ0 σ15 a.toInt y12.toInt → En 3 66 none mr_284 (P_284 σ0 a b) 26 [(0, .ref 159), (1, .int a), (2, .int b), (3, .int y12)] [] σ15 := by
          intro n26
          induction n26 with
          | zero =>
            intro σ15 y12 h16 h17 h18 h19 h20 h21 h22
            have h23 := PRE0_lin h22
            exfalso; omega
          | succ n26 ih26 =>
            intro σ15 y12 h16 h17 h18 h19 h20 h21 h22
            have h27 := PRE0_lin h22
            refine En_Ps 2 (pc' := 28) (lv' := [(0, .ref 159), (1, .int a), (2, .int b), (3, .int y12)]) (st' := [.int a, .int y12]) rfl ?_
            refine En_icGe _ rfl rfl rfl (fun h28 => ?_) (fun h28 => ?_)
            · refine En_Ps 3 (pc' := 51) (lv' := [(0, .ref 159), (1, .int a), (2, .int b), (3, .int y12)]) (st' := [.int a, .ref 159, .int b]) rfl ?_
              refine En_Ps 5 (pc' := 56) (lv' := [(0, .ref 159), (1, .int a), (2, .int b), (3, .int y12)]) (st' := [.int ((((Int32.ofInt 1) <<< (a &&& 31)) - (Int32.ofInt 1))), .int a, .ref 159, .int b]) rfl ?_
              refine En_nam (fun z29 h30 => ?_)
              have h31 := m1_small h30 rfl (by omega) (by omega)
              have h32 := PRE0_at h22 (by omega : y12.toInt = a.toInt)
              refine En_callV rfl rfl rfl rfl rfl rfl rfl rfl tgz_159 (by decide +kernel) rfl (c_190 σ15 h16 a z29 (geI rfl (by first | exact q_58e6e51dcc hl_a | omega)) (leI rfl (by first | exact q_d9092b5ca1 hu_a | omega)) (geI rfl (by omega)) (leI rfl (by omega))) (by decide) (by decide) (fun v34 σ35 h33 => ?_)
              obtain ⟨h36, h37, z39, rfl, h38⟩ := h33
              have h40 := h38.2.2
              obtain rfl : σ15 = σ35 := Fr_nil h37
              refine En_icLt _ rfl rfl rfl (fun h41 => ?_) (fun h41 => ?_)
              · refine En_Ps 1 (pc' := 82) (lv' := [(0, .ref 159), (1, .int a), (2, .int b), (3, .int y12)]) (st' := [.int ((Int32.ofInt 0))]) rfl ?_
                refine En_top (by decide : (Int32.ofInt 0).toInt = 0) (fun z42 h43 => ?_)
                exact En_ret (v := some (.int z42)) rfl rfl (retZ rfl rfl (by first | exact q_55451d0a83 h43 | omega) (by first | exact q_87849c3859 h43 | omega)) ⟨h16, h17, z42, rfl, ⟨by omega, by omega, MAY_1 (SWd_fr h17 (by decide +kernel)) h32 h31.1 hu_a hl_b h40 (by omega)⟩⟩
              · refine En_Ps 4 (pc' := 66) (lv' := [(0, .ref 159), (1, .int a), (2, .int b), (3, .int y12)]) (st' := [.ref 159, .int a, .int b, .ref 159]) rfl ?_
                refine En_getU (j := 1) (u := 160) (g' := 36) (q := 0) rfl rfl rfl tgz_159 (by decide +kernel) h16 (by decide +kernel) (by decide +kernel) (fun h44 => ?_)
                refine En_Ps 1 (pc' := 70) (lv' := [(0, .ref 159), (1, .int a), (2, .int b), (3, .int y12)]) (st' := [.int ((Int32.ofInt 1)), .ref 160, .int a, .int b, .ref 159]) rfl ?_
                refine En_iald (l := 0) (u := 3) rfl (by decide : (Int32.ofInt 1).toInt = 1) tgz_160 (by decide +kernel) h16 (by decide) (lnI (by decide +kernel : LN _ = 226) (by decide)) (by decide +kernel) (fun z47 h46 h48 h49 => ?_)
                refine En_callV rfl rfl rfl rfl rfl rfl rfl rfl tgz_159 (by decide +kernel) rfl (c_256 σ15 h16 b a z47 (geI rfl (by first | exact q_58e6e51dcc hl_b | omega)) (leI rfl (by first | exact q_4e4196c588 hu_b | omega)) (geI rfl (by first | exact q_58e6e51dcc hl_a | omega)) (leI rfl (by first | exact q_d9092b5ca1 hu_a | omega)) (geI rfl (by first | exact q_58e6e51dcc h48 | omega)) (leI rfl (by first | exact q_d73d44bb15 h49 | omega))) (by decide) (by decide) (fun v51 σ52 h50 => ?_)
                obtain ⟨h53, h54, z56, rfl, h55⟩ := h50
                have h57 := h55.2.2
                obtain rfl : σ15 = σ52 := Fr_nil h54
                refine En_iEq _ rfl rfl (fun h58 => ?_) (fun h58 => ?_)
                · refine En_Ps 1 (pc' := 82) (lv' := [(0, .ref 159), (1, .int a), (2, .int b), (3, .int y12)]) (st' := [.int ((Int32.ofInt 0))]) rfl ?_
                  refine En_top (by decide : (Int32.ofInt 0).toInt = 0) (fun z59 h60 => ?_)
                  exact En_ret (v := some (.int z59)) rfl rfl (retZ rfl rfl (by first | exact q_55451d0a83 h60 | omega) (by first | exact q_87849c3859 h60 | omega)) ⟨h16, h17, z59, rfl, ⟨by omega, by omega, MAY_2 hσ0 (SWd_fr h17 (by decide +kernel)) h32 hl_b hu_b (ci_at h46 rfl).symm h57 (by omega)⟩⟩
                · refine En_Ps 2 (pc' := 82) (lv' := [(0, .ref 159), (1, .int a), (2, .int b), (3, .int y12)]) (st' := [.int ((Int32.ofInt 1))]) rfl ?_
                  refine En_top (by decide : (Int32.ofInt 1).toInt = 1) (fun z61 h62 => ?_)
                  exact En_ret (v := some (.int z61)) rfl rfl (retZ rfl rfl (by first | exact q_2b07c97645 h62 | omega) (by first | exact q_d9e7cbb253 h62 | omega)) ⟨h16, h17, z61, rfl, ⟨by omega, by omega, fun _ => (by omega)⟩⟩
            · refine En_Ps 3 (pc' := 34) (lv' := [(0, .ref 159), (1, .int a), (2, .int b), (3, .int y12)]) (st' := [.ref 159, .int y12, .ref 159]) rfl ?_
              refine En_getU (j := 29) (u := 175) (g' := 51) (q := 0) rfl rfl rfl tgz_159 (by decide +kernel) h16 (by decide +kernel) (by decide +kernel) (fun h63 => ?_)
              refine En_Ps 1 (pc' := 38) (lv' := [(0, .ref 159), (1, .int a), (2, .int b), (3, .int y12)]) (st' := [.int y12, .ref 175, .int y12, .ref 159]) rfl ?_
              refine En_iald (l := 0) (u := 54) rfl rfl tgz_175 (by decide +kernel) h16 (by first | exact q_58e6e51dcc h19 | omega) (lnI (by decide +kernel : LN _ = 6) (by first | exact q_f6226e27c9 h20 | omega)) (FTsgl (by decide +kernel)) (fun z66 h65 h67 h68 => ?_)
              refine En_callV rfl rfl rfl rfl rfl rfl rfl rfl tgz_159 (by decide +kernel) rfl (c_298 σ15 h16 y12 z66 (geI rfl (by first | exact q_58e6e51dcc h19 | omega)) (leI rfl (by first | exact q_d9092b5ca1 h20 | omega)) (geI rfl (by first | exact q_58e6e51dcc h67 | omega)) (leI rfl (by first | exact q_4e4196c588 h68 | omega)) (PRE0_HB h22)) (by decide) (by decide) (fun v70 σ71 h69 => ?_)
              obtain ⟨h72, h73, rfl, h74⟩ := h69
              have h75 := h74
              have h76 := Fr_trans h17 h73 (by decide +kernel)
              refine En_Ps 1 (pc' := 45) (lv' := [(3, .int ((y12 + Int32.ofInt 1))), (0, .ref 159), (1, .int a), (2, .int b)]) (st' := []) rfl ?_
              refine En_lv1 (addI rfl (by decide : (Int32.ofInt 1).toInt = 1) (by first | exact q_465ab79ac1 h19 | omega) (by first | exact q_aeda34609f h20 | omega)) (fun z77 h78 => ?_)
              refine En_Ps 1 (pc' := 26) (lv' := [(3, .int z77), (0, .ref 159), (1, .int a), (2, .int b)]) (st' := []) rfl ?_
              refine En_lv (lv := [(0, .ref 159), (1, .int a), (2, .int b), (3, .int z77)]) ⟨rfl, rfl, rfl, rfl, trivial⟩ ?_
              exact ih26 σ71 z77 h72 h76 ((h73 _ _ (inW tgz_159 (by decide +kernel))).trans h18) (by first | exact q_35104ce9d3 h78 h19 | omega) (by first | exact q_b880857b86 h78 h28 hu_a | omega) (by first | exact q_8d03a5a7cb h78 h21 | omega) (PRE0_s hσ0 h22 (SWd_fr h17 (by decide +kernel)) (SXd_fr h17 (by decide +kernel)) (by omega) (ci_at h65 rfl).symm h75 (by omega))
        have := (by decide : (Int32.ofInt 0).toInt = 0)
        refine En_lv (lv := [(0, .ref 159), (1, .int a), (2, .int b), (3, .int ((Int32.ofInt 0)))]) ⟨rfl, rfl, rfl, rfl, trivial⟩ ?_
        exact key26 (Int.toNat (a.toInt) + 1) σ2 ((Int32.ofInt 0)) h3 h4 h9 (by decide) (by decide) (by first | exact toN_lt _ | omega) (PRE0_0 h8 (by omega) hl_a (by omega) (by decide))
      · refine En_Ps 1 (pc' := 12) (lv' := [(0, .ref 159), (1, .int a), (2, .int b), (3, .int y1)]) (st' := [.ref 159]) rfl ?_
        refine En_getK (j := 28) h9 rfl rfl rfl tgz_159 (by decide +kernel) ?_
        refine En_Ps 2 (pc' := 17) (lv' := [(0, .ref 159), (1, .int a), (2, .int b), (3, .int y1)]) (st' := [.int ((Int32.ofInt 0)), .int y1, .ref 174]) rfl ?_
        refine En_iast (l := (-2147483648)) (u := 2147483647) rfl rfl tgz_174 (by decide +kernel) (by first | exact q_58e6e51dcc h5 | omega) (lnI (by decide +kernel : LN _ = 120) (by first | exact q_a3140d0b4a h11 | omega)) (FTsgl (by decide +kernel)) (fullI _) h3 h4 (by decide +kernel) (fun σ79 h80 h81 h82 h83 => ?_)
        refine En_Ps 1 (pc' := 21) (lv' := [(3, .int ((y1 + Int32.ofInt 1))), (0, .ref 159), (1, .int a), (2, .int b)]) (st' := []) rfl ?_
        refine En_lv1 (addI rfl (by decide : (Int32.ofInt 1).toInt = 1) (by first | exact q_465ab79ac1 h5 | omega) (by first | exact q_68a4db60cc h11 | omega)) (fun z84 h85 => ?_)
        refine En_Ps 1 (pc' := 2) (lv' := [(3, .int z84), (0, .ref 159), (1, .int a), (2, .int b)]) (st' := []) rfl ?_
        refine En_lv (lv := [(0, .ref 159), (1, .int a), (2, .int b), (3, .int z84)]) ⟨rfl, rfl, rfl, rfl, trivial⟩ ?_
        exact ih2 σ79 z84 h80 h81 (by first | exact q_35104ce9d3 h85 h5 | omega) (by first | exact q_82af9d7fcb h85 h11 | omega) (by first | exact q_086be879e1 h85 h7 | omega) (CLR_s h8 h82 h83 (by decide) (by omega) (by omega))
  have := (by decide : (Int32.ofInt 0).toInt = 0)
  refine En_lv (lv := [(0, .ref 159), (1, .int a), (2, .int b), (3, .int ((Int32.ofInt 0)))]) ⟨rfl, rfl, rfl, rfl, trivial⟩ ?_
  exact key2 (Int.toNat (127) + 1) σ0 ((Int32.ofInt 0)) hσ0 hF0 (by decide) (by decide) (by first | exact toN_lt _ | omega) (CLR_0 (by decide))
/-- DoorSchoolModel.begins(I)I -/
abbrev P_200 (σ0 : SG) (a : Int32) : PO := fun v σ => WT σ ∧ Fr [(49, 0), (50, 0), (51, 0)] σ0 σ ∧ ∃ ret : Int32, v = some (.int ret) ∧ -ret.toInt - 2 ≤ 0 ∧ ret.toInt - 54 ≤ 0
set_option maxRecDepth 10000 in
set_option maxHeartbeats 4000000 in
theorem c_200 (σ0 : SG) (hσ0 : WT σ0) (a : Int32) (hT : TPOS σ0) : En 5 122 none mr_200 (P_200 σ0 a) 0 [(0, .ref 159), (1, .int a)] [] σ0 := by
  have hF0 : Fr [(49, 0), (50, 0), (51, 0)] σ0 σ0 := Fr_rfl
  refine En_Ps 4 (pc' := 4) (lv' := [(0, .ref 159), (1, .int a)]) (st' := [.ref 159, .long ((Int64.ofNat 0)), .long a.toInt64]) rfl ?_
  refine En_getU (j := 1) (u := 160) (g' := 36) (q := 0) rfl rfl rfl tgz_159 (by decide +kernel) hσ0 (by decide +kernel) (by decide +kernel) (fun h1 => ?_)
  refine En_Ps 1 (pc' := 8) (lv' := [(0, .ref 159), (1, .int a)]) (st' := [.int ((Int32.ofInt 5)), .ref 160, .long ((Int64.ofNat 0)), .long a.toInt64]) rfl ?_
  refine En_iald (l := 0) (u := 6) rfl (by decide : (Int32.ofInt 5).toInt = 5) tgz_160 (by decide +kernel) hσ0 (by decide) (lnI (by decide +kernel : LN _ = 226) (by decide)) (by decide +kernel) (fun z4 h3 h5 h6 => ?_)
  refine En_Ps 2 (pc' := 11) (lv' := [(0, .ref 159), (1, .int a)]) (st' := [.int ((z4 - ((Int32.ofInt 1)))), .long ((Int64.ofNat 0)), .long a.toInt64]) rfl ?_
  refine En_top (subI rfl (by decide : (Int32.ofInt 1).toInt = 1) (by first | exact q_93f9478bef h5 | omega) (by first | exact q_9320ba2c05 h6 | omega)) (fun z7 h8 => ?_)
  refine En_Ps 1 (pc' := 12) (lv' := [(0, .ref 159), (1, .int a)]) (st' := [.long z7.toInt64, .long ((Int64.ofNat 0)), .long a.toInt64]) rfl ?_
  have : a.toInt64.toInt = a.toInt := (i2lI rfl)
  have := (by decide : ((Int64.ofNat 0)).toInt = 0)
  have : z7.toInt64.toInt = z7.toInt := (i2lI rfl)
  refine En_callS rfl rfl rfl rfl rfl rfl rfl rfl rfl (c_249 σ0 hσ0 a.toInt64 ((Int64.ofNat 0)) z7.toInt64) (by decide) (by decide) (fun v10 σ11 h9 => ?_)
  obtain ⟨h12, h13, z15, rfl, h14⟩ := h9
  obtain rfl : σ0 = σ11 := Fr_nil h13
  refine En_iNe _ rfl rfl (fun h16 => ?_) (fun h16 => ?_)
  · refine En_Ps 3 (pc' := 24) (lv' := [(0, .ref 159), (1, .int a)]) (st' := [.ref 159, .int ((Int32.ofInt 0)), .ref 159]) rfl ?_
    refine En_getK (j := 1) h1 rfl rfl rfl tgz_159 (by decide +kernel) ?_
    refine En_Ps 1 (pc' := 28) (lv' := [(0, .ref 159), (1, .int a)]) (st' := [.int ((Int32.ofInt 1)), .ref 160, .int ((Int32.ofInt 0)), .ref 159]) rfl ?_
    refine En_iald (l := 0) (u := 3) rfl (by decide : (Int32.ofInt 1).toInt = 1) tgz_160 (by decide +kernel) hσ0 (by decide) (lnI (by decide +kernel : LN _ = 226) (by decide)) (by decide +kernel) (fun z18 h17 h19 h20 => ?_)
    have h21 : 1 ≤ z18.toInt := by have e1 := ci_at h17 (rfl : (1 : Int) = 1); have e5 := ci_at h3 (rfl : (5 : Int) = 5); have e := hT (Or.inl (by omega)); omega
    have := (by decide : ((Int32.ofInt 0)).toInt = 0)
    refine En_callV rfl rfl rfl rfl rfl rfl rfl rfl tgz_159 (by decide +kernel) rfl (c_277 σ0 hσ0 ((Int32.ofInt 0)) z18 (geI (by decide : (Int32.ofInt 0).toInt = 0) (by decide)) (leI (by decide : (Int32.ofInt 0).toInt = 0) (by decide)) (geI rfl (by omega)) (leI rfl (by first | exact q_571ae29550 h20 | omega)) (by have := n6 hσ0; omega)) (by decide) (by decide) (fun v23 σ24 h22 => ?_)
    obtain ⟨h25, h26, z28, rfl, h27⟩ := h22
    have h29 := h27.2.2
    have h30 := Fr_trans hF0 h26 (by decide +kernel)
    refine En_Ps 3 (pc' := 35) (lv' := [(3, .int ((Int32.ofInt 0))), (2, .int z28), (0, .ref 159), (1, .int a)]) (st' := []) rfl ?_
    have key35 : ∀ (n35 : Nat) (σ34 : SG) (y31 : Int32), WT σ34 → Fr [(49, 0), (50, 0), (51, 0)] σ0 σ34 → (σ34 159)[1]? = some (.ref 160) → (σ34 160)[(5 : Int).toNat]? = some (.int z4) → (σ34 160)[(1 : Int).toNat]? = some (.int z18) → 0 ≤ y31.toInt → y31.toInt ≤ 6 → -y31.toInt + 6 < (n35 : Int) → BEGs σ34 y31.toInt z28.toInt → En 5 122 none mr_200 (P_200 σ0 a) 35 [(0, .ref 159), (1, .int a), (2, .int z28), (3, .int y31)] [] σ34 := by
      intro n35
      induction n35 with
      | zero =>
        intro σ34 y31 h35 h36 h37 h38 h39 h40 h41 h42 h43
        have h44 := BEG_lin h43
        first | exact (q_1c67ffb2e6 h42 h41).elim | (exfalso; omega)
      | succ n35 ih35 =>
        intro σ34 y31 h35 h36 h37 h38 h39 h40 h41 h42 h43
        have h48 := BEG_lin h43
        refine En_Ps 2 (pc' := 37) (lv' := [(0, .ref 159), (1, .int a), (2, .int z28), (3, .int y31)]) (st' := [.int a, .int y31]) rfl ?_
        refine En_icGt _ rfl rfl rfl (fun h49 => ?_) (fun h49 => ?_)
        · refine En_Ps 1 (pc' := 98) (lv' := [(0, .ref 159), (1, .int a), (2, .int z28), (3, .int y31)]) (st' := [.ref 159]) rfl ?_
          refine En_getU (j := 29) (u := 175) (g' := 51) (q := 0) rfl rfl rfl tgz_159 (by decide +kernel) h35 (by decide +kernel) (by decide +kernel) (fun h50 => ?_)
          refine En_Ps 1 (pc' := 102) (lv' := [(0, .ref 159), (1, .int a), (2, .int z28), (3, .int y31)]) (st' := [.int a, .ref 175]) rfl ?_
          refine En_iald (l := 0) (u := 54) rfl rfl tgz_175 (by decide +kernel) h35 (by omega) (lnI (by decide +kernel : LN _ = 6) (by first | exact q_f252e21553 h49 h41 | omega)) (FTsgl (by decide +kernel)) (fun z53 h52 h54 h55 => ?_)
          exact En_ret (v := some (.int z53)) rfl rfl rfl ⟨h35, h36, z53, rfl, ⟨by first | exact q_ea7f0ffdb1 h54 | omega, by first | exact q_5cfa27335b h55 | omega⟩⟩
        · refine En_Ps 1 (pc' := 41) (lv' := [(0, .ref 159), (1, .int a), (2, .int z28), (3, .int y31)]) (st' := [.ref 159]) rfl ?_
          refine En_getU (j := 29) (u := 175) (g' := 51) (q := 0) rfl rfl rfl tgz_159 (by decide +kernel) h35 (by decide +kernel) (by decide +kernel) (fun h56 => ?_)
          refine En_Ps 2 (pc' := 46) (lv' := [(0, .ref 159), (1, .int a), (2, .int z28), (3, .int y31)]) (st' := [.int ((Int32.ofInt 0)), .int y31, .ref 175]) rfl ?_
          refine En_iast (l := 0) (u := 54) rfl rfl tgz_175 (by decide +kernel) (by first | exact q_58e6e51dcc h40 | omega) (lnI (by decide +kernel : LN _ = 6) (by omega)) (FTsgl (by decide +kernel)) (rngI (by decide : (Int32.ofInt 0).toInt = 0) (by decide) (by decide)) h35 h36 (by decide +kernel) (fun σ58 h59 h60 h61 h62 => ?_)
          have key47 : ∀ (n47 : Nat) (σ65 : SG), WT σ65 → Fr [(49, 0), (50, 0), (51, 0)] σ0 σ65 → (σ65 159)[1]? = some (.ref 160) → (σ65 160)[(5 : Int).toNat]? = some (.int z4) → (σ65 160)[(1 : Int).toNat]? = some (.int z18) → (σ65 159)[29]? = some (.ref 175) → 55 - ci σ65 175 y31.toInt < (n47 : Int) → AIMs σ65 y31.toInt z28.toInt → En 5 122 none mr_200 (P_200 σ0 a) 47 [(0, .ref 159), (1, .int a), (2, .int z28), (3, .int y31)] [] σ65 := by
            intro n47
            induction n47 with
            | zero =>
              intro σ65 h66 h67 h68 h69 h70 h71 h72 h73
              exfalso; have := AIM_lin (by assumption) h73; omega
            | succ n47 ih47 =>
              intro σ65 h66 h67 h68 h69 h70 h71 h72 h73
              have h76 := AIM_lin h66 h73
              refine En_Ps 3 (pc' := 50) (lv' := [(0, .ref 159), (1, .int a), (2, .int z28), (3, .int y31)]) (st' := [.ref 159, .int y31, .ref 159]) rfl ?_
              refine En_getK (j := 29) h71 rfl rfl rfl tgz_159 (by decide +kernel) ?_
              refine En_Ps 1 (pc' := 54) (lv' := [(0, .ref 159), (1, .int a), (2, .int z28), (3, .int y31)]) (st' := [.int y31, .ref 175, .int y31, .ref 159]) rfl ?_
              refine En_iald (l := 0) (u := 54) rfl rfl tgz_175 (by decide +kernel) h66 (by first | exact q_58e6e51dcc h40 | omega) (lnI (by decide +kernel : LN _ = 6) (by omega)) (FTsgl (by decide +kernel)) (fun z78 h77 h79 h80 => ?_)
              refine En_callV rfl rfl rfl rfl rfl rfl rfl rfl tgz_159 (by decide +kernel) rfl (c_284 σ65 h66 y31 z78 (geI rfl (by first | exact q_58e6e51dcc h40 | omega)) (leI rfl (by omega)) (geI rfl (by first | exact q_58e6e51dcc h79 | omega)) (leI rfl (by first | exact q_badf304c6d h80 | omega))) (by decide) (by decide) (fun v82 σ83 h81 => ?_)
              obtain ⟨h84, h85, z87, rfl, h86⟩ := h81
              have h88 := h86.2.2
              have h89 := Fr_trans h67 h85 (by decide +kernel)
              refine En_iEq _ rfl rfl (fun h90 => ?_) (fun h90 => ?_)
              · have h91 := GO_1 (all := z28.toInt) h88 (by omega)
                have h92 := AIM_53 h66 h73 h77 h91
                refine En_Ps 1 (pc' := 79) (lv' := [(0, .ref 159), (1, .int a), (2, .int z28), (3, .int y31)]) (st' := [.ref 159]) rfl ?_
                refine En_getK (j := 29) ((h85 _ _ (inW tgz_159 (by decide +kernel))).trans h71) rfl rfl rfl tgz_159 (by decide +kernel) ?_
                refine En_Ps 2 (pc' := 84) (lv' := [(0, .ref 159), (1, .int a), (2, .int z28), (3, .int y31)]) (st' := [.int y31, .ref 175, .int y31, .ref 175]) rfl ?_
                refine En_ialdK ((h85 _ _ (inWa tgz_175 (by decide +kernel))).trans h77) rfl rfl tgz_175 (by decide +kernel) h84 (by first | exact q_58e6e51dcc h40 | omega) (lnI (by decide +kernel : LN _ = 6) (by omega)) ?_
                refine En_Ps 2 (pc' := 87) (lv' := [(0, .ref 159), (1, .int a), (2, .int z28), (3, .int y31)]) (st' := [.int ((z78 + ((Int32.ofInt 1)))), .int y31, .ref 175]) rfl ?_
                refine En_top (addI rfl (by decide : (Int32.ofInt 1).toInt = 1) (by first | exact q_465ab79ac1 h79 | omega) (by first | exact q_6f39cb8ea5 h80 | omega)) (fun z94 h95 => ?_)
                refine En_iast (l := 0) (u := 54) rfl rfl tgz_175 (by decide +kernel) (by first | exact q_58e6e51dcc h40 | omega) (lnI (by decide +kernel : LN _ = 6) (by omega)) (FTsgl (by decide +kernel)) (rngI rfl (by first | exact q_35104ce9d3 h95 h79 | omega) (by omega)) h84 h89 (by decide +kernel) (fun σ96 h97 h98 h99 h100 => ?_)
                refine En_Ps 1 (pc' := 47) (lv' := [(0, .ref 159), (1, .int a), (2, .int z28), (3, .int y31)]) (st' := []) rfl ?_
                have h101 := ci_at h99 (rfl : y31.toInt = y31.toInt)
                have h102 := ci_at h77 (rfl : y31.toInt = y31.toInt)
                exact ih47 σ96 h97 h98 ((h100 _ _ (Or.inl (neTG tgz_159 tgz_175 (by decide)))).trans ((h85 _ _ (inW tgz_159 (by decide +kernel))).trans h68)) ((h100 _ _ (Or.inl (neTG tgz_160 tgz_175 (by decide)))).trans ((h85 _ _ (inWa tgz_160 (by decide +kernel))).trans h69)) ((h100 _ _ (Or.inl (neTG tgz_160 tgz_175 (by decide)))).trans ((h85 _ _ (inWa tgz_160 (by decide +kernel))).trans h70)) ((h100 _ _ (Or.inl (neTG tgz_159 tgz_175 (by decide)))).trans ((h85 _ _ (inW tgz_159 (by decide +kernel))).trans h71)) (by omega) (AIM_s h66 (SWd_fr h85 (by decide +kernel)) (SXd_fr h85 (by decide +kernel)) h73 h77 h91 h99 h100 (by omega))
              · refine En_Ps 4 (pc' := 65) (lv' := [(0, .ref 159), (1, .int a), (2, .int z28), (3, .int y31)]) (st' := [.int ((y31 + ((Int32.ofInt 1)))), .ref 159]) rfl ?_
                refine En_top (addI rfl (by decide : (Int32.ofInt 1).toInt = 1) (by first | exact q_465ab79ac1 h40 | omega) (by first | exact q_9a865ca0e4 h41 | omega)) (fun z103 h104 => ?_)
                refine En_Ps 1 (pc' := 66) (lv' := [(0, .ref 159), (1, .int a), (2, .int z28), (3, .int y31)]) (st' := [.ref 159, .int z103, .ref 159]) rfl ?_
                refine En_getK (j := 1) ((h85 _ _ (inW tgz_159 (by decide +kernel))).trans h68) rfl rfl rfl tgz_159 (by decide +kernel) ?_
                refine En_Ps 1 (pc' := 70) (lv' := [(0, .ref 159), (1, .int a), (2, .int z28), (3, .int y31)]) (st' := [.int ((Int32.ofInt 1)), .ref 160, .int z103, .ref 159]) rfl ?_
                refine En_ialdK ((h85 _ _ (inWa tgz_160 (by decide +kernel))).trans h70) rfl (by decide : (Int32.ofInt 1).toInt = 1) tgz_160 (by decide +kernel) h84 (by decide) (lnI (by decide +kernel : LN _ = 226) (by decide)) ?_
                refine En_callV rfl rfl rfl rfl rfl rfl rfl rfl tgz_159 (by decide +kernel) rfl (c_277 σ83 h84 z103 z18 (geI rfl (by first | exact q_35104ce9d3 h104 h40 | omega)) (leI rfl (by omega)) (geI rfl (by omega)) (leI rfl (by first | exact q_571ae29550 h20 | omega)) (by have e5 := ci_at ((h85 _ _ (inWa tgz_160 (by decide +kernel))).trans h69) (rfl : (5 : Int) = 5); omega)) (by decide) (by decide) (fun v107 σ108 h106 => ?_)
                obtain ⟨h109, h110, z112, rfl, h111⟩ := h106
                have h113 := h111.2.2
                have h114 := Fr_trans h89 h110 (by decide +kernel)
                refine En_Ps 1 (pc' := 75) (lv' := [(0, .ref 159), (1, .int a), (2, .int z28), (3, .int y31)]) (st' := [.int z28, .int z112]) rfl ?_
                refine En_icLe _ rfl rfl rfl (fun h115 => ?_) (fun h115 => ?_)
                · refine En_Ps 1 (pc' := 94) (lv' := [(3, .int ((y31 + Int32.ofInt 1))), (0, .ref 159), (1, .int a), (2, .int z28)]) (st' := []) rfl ?_
                  refine En_lv1 (addI rfl (by decide : (Int32.ofInt 1).toInt = 1) (by first | exact q_465ab79ac1 h40 | omega) (by first | exact q_9a865ca0e4 h41 | omega)) (fun z116 h117 => ?_)
                  refine En_Ps 1 (pc' := 35) (lv' := [(3, .int z116), (0, .ref 159), (1, .int a), (2, .int z28)]) (st' := []) rfl ?_
                  refine En_lv (lv := [(0, .ref 159), (1, .int a), (2, .int z28), (3, .int z116)]) ⟨rfl, rfl, rfl, rfl, trivial⟩ ?_
                  exact ih35 σ108 z116 h109 h114 ((h110 _ _ (inW tgz_159 (by decide +kernel))).trans ((h85 _ _ (inW tgz_159 (by decide +kernel))).trans h68)) ((h110 _ _ (inWa tgz_160 (by decide +kernel))).trans ((h85 _ _ (inWa tgz_160 (by decide +kernel))).trans h69)) ((h110 _ _ (inWa tgz_160 (by decide +kernel))).trans ((h85 _ _ (inWa tgz_160 (by decide +kernel))).trans h70)) (by first | exact q_35104ce9d3 h117 h40 | omega) (by omega) (by first | exact q_18a3ecfd63 h117 h42 | omega) (BEG_s h113 (SWd_fr h110 (by decide +kernel)) (SXd_fr h110 (by decide +kernel)) (by omega) (ci_at ((h85 _ _ (inWa tgz_160 (by decide +kernel))).trans h70) rfl).symm (by omega) (by omega) (by omega) (by omega) (by omega))
                · have h118 := GO_2 (hour := z78.toInt) (SWd_fr h85 (by decide +kernel)) (SXd_fr h85 (by decide +kernel)) h113 (by omega : _ = y31.toInt + 1) (ci_at ((h85 _ _ (inWa tgz_160 (by decide +kernel))).trans h70) rfl).symm (by omega) (by omega : z28.toInt < _) (by omega)
                  have h119 := AIM_53 h66 h73 h77 h118
                  refine En_Ps 1 (pc' := 79) (lv' := [(0, .ref 159), (1, .int a), (2, .int z28), (3, .int y31)]) (st' := [.ref 159]) rfl ?_
                  refine En_getK (j := 29) ((h110 _ _ (inW tgz_159 (by decide +kernel))).trans ((h85 _ _ (inW tgz_159 (by decide +kernel))).trans h71)) rfl rfl rfl tgz_159 (by decide +kernel) ?_
                  refine En_Ps 2 (pc' := 84) (lv' := [(0, .ref 159), (1, .int a), (2, .int z28), (3, .int y31)]) (st' := [.int y31, .ref 175, .int y31, .ref 175]) rfl ?_
                  refine En_ialdK ((h110 _ _ (inWa tgz_175 (by decide +kernel))).trans ((h85 _ _ (inWa tgz_175 (by decide +kernel))).trans h77)) rfl rfl tgz_175 (by decide +kernel) h109 (by first | exact q_58e6e51dcc h40 | omega) (lnI (by decide +kernel : LN _ = 6) (by omega)) ?_
                  refine En_Ps 2 (pc' := 87) (lv' := [(0, .ref 159), (1, .int a), (2, .int z28), (3, .int y31)]) (st' := [.int ((z78 + ((Int32.ofInt 1)))), .int y31, .ref 175]) rfl ?_
                  refine En_top (addI rfl (by decide : (Int32.ofInt 1).toInt = 1) (by first | exact q_465ab79ac1 h79 | omega) (by first | exact q_6f39cb8ea5 h80 | omega)) (fun z121 h122 => ?_)
                  refine En_iast (l := 0) (u := 54) rfl rfl tgz_175 (by decide +kernel) (by first | exact q_58e6e51dcc h40 | omega) (lnI (by decide +kernel : LN _ = 6) (by omega)) (FTsgl (by decide +kernel)) (rngI rfl (by first | exact q_35104ce9d3 h122 h79 | omega) (by omega)) h109 h114 (by decide +kernel) (fun σ123 h124 h125 h126 h127 => ?_)
                  refine En_Ps 1 (pc' := 47) (lv' := [(0, .ref 159), (1, .int a), (2, .int z28), (3, .int y31)]) (st' := []) rfl ?_
                  have h128 := ci_at h126 (rfl : y31.toInt = y31.toInt)
                  have h129 := ci_at h77 (rfl : y31.toInt = y31.toInt)
                  exact ih47 σ123 h124 h125 ((h127 _ _ (Or.inl (neTG tgz_159 tgz_175 (by decide)))).trans ((h110 _ _ (inW tgz_159 (by decide +kernel))).trans ((h85 _ _ (inW tgz_159 (by decide +kernel))).trans h68))) ((h127 _ _ (Or.inl (neTG tgz_160 tgz_175 (by decide)))).trans ((h110 _ _ (inWa tgz_160 (by decide +kernel))).trans ((h85 _ _ (inWa tgz_160 (by decide +kernel))).trans h69))) ((h127 _ _ (Or.inl (neTG tgz_160 tgz_175 (by decide)))).trans ((h110 _ _ (inWa tgz_160 (by decide +kernel))).trans ((h85 _ _ (inWa tgz_160 (by decide +kernel))).trans h70))) ((h127 _ _ (Or.inl (neTG tgz_159 tgz_175 (by decide)))).trans ((h110 _ _ (inW tgz_159 (by decide +kernel))).trans ((h85 _ _ (inW tgz_159 (by decide +kernel))).trans h71))) (by omega) (AIM_s h66 (SWd_tr (SWd_fr h85 (by decide +kernel)) (SWd_fr h110 (by decide +kernel))) (SXd_tr (SXd_fr h85 (by decide +kernel)) (SXd_fr h110 (by decide +kernel))) h73 h77 h118 h126 h127 (by omega))
          exact key47 (Int.toNat (55 - ci σ58 175 y31.toInt) + 1) σ58 h59 h60 ((h62 _ _ (Or.inl (neTG tgz_159 tgz_175 (by decide)))).trans h37) ((h62 _ _ (Or.inl (neTG tgz_160 tgz_175 (by decide)))).trans h38) ((h62 _ _ (Or.inl (neTG tgz_160 tgz_175 (by decide)))).trans h39) ((h62 _ _ (Or.inl (neTG tgz_159 tgz_175 (by decide)))).trans h56) (by omega) (AIM_0 h35 h43 (by have e5 := ci_at h38 (rfl : (5 : Int) = 5); omega) h61 h62 (by decide))
    have := (by decide : (Int32.ofInt 0).toInt = 0)
    refine En_lv (lv := [(0, .ref 159), (1, .int a), (2, .int z28), (3, .int ((Int32.ofInt 0)))]) ⟨rfl, rfl, rfl, rfl, trivial⟩ ?_
    exact key35 (Int.toNat (6) + 1) σ24 ((Int32.ofInt 0)) h25 h30 ((h26 _ _ (inW tgz_159 (by decide +kernel))).trans h1) ((h26 _ _ (inWa tgz_160 (by decide +kernel))).trans h3) ((h26 _ _ (inWa tgz_160 (by decide +kernel))).trans h17) (by decide) (by decide) (by first | exact toN_lt _ | omega) (BEG_0 hσ0 (SWd_fr h26 (by decide +kernel)) (SXd_fr h26 (by decide +kernel)) h29 (by decide) (ci_at h17 rfl).symm (by omega) (by omega) (by decide))
  · refine En_Ps 1 (pc' := 20) (lv' := [(0, .ref 159), (1, .int a)]) (st' := [.int (((Int8.ofInt (-2)).toInt32))]) rfl ?_
    refine En_top (by decide : ((Int8.ofInt (-2)).toInt32).toInt = -2) (fun z130 h131 => ?_)
    exact En_ret (v := some (.int z130)) rfl rfl rfl ⟨hσ0, hF0, z130, rfl, ⟨by first | exact q_f35c5d346c h131 | omega, by first | exact q_18dc70cc6b h131 | omega⟩⟩

