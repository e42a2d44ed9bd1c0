/-- DoorSchoolModel.trickOf(II)I -/
abbrev P_327 (σ0 : SG) (a : Int32) (b : Int32) : PO := fun v σ => WT σ ∧ Fr [(35, 18), (35, 21), (42, 0), (43, 0), (44, 0), (45, 0), (46, 0)] σ0 σ ∧ ∃ ret : Int32, v = some (.int ret) ∧ -ret.toInt - 1 ≤ 0 ∧ ret.toInt - 15 ≤ 0
set_option maxRecDepth 10000 in
set_option maxHeartbeats 4000000 in
theorem c_327 (σ0 : SG) (hσ0 : WT σ0) (a : Int32) (b : Int32) (hl_a : 0 ≤ a.toInt) (hu_a : a.toInt ≤ 3) : En 5 112 none mr_327 (P_327 σ0 a b) 0 [(0, .ref 159), (1, .int a), (2, .int b)] [] σ0 := by
  have hF0 : Fr [(35, 18), (35, 21), (42, 0), (43, 0), (44, 0), (45, 0), (46, 0)] σ0 σ0 := Fr_rfl
  refine En_Ps 2 (pc' := 2) (lv' := [(0, .ref 159), (1, .int a), (2, .int b)]) (st' := [.int a, .ref 159]) rfl ?_
  refine En_callV rfl rfl rfl rfl rfl rfl rfl rfl tgz_159 (by decide +kernel) rfl (c_213 σ0 hσ0 a (geI rfl (by first | exact q_58e6e51dcc hl_a | omega)) (leI rfl (by first | exact q_da5e9b976f hu_a | omega))) (by decide) (by decide) (fun v2 σ3 h1 => ?_)
  obtain ⟨h4, h5, z7, h8, z9, rfl, h6⟩ := h1
  have h10 := Fr_trans hF0 h5 (by decide +kernel)
  refine En_Ps 5 (pc' := 12) (lv' := [(5, .int ((Int32.ofInt 0))), (4, .int ((Int32.ofInt (-1)))), (3, .int z9), (0, .ref 159), (1, .int a), (2, .int b)]) (st' := []) rfl ?_
  have key12 : ∀ (n12 : Nat) (σ13 : SG) (y11 : Int32) (y12 : Int32), WT σ13 → Fr [(35, 18), (35, 21), (42, 0), (43, 0), (44, 0), (45, 0), (46, 0)] σ0 σ13 → (σ13 159)[21]? = some (.int z7) → (-1) ≤ y11.toInt → y11.toInt ≤ 15 → 0 ≤ y12.toInt → y12.toInt ≤ 16 → y11.toInt - y12.toInt + 1 ≤ 0 → -y12.toInt + 16 < (n12 : Int) → En 5 112 none mr_327 (P_327 σ0 a b) 12 [(0, .ref 159), (1, .int a), (2, .int b), (3, .int z9), (4, .int y11), (5, .int y12)] [] σ13 := by
    intro n12
    induction n12 with
    | zero =>
      intro σ13 y11 y12 h14 h15 h16 h17 h18 h19 h20 h21 h22
      first | exact (q_511f6d33ac h22 h20).elim | (exfalso; omega)
    | succ n12 ih12 =>
      intro σ13 y11 y12 h14 h15 h16 h17 h18 h19 h20 h21 h22
      refine En_Ps 2 (pc' := 15) (lv' := [(0, .ref 159), (1, .int a), (2, .int b), (3, .int z9), (4, .int y11), (5, .int y12)]) (st' := [.ref 159, .int y12]) rfl ?_
      obtain ⟨z24, h23, h25, h26⟩ := WT_peekI h14 tgz_160 (by decide +kernel : FT 36 (0 : Int).toNat = (0, 0, 4)) (by decide +kernel)
      obtain ⟨z28, h27, h29, h30⟩ := WT_peekI h14 tgz_160 (by decide +kernel : FT 36 (7 : Int).toNat = (0, 0, 1600)) (by decide +kernel)
      refine En_callV rfl rfl rfl rfl rfl rfl rfl rfl tgz_159 (by decide +kernel) rfl (c_269 σ13 h14 z24 h23 z28 h27) (by decide) (by decide) (fun v32 σ33 h31 => ?_)
      obtain ⟨h34, h35, z37, rfl, h36⟩ := h31
      have h38 := h36.2.2
      have h39 := Fr_trans h15 h35 (by decide +kernel)
      refine En_icGe _ rfl rfl rfl (fun h40 => ?_) (fun h40 => ?_)
      · refine En_Ps 1 (pc' := 66) (lv' := [(0, .ref 159), (1, .int a), (2, .int b), (3, .int z9), (4, .int y11), (5, .int y12)]) (st' := [.int y11]) rfl ?_
        exact En_ret (v := some (.int y11)) rfl rfl rfl ⟨h34, h39, y11, rfl, ⟨by first | exact q_909eef6c0e h17 | omega, by first | exact q_867a9ac627 h18 | omega⟩⟩
      · refine En_Ps 2 (pc' := 24) (lv' := [(0, .ref 159), (1, .int a), (2, .int b), (3, .int z9), (4, .int y11), (5, .int y12)]) (st' := [.int y12, .int z9]) rfl ?_
        refine En_callS rfl rfl rfl rfl rfl rfl rfl rfl rfl (c_202b σ33 h34 z9 y12) (by decide) (by decide) (fun v42 σ43 h41 => ?_)
        obtain ⟨h44, h45, z47, rfl, h46⟩ := h41
        have h48 := Fr_trans h39 h45 (by decide +kernel)
        refine En_Ps 1 (pc' := 28) (lv' := [(0, .ref 159), (1, .int a), (2, .int b), (3, .int z9), (4, .int y11), (5, .int y12)]) (st' := [.int ((Int32.ofInt 1)), .int z47]) rfl ?_
        refine En_icNe _ rfl (by decide : (Int32.ofInt 1).toInt = 1) rfl (fun h49 => ?_) (fun h49 => ?_)
        · refine En_Ps 1 (pc' := 61) (lv' := [(5, .int ((y12 + Int32.ofInt 1))), (0, .ref 159), (1, .int a), (2, .int b), (3, .int z9), (4, .int y11)]) (st' := []) rfl ?_
          refine En_lv1 (addI rfl (by decide : (Int32.ofInt 1).toInt = 1) (by first | exact q_465ab79ac1 h19 | omega) (by first | exact q_f3f8e04381 h20 | omega)) (fun z50 h51 => ?_)
          refine En_Ps 1 (pc' := 12) (lv' := [(5, .int z50), (0, .ref 159), (1, .int a), (2, .int b), (3, .int z9), (4, .int y11)]) (st' := []) rfl ?_
          refine En_lv (lv := [(0, .ref 159), (1, .int a), (2, .int b), (3, .int z9), (4, .int y11), (5, .int z50)]) ⟨rfl, rfl, rfl, rfl, rfl, rfl, trivial⟩ ?_
          exact ih12 σ43 y11 z50 h44 h48 ((h45 _ _ (inW tgz_159 (by decide +kernel))).trans ((h35 _ _ (inW tgz_159 (by decide +kernel))).trans h16)) (by first | exact q_77b189e83d h17 | omega) (by first | exact q_5a4d8a7e08 h18 | omega) (by first | exact q_35104ce9d3 h51 h19 | omega) (by first | exact q_34dc714687 h51 h40 h36.2.1 | omega) (by first | exact q_6591527e3e h21 h51 | omega) (by first | exact q_c5d740bdff h51 h22 | omega)
        · refine En_Ps 2 (pc' := 34) (lv' := [(0, .ref 159), (1, .int a), (2, .int b), (3, .int z9), (4, .int y11), (5, .int y12)]) (st' := [.int ((Int32.ofInt (-1))), .int y11]) rfl ?_
          refine En_icEq _ rfl (by decide : (Int32.ofInt (-1)).toInt = -1) rfl (fun h52 => ?_) (fun h52 => ?_)
          · refine En_Ps 3 (pc' := 61) (lv' := [(5, .int ((y12 + Int32.ofInt 1))), (4, .int y12), (0, .ref 159), (1, .int a), (2, .int b), (3, .int z9)]) (st' := []) rfl ?_
            refine En_lv1 (addI rfl (by decide : (Int32.ofInt 1).toInt = 1) (by first | exact q_465ab79ac1 h19 | omega) (by first | exact q_f3f8e04381 h20 | omega)) (fun z53 h54 => ?_)
            refine En_Ps 1 (pc' := 12) (lv' := [(5, .int z53), (4, .int y12), (0, .ref 159), (1, .int a), (2, .int b), (3, .int z9)]) (st' := []) rfl ?_
            refine En_lv (lv := [(0, .ref 159), (1, .int a), (2, .int b), (3, .int z9), (4, .int y12), (5, .int z53)]) ⟨rfl, rfl, rfl, rfl, rfl, rfl, trivial⟩ ?_
            exact ih12 σ43 y12 z53 h44 h48 ((h45 _ _ (inW tgz_159 (by decide +kernel))).trans ((h35 _ _ (inW tgz_159 (by decide +kernel))).trans h16)) (by first | exact q_5b439548fc h19 | omega) (by first | exact q_c15b485600 h40 h36.2.1 | omega) (by first | exact q_35104ce9d3 h54 h19 | omega) (by first | exact q_34dc714687 h54 h40 h36.2.1 | omega) (by first | exact q_2fedec469a h54 | omega) (by first | exact q_c5d740bdff h54 h22 | omega)
          · refine En_Ps 3 (pc' := 41) (lv' := [(0, .ref 159), (1, .int a), (2, .int b), (3, .int z9), (4, .int y11), (5, .int y12)]) (st' := [.int ((y12 ^^^ b))]) rfl ?_
            refine En_hav (fun z55 => ?_)
            refine En_callS rfl rfl rfl rfl rfl rfl rfl rfl rfl (c_203b σ43 h44 z55) (by decide) (by decide) (fun v57 σ58 h56 => ?_)
            obtain ⟨h59, h60, z62, rfl, h61⟩ := h56
            have h63 := Fr_trans h48 h60 (by decide +kernel)
            refine En_Ps 3 (pc' := 48) (lv' := [(0, .ref 159), (1, .int a), (2, .int b), (3, .int z9), (4, .int y11), (5, .int y12)]) (st' := [.int ((y11 ^^^ b)), .int z62]) rfl ?_
            refine En_hav (fun z64 => ?_)
            refine En_callS rfl rfl rfl rfl rfl rfl rfl rfl rfl (c_203b σ58 h59 z64) (by decide) (by decide) (fun v66 σ67 h65 => ?_)
            obtain ⟨h68, h69, z71, rfl, h70⟩ := h65
            have h72 := Fr_trans h63 h69 (by decide +kernel)
            refine En_icGe _ rfl rfl rfl (fun h73 => ?_) (fun h73 => ?_)
            · refine En_Ps 1 (pc' := 61) (lv' := [(5, .int ((y12 + Int32.ofInt 1))), (0, .ref 159), (1, .int a), (2, .int b), (3, .int z9), (4, .int y11)]) (st' := []) rfl ?_
              refine En_lv1 (addI rfl (by decide : (Int32.ofInt 1).toInt = 1) (by first | exact q_465ab79ac1 h19 | omega) (by first | exact q_f3f8e04381 h20 | omega)) (fun z74 h75 => ?_)
              refine En_Ps 1 (pc' := 12) (lv' := [(5, .int z74), (0, .ref 159), (1, .int a), (2, .int b), (3, .int z9), (4, .int y11)]) (st' := []) rfl ?_
              refine En_lv (lv := [(0, .ref 159), (1, .int a), (2, .int b), (3, .int z9), (4, .int y11), (5, .int z74)]) ⟨rfl, rfl, rfl, rfl, rfl, rfl, trivial⟩ ?_
              exact ih12 σ67 y11 z74 h68 h72 ((h69 _ _ (inW tgz_159 (by decide +kernel))).trans ((h60 _ _ (inW tgz_159 (by decide +kernel))).trans ((h45 _ _ (inW tgz_159 (by decide +kernel))).trans ((h35 _ _ (inW tgz_159 (by decide +kernel))).trans h16)))) (by first | exact q_8d1c67ec40 h52 h17 | omega) (by first | exact q_5a4d8a7e08 h18 | omega) (by first | exact q_35104ce9d3 h75 h19 | omega) (by first | exact q_34dc714687 h75 h40 h36.2.1 | omega) (by first | exact q_6591527e3e h21 h75 | omega) (by first | exact q_c5d740bdff h75 h22 | omega)
            · refine En_Ps 3 (pc' := 61) (lv' := [(5, .int ((y12 + Int32.ofInt 1))), (4, .int y12), (0, .ref 159), (1, .int a), (2, .int b), (3, .int z9)]) (st' := []) rfl ?_
              refine En_lv1 (addI rfl (by decide : (Int32.ofInt 1).toInt = 1) (by first | exact q_465ab79ac1 h19 | omega) (by first | exact q_f3f8e04381 h20 | omega)) (fun z76 h77 => ?_)
              refine En_Ps 1 (pc' := 12) (lv' := [(5, .int z76), (4, .int y12), (0, .ref 159), (1, .int a), (2, .int b), (3, .int z9)]) (st' := []) rfl ?_
              refine En_lv (lv := [(0, .ref 159), (1, .int a), (2, .int b), (3, .int z9), (4, .int y12), (5, .int z76)]) ⟨rfl, rfl, rfl, rfl, rfl, rfl, trivial⟩ ?_
              exact ih12 σ67 y12 z76 h68 h72 ((h69 _ _ (inW tgz_159 (by decide +kernel))).trans ((h60 _ _ (inW tgz_159 (by decide +kernel))).trans ((h45 _ _ (inW tgz_159 (by decide +kernel))).trans ((h35 _ _ (inW tgz_159 (by decide +kernel))).trans h16)))) (by first | exact q_5b439548fc h19 | omega) (by first | exact q_c15b485600 h40 h36.2.1 | omega) (by first | exact q_35104ce9d3 h77 h19 | omega) (by first | exact q_34dc714687 h77 h40 h36.2.1 | omega) (by first | exact q_2fedec469a h77 | omega) (by first | exact q_c5d740bdff h77 h22 | omega)
  have := (by decide : (Int32.ofInt (-1)).toInt = -1)
  have := (by decide : (Int32.ofInt 0).toInt = 0)
  refine En_lv (lv := [(0, .ref 159), (1, .int a), (2, .int b), (3, .int z9), (4, .int ((Int32.ofInt (-1)))), (5, .int ((Int32.ofInt 0)))]) ⟨rfl, rfl, rfl, rfl, rfl, rfl, trivial⟩ ?_
  exact key12 (Int.toNat (16) + 1) σ3 ((Int32.ofInt (-1))) ((Int32.ofInt 0)) h4 h10 h8 (by decide) (by decide) (by decide) (by decide) (by omega) (by first | exact toN_lt _ | omega)
/-- DoorSchoolModel.trick(II)I -/
abbrev P_326 (σ0 : SG) (a : Int32) (b : Int32) : PO := fun v σ => WT σ ∧ Fr [(35, 18), (35, 21), (42, 0), (43, 0), (44, 0), (45, 0), (46, 0)] σ0 σ ∧ ∃ ret : Int32, v = some (.int ret) ∧ -ret.toInt - 2 ≤ 0 ∧ ret.toInt - 15 ≤ 0
set_option maxRecDepth 10000 in
set_option maxHeartbeats 4000000 in
theorem c_326 (σ0 : SG) (hσ0 : WT σ0) (a : Int32) (b : Int32) : En 6 137 none mr_326 (P_326 σ0 a b) 0 [(0, .ref 159), (1, .int a), (2, .int b)] [] σ0 := by
  have hF0 : Fr [(35, 18), (35, 21), (42, 0), (43, 0), (44, 0), (45, 0), (46, 0)] σ0 σ0 := Fr_rfl
  refine En_Ps 2 (pc' := 2) (lv' := [(0, .ref 159), (1, .int a), (2, .int b)]) (st' := [.int a, .ref 159]) rfl ?_
  obtain ⟨z2, h1, h3, h4⟩ := WT_peekI hσ0 tgz_160 (by decide +kernel : FT 36 (2 : Int).toNat = (0, 0, 4)) (by decide +kernel)
  refine En_callV rfl rfl rfl rfl rfl rfl rfl rfl tgz_159 (by decide +kernel) rfl (c_254 σ0 hσ0 a z2 h1) (by decide) (by decide) (fun v6 σ7 h5 => ?_)
  obtain ⟨h8, h9, z11, rfl, h10⟩ := h5
  have h12 := Fr_trans hF0 h9 (by decide +kernel)
  refine En_iEq _ rfl rfl (fun h13 => ?_) (fun h13 => ?_)
  · refine En_Ps 1 (pc' := 28) (lv' := [(0, .ref 159), (1, .int a), (2, .int b)]) (st' := [.int (((Int8.ofInt (-2)).toInt32))]) rfl ?_
    refine En_top (by decide : ((Int8.ofInt (-2)).toInt32).toInt = -2) (fun z14 h15 => ?_)
    exact En_ret (v := some (.int z14)) rfl rfl rfl ⟨h8, h12, z14, rfl, ⟨by first | exact q_f35c5d346c h15 | omega, by first | exact q_12a74e12a3 h15 | omega⟩⟩
  · refine En_Ps 3 (pc' := 11) (lv' := [(0, .ref 159), (1, .int a), (2, .int b)]) (st' := [.long b.toInt64, .ref 159]) rfl ?_
    have : b.toInt64.toInt = b.toInt := (i2lI rfl)
    refine En_callV rfl rfl rfl rfl rfl rfl rfl rfl tgz_159 (by decide +kernel) rfl (c_259 σ7 h8 b.toInt64) (by decide) (by decide) (fun v17 σ18 h16 => ?_)
    obtain ⟨h19, h20, z22, rfl, h21⟩ := h16
    have h23 := Fr_trans h12 h20 (by decide +kernel)
    refine En_iEq _ rfl rfl (fun h24 => ?_) (fun h24 => ?_)
    · refine En_Ps 1 (pc' := 28) (lv' := [(0, .ref 159), (1, .int a), (2, .int b)]) (st' := [.int (((Int8.ofInt (-2)).toInt32))]) rfl ?_
      refine En_top (by decide : ((Int8.ofInt (-2)).toInt32).toInt = -2) (fun z25 h26 => ?_)
      exact En_ret (v := some (.int z25)) rfl rfl rfl ⟨h19, h23, z25, rfl, ⟨by first | exact q_f35c5d346c h26 | omega, by first | exact q_12a74e12a3 h26 | omega⟩⟩
    · refine En_Ps 3 (pc' := 20) (lv' := [(0, .ref 159), (1, .int a), (2, .int b)]) (st' := [.int b, .int a, .ref 159]) rfl ?_
      refine En_callV rfl rfl rfl rfl rfl rfl rfl rfl tgz_159 (by decide +kernel) rfl (c_327 σ18 h19 a b (geI rfl (by omega)) (leI rfl (by omega))) (by decide) (by decide) (fun v28 σ29 h27 => ?_)
      obtain ⟨h30, h31, z33, rfl, h32⟩ := h27
      have h34 := Fr_trans h23 h31 (by decide +kernel)
      refine En_Ps 1 (pc' := 28) (lv' := [(0, .ref 159), (1, .int a), (2, .int b)]) (st' := [.int z33]) rfl ?_
      exact En_ret (v := some (.int z33)) rfl rfl rfl ⟨h30, h34, z33, rfl, ⟨by first | exact q_108dc72d76 h32.1 | omega, by first | exact q_cc7dfeacf0 h32.2 | omega⟩⟩
/-- DoorSchoolModel.tries(II)I -/
abbrev P_328 (σ0 : SG) (a : Int32) (b : Int32) : PO := fun v σ => WT σ ∧ Fr [(35, 18), (35, 21), (42, 0), (43, 0), (44, 0), (45, 0), (46, 0)] σ0 σ ∧ ∃ ret : Int32, v = some (.int ret) ∧ True
set_option maxRecDepth 10000 in
set_option maxHeartbeats 4000000 in
theorem c_328 (σ0 : SG) (hσ0 : WT σ0) (a : Int32) (b : Int32) : En 6 137 none mr_328 (P_328 σ0 a b) 0 [(0, .ref 159), (1, .int a), (2, .int b)] [] σ0 := by
  have hF0 : Fr [(35, 18), (35, 21), (42, 0), (43, 0), (44, 0), (45, 0), (46, 0)] σ0 σ0 := Fr_rfl
  refine En_Ps 2 (pc' := 2) (lv' := [(0, .ref 159), (1, .int a), (2, .int b)]) (st' := [.int a, .ref 159]) rfl ?_
  obtain ⟨z2, h1, h3, h4⟩ := WT_peekI hσ0 tgz_160 (by decide +kernel : FT 36 (2 : Int).toNat = (0, 0, 4)) (by decide +kernel)
  refine En_callV rfl rfl rfl rfl rfl rfl rfl rfl tgz_159 (by decide +kernel) rfl (c_254 σ0 hσ0 a z2 h1) (by decide) (by decide) (fun v6 σ7 h5 => ?_)
  obtain ⟨h8, h9, z11, rfl, h10⟩ := h5
  have h12 := Fr_trans hF0 h9 (by decide +kernel)
  refine En_iEq _ rfl rfl (fun h13 => ?_) (fun h13 => ?_)
  · refine En_Ps 1 (pc' := 19) (lv' := [(0, .ref 159), (1, .int a), (2, .int b)]) (st' := [.int (((Int8.ofInt (-2)).toInt32))]) rfl ?_
    refine En_top (by decide : ((Int8.ofInt (-2)).toInt32).toInt = -2) (fun z14 h15 => ?_)
    exact En_ret (v := some (.int z14)) rfl rfl rfl ⟨h8, h12, z14, rfl, trivial⟩
  · refine En_Ps 3 (pc' := 11) (lv' := [(0, .ref 159), (1, .int a), (2, .int b)]) (st' := [.long b.toInt64, .ref 159]) rfl ?_
    have : b.toInt64.toInt = b.toInt := (i2lI rfl)
    refine En_callV rfl rfl rfl rfl rfl rfl rfl rfl tgz_159 (by decide +kernel) rfl (c_259 σ7 h8 b.toInt64) (by decide) (by decide) (fun v17 σ18 h16 => ?_)
    obtain ⟨h19, h20, z22, rfl, h21⟩ := h16
    have h23 := Fr_trans h12 h20 (by decide +kernel)
    refine En_iNe _ rfl rfl (fun h24 => ?_) (fun h24 => ?_)
    · refine En_Ps 3 (pc' := 23) (lv' := [(0, .ref 159), (1, .int a), (2, .int b)]) (st' := [.int b, .int a, .ref 159]) rfl ?_
      refine En_callV rfl rfl rfl rfl rfl rfl rfl rfl tgz_159 (by decide +kernel) rfl (c_327 σ18 h19 a b (geI rfl (by omega)) (leI rfl (by omega))) (by decide) (by decide) (fun v26 σ27 h25 => ?_)
      obtain ⟨h28, h29, z31, rfl, h30⟩ := h25
      have h32 := Fr_trans h23 h29 (by decide +kernel)
      refine En_Ps 3 (pc' := 29) (lv' := [(3, .int z31), (0, .ref 159), (1, .int a), (2, .int b)]) (st' := [.int ((Int32.ofInt (-1))), .int z31]) rfl ?_
      refine En_icNe _ rfl (by decide : (Int32.ofInt (-1)).toInt = -1) rfl (fun h33 => ?_) (fun h33 => ?_)
      · refine En_Ps 3 (pc' := 39) (lv' := [(3, .int z31), (0, .ref 159), (1, .int a), (2, .int b)]) (st' := [.int ((z31 ^^^ b))]) rfl ?_
        refine En_hav (fun z34 => ?_)
        refine En_callS rfl rfl rfl rfl rfl rfl rfl rfl rfl (c_203b σ27 h28 z34) (by decide) (by decide) (fun v36 σ37 h35 => ?_)
        obtain ⟨h38, h39, z41, rfl, h40⟩ := h35
        have h42 := Fr_trans h32 h39 (by decide +kernel)
        exact En_ret (v := some (.int z41)) rfl rfl rfl ⟨h38, h42, z41, rfl, trivial⟩
      · refine En_Ps 2 (pc' := 42) (lv' := [(3, .int z31), (0, .ref 159), (1, .int a), (2, .int b)]) (st' := [.int ((Int32.ofInt (-1)))]) rfl ?_
        refine En_top (by decide : (Int32.ofInt (-1)).toInt = -1) (fun z43 h44 => ?_)
        exact En_ret (v := some (.int z43)) rfl rfl rfl ⟨h28, h32, z43, rfl, trivial⟩
    · refine En_Ps 1 (pc' := 19) (lv' := [(0, .ref 159), (1, .int a), (2, .int b)]) (st' := [.int (((Int8.ofInt (-2)).toInt32))]) rfl ?_
      refine En_top (by decide : ((Int8.ofInt (-2)).toInt32).toInt = -2) (fun z45 h46 => ?_)
      exact En_ret (v := some (.int z45)) rfl rfl rfl ⟨h19, h23, z45, rfl, trivial⟩
/-- DoorSchoolModel.way(II)I -/
abbrev P_330 (σ0 : SG) (a : Int32) (b : Int32) : PO := fun v σ => WT σ ∧ Fr [(35, 18), (35, 21), (42, 0), (43, 0), (44, 0), (45, 0), (46, 0)] σ0 σ ∧ ∃ ret : Int32, v = some (.int ret) ∧ ret.toInt - 1000000 ≤ 0
set_option maxRecDepth 10000 in
set_option maxHeartbeats 4000000 in
theorem c_330 (σ0 : SG) (hσ0 : WT σ0) (a : Int32) (b : Int32) : En 5 113 none mr_330 (P_330 σ0 a b) 0 [(0, .ref 159), (1, .int a), (2, .int b)] [] σ0 := by
  have hF0 : Fr [(35, 18), (35, 21), (42, 0), (43, 0), (44, 0), (45, 0), (46, 0)] σ0 σ0 := Fr_rfl
  refine En_Ps 2 (pc' := 2) (lv' := [(0, .ref 159), (1, .int a), (2, .int b)]) (st' := [.int a, .ref 159]) rfl ?_
  obtain ⟨z2, h1, h3, h4⟩ := WT_peekI hσ0 tgz_160 (by decide +kernel : FT 36 (2 : Int).toNat = (0, 0, 4)) (by decide +kernel)
  refine En_callV rfl rfl rfl rfl rfl rfl rfl rfl tgz_159 (by decide +kernel) rfl (c_254 σ0 hσ0 a z2 h1) (by decide) (by decide) (fun v6 σ7 h5 => ?_)
  obtain ⟨h8, h9, z11, rfl, h10⟩ := h5
  have h12 := Fr_trans hF0 h9 (by decide +kernel)
  refine En_iEq _ rfl rfl (fun h13 => ?_) (fun h13 => ?_)
  · refine En_Ps 1 (pc' := 20) (lv' := [(0, .ref 159), (1, .int a), (2, .int b)]) (st' := [.int (((Int8.ofInt (-2)).toInt32))]) rfl ?_
    refine En_top (by decide : ((Int8.ofInt (-2)).toInt32).toInt = -2) (fun z14 h15 => ?_)
    exact En_ret (v := some (.int z14)) rfl rfl rfl ⟨h8, h12, z14, rfl, (by first | exact q_ec7b2e0fd8 h15 | omega)⟩
  · refine En_Ps 4 (pc' := 12) (lv' := [(0, .ref 159), (1, .int a), (2, .int b)]) (st' := [.long ((Int64.ofNat 1)), .long ((Int64.ofNat 0)), .long b.toInt64]) rfl ?_
    have : b.toInt64.toInt = b.toInt := (i2lI rfl)
    have := (by decide : ((Int64.ofNat 0)).toInt = 0)
    have := (by decide : ((Int64.ofNat 1)).toInt = 1)
    refine En_callS rfl rfl rfl rfl rfl rfl rfl rfl rfl (c_249 σ7 h8 b.toInt64 ((Int64.ofNat 0)) ((Int64.ofNat 1))) (by decide) (by decide) (fun v17 σ18 h16 => ?_)
    obtain ⟨h19, h20, z22, rfl, h21⟩ := h16
    have h23 := Fr_trans h12 h20 (by decide +kernel)
    refine En_iNe _ rfl rfl (fun h24 => ?_) (fun h24 => ?_)
    · refine En_Ps 6 (pc' := 31) (lv' := [(5, .int ((Int32.ofInt 0))), (4, .int ((1000000 : Int32))), (3, .int ((Int32.ofInt 0))), (0, .ref 159), (1, .int a), (2, .int b)]) (st' := []) rfl ?_
      have key31 : ∀ (n31 : Nat) (σ28 : SG) (y25 : Int32) (y26 : Int32) (y27 : Int32), WT σ28 → Fr [(35, 18), (35, 21), (42, 0), (43, 0), (44, 0), (45, 0), (46, 0)] σ0 σ28 → (σ28 160)[(2 : Int).toNat]? = some (.int z2) → 0 ≤ y25.toInt → y25.toInt ≤ 2 → y26.toInt ≤ 1000000 → 0 ≤ y27.toInt → y27.toInt ≤ 3 → y25.toInt - y27.toInt ≤ 0 → -y27.toInt + 3 < (n31 : Int) → En 5 113 none mr_330 (P_330 σ0 a b) 31 [(0, .ref 159), (1, .int a), (2, .int b), (3, .int y25), (4, .int y26), (5, .int y27)] [] σ28 := by
        intro n31
        induction n31 with
        | zero =>
          intro σ28 y25 y26 y27 h29 h30 h31 h32 h33 h34 h35 h36 h37 h38
          first | exact (q_9f1e7068c9 h38 h36).elim | (exfalso; omega)
        | succ n31 ih31 =>
          intro σ28 y25 y26 y27 h29 h30 h31 h32 h33 h34 h35 h36 h37 h38
          refine En_Ps 2 (pc' := 34) (lv' := [(0, .ref 159), (1, .int a), (2, .int b), (3, .int y25), (4, .int y26), (5, .int y27)]) (st' := [.int ((Int32.ofInt 3)), .int y27]) rfl ?_
          refine En_icGe _ rfl (by decide : (Int32.ofInt 3).toInt = 3) rfl (fun h39 => ?_) (fun h39 => ?_)
          · refine En_Ps 1 (pc' := 78) (lv' := [(0, .ref 159), (1, .int a), (2, .int b), (3, .int y25), (4, .int y26), (5, .int y27)]) (st' := [.int b]) rfl ?_
            refine En_iNe _ rfl rfl (fun h40 => ?_) (fun h40 => ?_)
            · refine En_Ps 1 (pc' := 87) (lv' := [(0, .ref 159), (1, .int a), (2, .int b), (3, .int y25), (4, .int y26), (5, .int y27)]) (st' := [.int y26]) rfl ?_
              exact En_ret (v := some (.int y26)) rfl rfl rfl ⟨h29, h30, y26, rfl, (by first | exact q_b319b3558a h34 | omega)⟩
            · refine En_Ps 2 (pc' := 87) (lv' := [(0, .ref 159), (1, .int a), (2, .int b), (3, .int y25), (4, .int y26), (5, .int y27)]) (st' := [.int y25]) rfl ?_
              exact En_ret (v := some (.int y25)) rfl rfl rfl ⟨h29, h30, y25, rfl, (by first | exact q_4c87331f73 h33 | omega)⟩
          · refine En_Ps 3 (pc' := 41) (lv' := [(0, .ref 159), (1, .int a), (2, .int b), (3, .int y25), (4, .int y26), (5, .int y27)]) (st' := [.int y27, .int a, .ref 159]) rfl ?_
            refine En_callV rfl rfl rfl rfl rfl rfl rfl rfl tgz_159 (by decide +kernel) rfl (c_211 σ28 h29 a y27 (geI rfl (by omega)) (leI rfl (by omega))) (by decide) (by decide) (fun v42 σ43 h41 => ?_)
            obtain ⟨h44, h45, z47, rfl, h46⟩ := h41
            have h48 := Fr_trans h30 h45 (by decide +kernel)
            refine En_Ps 1 (pc' := 45) (lv' := [(0, .ref 159), (1, .int a), (2, .int b), (3, .int y25), (4, .int y26), (5, .int y27)]) (st' := [.ref 159, .int z47]) rfl ?_
            refine En_callV rfl rfl rfl rfl rfl rfl rfl rfl tgz_159 (by decide +kernel) rfl (c_295 σ43 h44) (by decide) (by decide) (fun v50 σ51 h49 => ?_)
            obtain ⟨h52, h53, z55, rfl, h54⟩ := h49
            have h56 := Fr_trans h48 h53 (by decide +kernel)
            refine En_Ps 1 (pc' := 49) (lv' := [(0, .ref 159), (1, .int a), (2, .int b), (3, .int y25), (4, .int y26), (5, .int y27)]) (st' := [.int ((z47 ^^^ z55))]) rfl ?_
            refine En_hav (fun z57 => ?_)
            refine En_callS rfl rfl rfl rfl rfl rfl rfl rfl rfl (c_203b σ51 h52 z57) (by decide) (by decide) (fun v59 σ60 h58 => ?_)
            obtain ⟨h61, h62, z64, rfl, h63⟩ := h58
            have h65 := Fr_trans h56 h62 (by decide +kernel)
            refine En_Ps 3 (pc' := 58) (lv' := [(6, .int z64), (0, .ref 159), (1, .int a), (2, .int b), (3, .int y25), (4, .int y26), (5, .int y27)]) (st' := [.int y26, .int z64]) rfl ?_
            refine En_icLt _ rfl rfl rfl (fun h66 => ?_) (fun h66 => ?_)
            · refine En_Ps 5 (pc' := 74) (lv' := [(5, .int ((y27 + Int32.ofInt 1))), (3, .int y27), (4, .int z64), (6, .int z64), (0, .ref 159), (1, .int a), (2, .int b)]) (st' := []) rfl ?_
              refine En_lv1 (addI rfl (by decide : (Int32.ofInt 1).toInt = 1) (by first | exact q_465ab79ac1 h35 | omega) (by first | exact q_6ae830b01d h39 | omega)) (fun z67 h68 => ?_)
              refine En_Ps 1 (pc' := 31) (lv' := [(5, .int z67), (3, .int y27), (4, .int z64), (6, .int z64), (0, .ref 159), (1, .int a), (2, .int b)]) (st' := []) rfl ?_
              refine En_lv (lv := [(0, .ref 159), (1, .int a), (2, .int b), (3, .int y27), (4, .int z64), (5, .int z67)]) ⟨rfl, rfl, rfl, rfl, rfl, rfl, trivial⟩ ?_
              exact ih31 σ60 y27 z64 z67 h61 h65 ((h62 _ _ (inWa tgz_160 (by decide +kernel))).trans ((h53 _ _ (inWa tgz_160 (by decide +kernel))).trans ((h45 _ _ (inWa tgz_160 (by decide +kernel))).trans h31))) (by first | exact q_58e6e51dcc h35 | omega) (by first | exact q_f1519f12c0 h39 | omega) (by first | exact q_d3ae4bc11d h66 h34 | omega) (by first | exact q_35104ce9d3 h68 h35 | omega) (by first | exact q_84805d5d8e h68 h39 | omega) (by first | exact q_6133d71490 h68 | omega) (by first | exact q_6272716eb4 h68 h38 | omega)
            · refine En_Ps 2 (pc' := 74) (lv' := [(5, .int ((y27 + Int32.ofInt 1))), (6, .int z64), (0, .ref 159), (1, .int a), (2, .int b), (3, .int y25), (4, .int y26)]) (st' := []) rfl ?_
              refine En_lv1 (addI rfl (by decide : (Int32.ofInt 1).toInt = 1) (by first | exact q_465ab79ac1 h35 | omega) (by first | exact q_6ae830b01d h39 | omega)) (fun z69 h70 => ?_)
              refine En_Ps 1 (pc' := 31) (lv' := [(5, .int z69), (6, .int z64), (0, .ref 159), (1, .int a), (2, .int b), (3, .int y25), (4, .int y26)]) (st' := []) rfl ?_
              refine En_lv (lv := [(0, .ref 159), (1, .int a), (2, .int b), (3, .int y25), (4, .int y26), (5, .int z69)]) ⟨rfl, rfl, rfl, rfl, rfl, rfl, trivial⟩ ?_
              exact ih31 σ60 y25 y26 z69 h61 h65 ((h62 _ _ (inWa tgz_160 (by decide +kernel))).trans ((h53 _ _ (inWa tgz_160 (by decide +kernel))).trans ((h45 _ _ (inWa tgz_160 (by decide +kernel))).trans h31))) (by first | exact q_58e6e51dcc h32 | omega) (by first | exact q_a85463bd0d h33 | omega) (by first | exact q_2507c1a77a h34 | omega) (by first | exact q_35104ce9d3 h70 h35 | omega) (by first | exact q_84805d5d8e h70 h39 | omega) (by first | exact q_3a5e225620 h37 h70 | omega) (by first | exact q_6272716eb4 h70 h38 | omega)
      have := (by decide : (Int32.ofInt 0).toInt = 0)
      have := (by decide : (1000000 : Int32).toInt = 1000000)
      have := (by decide : (Int32.ofInt 0).toInt = 0)
      refine En_lv (lv := [(0, .ref 159), (1, .int a), (2, .int b), (3, .int ((Int32.ofInt 0))), (4, .int ((1000000 : Int32))), (5, .int ((Int32.ofInt 0)))]) ⟨rfl, rfl, rfl, rfl, rfl, rfl, trivial⟩ ?_
      exact key31 (Int.toNat (3) + 1) σ18 ((Int32.ofInt 0)) ((1000000 : Int32)) ((Int32.ofInt 0)) h19 h23 ((h20 _ _ (inWa tgz_160 (by decide +kernel))).trans ((h9 _ _ (inWa tgz_160 (by decide +kernel))).trans h1)) (by decide) (by decide) (by decide) (by decide) (by decide) (by omega) (by first | exact toN_lt _ | omega)
    · refine En_Ps 1 (pc' := 20) (lv' := [(0, .ref 159), (1, .int a), (2, .int b)]) (st' := [.int (((Int8.ofInt (-2)).toInt32))]) rfl ?_
      refine En_top (by decide : ((Int8.ofInt (-2)).toInt32).toInt = -2) (fun z71 h72 => ?_)
      exact En_ret (v := some (.int z71)) rfl rfl rfl ⟨h19, h23, z71, rfl, (by first | exact q_ec7b2e0fd8 h72 | omega)⟩
/-- DoorSchoolModel.why(II)I -/
abbrev P_331 (σ0 : SG) (a : Int32) (b : Int32) : PO := fun v σ => WT σ ∧ Fr [(35, 21), (45, 0), (46, 0)] σ0 σ ∧ ∃ ret : Int32, v = some (.int ret) ∧ -ret.toInt - 2 ≤ 0 ∧ ret.toInt - 12 ≤ 0
set_option maxRecDepth 10000 in
set_option maxHeartbeats 4000000 in
theorem c_331 (σ0 : SG) (hσ0 : WT σ0) (a : Int32) (b : Int32) : En 3 67 none mr_331 (P_331 σ0 a b) 0 [(0, .ref 159), (1, .int a), (2, .int b)] [] σ0 := by
  have hF0 : Fr [(35, 21), (45, 0), (46, 0)] σ0 σ0 := Fr_rfl
  refine En_Ps 2 (pc' := 2) (lv' := [(0, .ref 159), (1, .int a), (2, .int b)]) (st' := [.int a, .ref 159]) rfl ?_
  obtain ⟨z2, h1, h3, h4⟩ := WT_peekI hσ0 tgz_160 (by decide +kernel : FT 36 (2 : Int).toNat = (0, 0, 4)) (by decide +kernel)
  refine En_callV rfl rfl rfl rfl rfl rfl rfl rfl tgz_159 (by decide +kernel) rfl (c_254 σ0 hσ0 a z2 h1) (by decide) (by decide) (fun v6 σ7 h5 => ?_)
  obtain ⟨h8, h9, z11, rfl, h10⟩ := h5
  have h12 := Fr_trans hF0 h9 (by decide +kernel)
  refine En_iEq _ rfl rfl (fun h13 => ?_) (fun h13 => ?_)
  · refine En_Ps 1 (pc' := 19) (lv' := [(0, .ref 159), (1, .int a), (2, .int b)]) (st' := [.int (((Int8.ofInt (-2)).toInt32))]) rfl ?_
    refine En_top (by decide : ((Int8.ofInt (-2)).toInt32).toInt = -2) (fun z14 h15 => ?_)
    exact En_ret (v := some (.int z14)) rfl rfl rfl ⟨h8, h12, z14, rfl, ⟨by first | exact q_f35c5d346c h15 | omega, by first | exact q_5a5c18c2ab h15 | omega⟩⟩
  · refine En_Ps 3 (pc' := 11) (lv' := [(0, .ref 159), (1, .int a), (2, .int b)]) (st' := [.long b.toInt64, .ref 159]) rfl ?_
    have : b.toInt64.toInt = b.toInt := (i2lI rfl)
    refine En_callV rfl rfl rfl rfl rfl rfl rfl rfl tgz_159 (by decide +kernel) rfl (c_259 σ7 h8 b.toInt64) (by decide) (by decide) (fun v17 σ18 h16 => ?_)
    obtain ⟨h19, h20, z22, rfl, h21⟩ := h16
    have h23 := Fr_trans h12 h20 (by decide +kernel)
    refine En_iNe _ rfl rfl (fun h24 => ?_) (fun h24 => ?_)
    · refine En_Ps 3 (pc' := 23) (lv' := [(0, .ref 159), (1, .int a), (2, .int b)]) (st' := [.int a, .ref 159, .ref 159]) rfl ?_
      refine En_callV rfl rfl rfl rfl rfl rfl rfl rfl tgz_159 (by decide +kernel) rfl (c_305 σ18 h19 a (geI rfl (by omega)) (leI rfl (by omega))) (by decide) (by decide) (fun v26 σ27 h25 => ?_)
      obtain ⟨h28, h29, z31, rfl, h30⟩ := h25
      have h32 := Fr_trans h23 h29 (by decide +kernel)
      refine En_callV rfl rfl rfl rfl rfl rfl rfl rfl tgz_159 (by decide +kernel) rfl (c_271 σ27 h28 z31 (geI rfl (by first | exact q_ef1e8e38bf h30.1 | omega)) (leI rfl (by first | exact q_87d9217d84 h30.2 | omega))) (by decide) (by decide) (fun v34 σ35 h33 => ?_)
      obtain ⟨h36, h37, z39, h40, rfl, h38⟩ := h33
      have h41 := Fr_trans h32 h37 (by decide +kernel)
      refine En_Ps 4 (pc' := 33) (lv' := [(0, .ref 159), (1, .int a), (2, .int b)]) (st' := [.int a, .ref 159, .ref 159, .ref 159]) rfl ?_
      refine En_callV rfl rfl rfl rfl rfl rfl rfl rfl tgz_159 (by decide +kernel) rfl (c_305 σ35 h36 a (geI rfl (by omega)) (leI rfl (by omega))) (by decide) (by decide) (fun v43 σ44 h42 => ?_)
      obtain ⟨h45, h46, z48, rfl, h47⟩ := h42
      have h49 := Fr_trans h41 h46 (by decide +kernel)
      refine En_Ps 1 (pc' := 37) (lv' := [(0, .ref 159), (1, .int a), (2, .int b)]) (st' := [.int ((Int32.ofInt 0)), .int z48, .ref 159, .ref 159]) rfl ?_
      have := (by decide : ((Int32.ofInt 0)).toInt = 0)
      obtain ⟨z50, h51, h52, h53⟩ := WT_peekJ (J := (4 * z48.toInt + ((Int32.ofInt 0)).toInt + 10)) (l := 0) (u := 2) h45 tgz_160 (by decide +kernel) (by omega) (lnI (by decide +kernel : LN _ = 226) (by omega)) (FTrow 36 10 4 4 (by decide +kernel) (by omega) (by omega) (by omega))
      have := (by decide : ((Int32.ofInt 0)).toInt = 0)
      refine En_callV rfl rfl rfl rfl rfl rfl rfl rfl tgz_159 (by decide +kernel) rfl (c_290a σ44 h45 z48 ((Int32.ofInt 0)) (geI rfl (by first | exact q_ef1e8e38bf h47.1 | omega)) (leI rfl (by first | exact q_87d9217d84 h47.2 | omega)) (geI (by decide : (Int32.ofInt 0).toInt = 0) (by decide)) (leI (by decide : (Int32.ofInt 0).toInt = 0) (by decide)) z50 h51) (by decide) (by decide) (fun v55 σ56 h54 => ?_)
      obtain ⟨h57, h58, z60, rfl, h59⟩ := h54
      have h61 := Fr_trans h49 h58 (by decide +kernel)
      refine En_Ps 1 (pc' := 41) (lv' := [(0, .ref 159), (1, .int a), (2, .int b)]) (st' := [.int b, .int z60, .ref 159]) rfl ?_
      refine En_callV rfl rfl rfl rfl rfl rfl rfl rfl tgz_159 (by decide +kernel) rfl (c_204 σ56 h57 z60 b z39 ((h58 _ _ (inW tgz_159 (by decide +kernel))).trans ((h46 _ _ (inW tgz_159 (by decide +kernel))).trans h40))) (by decide) (by decide) (fun v63 σ64 h62 => ?_)
      obtain ⟨h65, h66, z68, rfl, h67⟩ := h62
      have h69 := Fr_trans h61 h66 (by decide +kernel)
      exact En_ret (v := some (.int z68)) rfl rfl rfl ⟨h65, h69, z68, rfl, ⟨by first | exact q_108dc72d76 h67.1 | omega, by first | exact q_3966d47284 h67.2.2 h38.2 | omega⟩⟩
    · refine En_Ps 1 (pc' := 19) (lv' := [(0, .ref 159), (1, .int a), (2, .int b)]) (st' := [.int (((Int8.ofInt (-2)).toInt32))]) rfl ?_
      refine En_top (by decide : ((Int8.ofInt (-2)).toInt32).toInt = -2) (fun z70 h71 => ?_)
      exact En_ret (v := some (.int z70)) rfl rfl rfl ⟨h19, h23, z70, rfl, ⟨by first | exact q_f35c5d346c h71 | omega, by first | exact q_5a5c18c2ab h71 | omega⟩⟩
/-- DoorSchoolModel.write(IIJ)I -/
abbrev P_333 (σ0 : SG) (a : Int32) (b : Int32) (c : Int64) : PO := fun v σ => WT σ ∧ Fr [(55, 0)] σ0 σ ∧ ∃ ret : Int32, v = some (.int ret) ∧ -ret.toInt - 7 ≤ 0 ∧ ret.toInt ≤ 0
set_option maxRecDepth 10000 in
set_option maxHeartbeats 4000000 in
theorem c_333 (σ0 : SG) (hσ0 : WT σ0) (a : Int32) (b : Int32) (c : Int64) : En 2 45 none mr_333 (P_333 σ0 a b c) 0 [(0, .ref 159), (1, .int a), (2, .int b), (3, .long c)] [] σ0 := by
  have hF0 : Fr [(55, 0)] σ0 σ0 := Fr_rfl
  refine En_Ps 1 (pc' := 1) (lv' := [(0, .ref 159), (1, .int a), (2, .int b), (3, .long c)]) (st' := [.int a]) rfl ?_
  refine En_callS rfl rfl rfl rfl rfl rfl rfl rfl rfl (c_266 σ0 hσ0 a) (by decide) (by decide) (fun v2 σ3 h1 => ?_)
  obtain ⟨h4, h5, z7, rfl, h6⟩ := h1
  have h8 := Fr_trans hF0 h5 (by decide +kernel)
  refine En_iNe _ rfl rfl (fun h9 => ?_) (fun h9 => ?_)
  · refine En_Ps 1 (pc' := 11) (lv' := [(0, .ref 159), (1, .int a), (2, .int b), (3, .long c)]) (st' := [.ref 159]) rfl ?_
    refine En_getU (j := 32) (u := 177) (g' := 53) (q := 0) rfl rfl rfl tgz_159 (by decide +kernel) h4 (by decide +kernel) (by decide +kernel) (fun h10 => ?_)
    refine En_Ps 1 (pc' := 15) (lv' := [(0, .ref 159), (1, .int a), (2, .int b), (3, .long c)]) (st' := [.int a, .ref 177]) rfl ?_
    refine En_iald (l := (-1)) (u := 60) rfl rfl tgz_177 (by decide +kernel) h4 (by omega) (lnI (by decide +kernel : LN _ = 4) (by omega)) (FTsgl (by decide +kernel)) (fun z13 h12 h14 h15 => ?_)
    refine En_Ps 1 (pc' := 17) (lv' := [(0, .ref 159), (1, .int a), (2, .int b), (3, .long c)]) (st' := [.int ((Int32.ofInt (-1))), .int z13]) rfl ?_
    refine En_icNe _ rfl (by decide : (Int32.ofInt (-1)).toInt = -1) rfl (fun h16 => ?_) (fun h16 => ?_)
    · refine En_Ps 4 (pc' := 27) (lv' := [(0, .ref 159), (1, .int a), (2, .int b), (3, .long c)]) (st' := [.ref 159, .long ((Int64.ofNat 0)), .long b.toInt64]) rfl ?_
      refine En_getK (j := 32) h10 rfl rfl rfl tgz_159 (by decide +kernel) ?_
      refine En_Ps 1 (pc' := 31) (lv' := [(0, .ref 159), (1, .int a), (2, .int b), (3, .long c)]) (st' := [.int a, .ref 177, .long ((Int64.ofNat 0)), .long b.toInt64]) rfl ?_
      refine En_ialdK h12 rfl rfl tgz_177 (by decide +kernel) h4 (by omega) (lnI (by decide +kernel : LN _ = 4) (by omega)) ?_
      refine En_Ps 2 (pc' := 34) (lv' := [(0, .ref 159), (1, .int a), (2, .int b), (3, .long c)]) (st' := [.int ((z13 - ((Int32.ofInt 1)))), .long ((Int64.ofNat 0)), .long b.toInt64]) rfl ?_
      refine En_top (subI rfl (by decide : (Int32.ofInt 1).toInt = 1) (by first | exact q_ed08186ac8 h16 h14 | omega) (by first | exact q_b13050f55d h15 | omega)) (fun z18 h19 => ?_)
      refine En_Ps 1 (pc' := 35) (lv' := [(0, .ref 159), (1, .int a), (2, .int b), (3, .long c)]) (st' := [.long z18.toInt64, .long ((Int64.ofNat 0)), .long b.toInt64]) rfl ?_
      have : b.toInt64.toInt = b.toInt := (i2lI rfl)
      have := (by decide : ((Int64.ofNat 0)).toInt = 0)
      have : z18.toInt64.toInt = z18.toInt := (i2lI rfl)
      refine En_callS rfl rfl rfl rfl rfl rfl rfl rfl rfl (c_249 σ3 h4 b.toInt64 ((Int64.ofNat 0)) z18.toInt64) (by decide) (by decide) (fun v21 σ22 h20 => ?_)
      obtain ⟨h23, h24, z26, rfl, h25⟩ := h20
      have h27 := Fr_trans h8 h24 (by decide +kernel)
      refine En_iNe _ rfl rfl (fun h28 => ?_) (fun h28 => ?_)
      · refine En_Ps 1 (pc' := 45) (lv' := [(0, .ref 159), (1, .int a), (2, .int b), (3, .long c)]) (st' := [.ref 159]) rfl ?_
        refine En_getU (j := 34) (u := 179) (g' := 55) (q := 0) rfl rfl rfl tgz_159 (by decide +kernel) h23 (by decide +kernel) (by decide +kernel) (fun h29 => ?_)
        refine En_Ps 3 (pc' := 52) (lv' := [(0, .ref 159), (1, .int a), (2, .int b), (3, .long c)]) (st' := [.int (((((Int8.ofInt 60).toInt32)) * a)), .ref 179]) rfl ?_
        refine En_top (mulI (by decide : ((Int8.ofInt 60).toInt32).toInt = 60) rfl (Z := 60 * a.toInt) (by first | exact q_7a16b37b72 | omega) (by omega) (by omega)) (fun z31 h32 => ?_)
        refine En_Ps 2 (pc' := 54) (lv' := [(0, .ref 159), (1, .int a), (2, .int b), (3, .long c)]) (st' := [.int ((z31 + b)), .ref 179]) rfl ?_
        refine En_top (addI rfl rfl (by omega) (by omega)) (fun z33 h34 => ?_)
        refine En_Ps 2 (pc' := 56) (lv' := [(0, .ref 159), (1, .int a), (2, .int b), (3, .long c)]) (st' := [.ref 159, .long c, .int z33, .ref 179]) rfl ?_
        refine En_getU (j := 33) (u := 178) (g' := 54) (q := 0) rfl rfl rfl tgz_159 (by decide +kernel) h23 (by decide +kernel) (by decide +kernel) (fun h35 => ?_)
        refine En_Ps 1 (pc' := 60) (lv' := [(0, .ref 159), (1, .int a), (2, .int b), (3, .long c)]) (st' := [.int a, .ref 178, .long c, .int z33, .ref 179]) rfl ?_
        refine En_iald (l := 0) (u := 3) rfl rfl tgz_178 (by decide +kernel) h23 (by omega) (lnI (by decide +kernel : LN _ = 4) (by omega)) (FTsgl (by decide +kernel)) (fun z38 h37 h39 h40 => ?_)
        refine En_callS rfl rfl rfl rfl rfl rfl rfl rfl rfl (c_208 σ22 h23 c z38) (by decide) (by decide) (fun v42 σ43 h41 => ?_)
        obtain ⟨h44, h45, z47, rfl, h46⟩ := h41
        have h48 := Fr_trans h27 h45 (by decide +kernel)
        refine En_last (l := (-9223372036854775808)) (u := 9223372036854775807) rfl rfl tgz_179 (by decide +kernel) (by omega) (lnI (by decide +kernel : LN _ = 240) (by omega)) (FTsgl (by decide +kernel)) (fullL _) h44 h48 (by decide +kernel) (fun σ49 h50 h51 h52 h53 => ?_)
        refine En_Ps 1 (pc' := 66) (lv' := [(0, .ref 159), (1, .int a), (2, .int b), (3, .long c)]) (st' := [.int ((Int32.ofInt 0))]) rfl ?_
        refine En_top (by decide : (Int32.ofInt 0).toInt = 0) (fun z54 h55 => ?_)
        exact En_ret (v := some (.int z54)) rfl rfl rfl ⟨h50, h51, z54, rfl, ⟨by first | exact q_6d44640201 h55 | omega, by first | exact q_c5d285f1b9 h55 | omega⟩⟩
      · refine En_Ps 1 (pc' := 43) (lv' := [(0, .ref 159), (1, .int a), (2, .int b), (3, .long c)]) (st' := [.int (((Int8.ofInt (-7)).toInt32))]) rfl ?_
        refine En_top (by decide : ((Int8.ofInt (-7)).toInt32).toInt = -7) (fun z56 h57 => ?_)
        exact En_ret (v := some (.int z56)) rfl rfl rfl ⟨h23, h27, z56, rfl, ⟨by first | exact q_5f0d62c7c2 h57 | omega, by first | exact q_d916b56ab6 h57 | omega⟩⟩
    · refine En_Ps 1 (pc' := 22) (lv' := [(0, .ref 159), (1, .int a), (2, .int b), (3, .long c)]) (st' := [.int (((Int8.ofInt (-6)).toInt32))]) rfl ?_
      refine En_top (by decide : ((Int8.ofInt (-6)).toInt32).toInt = -6) (fun z58 h59 => ?_)
      exact En_ret (v := some (.int z58)) rfl rfl rfl ⟨h4, h8, z58, rfl, ⟨by first | exact q_4b9e07ab0d h59 | omega, by first | exact q_9bcb887de1 h59 | omega⟩⟩
  · refine En_Ps 1 (pc' := 9) (lv' := [(0, .ref 159), (1, .int a), (2, .int b), (3, .long c)]) (st' := [.int (((Int8.ofInt (-2)).toInt32))]) rfl ?_
    refine En_top (by decide : ((Int8.ofInt (-2)).toInt32).toInt = -2) (fun z60 h61 => ?_)
    exact En_ret (v := some (.int z60)) rfl rfl rfl ⟨h4, h8, z60, rfl, ⟨by first | exact q_070af0ac3b h61 | omega, by first | exact q_bbb39ffa1e h61 | omega⟩⟩
/-- DoorSchoolModel.wrong(I)I -/
abbrev P_334 (σ0 : SG) (a : Int32) : PO := fun v σ => WT σ ∧ Fr [(35, 18), (35, 21), (42, 0), (43, 0), (44, 0), (45, 0), (46, 0)] σ0 σ ∧ ∃ ret : Int32, v = some (.int ret) ∧ -ret.toInt - 2 ≤ 0 ∧ ret.toInt - 11 ≤ 0
set_option maxRecDepth 10000 in
set_option maxHeartbeats 4000000 in
theorem c_334 (σ0 : SG) (hσ0 : WT σ0) (a : Int32) : En 5 112 none mr_334 (P_334 σ0 a) 0 [(0, .ref 159), (1, .int a)] [] σ0 := by
  have hF0 : Fr [(35, 18), (35, 21), (42, 0), (43, 0), (44, 0), (45, 0), (46, 0)] σ0 σ0 := Fr_rfl
  refine En_Ps 2 (pc' := 2) (lv' := [(0, .ref 159), (1, .int a)]) (st' := [.int a, .ref 159]) rfl ?_
  obtain ⟨z2, h1, h3, h4⟩ := WT_peekI hσ0 tgz_160 (by decide +kernel : FT 36 (2 : Int).toNat = (0, 0, 4)) (by decide +kernel)
  refine En_callV rfl rfl rfl rfl rfl rfl rfl rfl tgz_159 (by decide +kernel) rfl (c_254 σ0 hσ0 a z2 h1) (by decide) (by decide) (fun v6 σ7 h5 => ?_)
  obtain ⟨h8, h9, z11, rfl, h10⟩ := h5
  have h12 := Fr_trans hF0 h9 (by decide +kernel)
  refine En_iNe _ rfl rfl (fun h13 => ?_) (fun h13 => ?_)
  · refine En_Ps 2 (pc' := 13) (lv' := [(0, .ref 159), (1, .int a)]) (st' := [.int a, .ref 159]) rfl ?_
    refine En_callV rfl rfl rfl rfl rfl rfl rfl rfl tgz_159 (by decide +kernel) rfl (c_213 σ7 h8 a (geI rfl (by omega)) (leI rfl (by omega))) (by decide) (by decide) (fun v15 σ16 h14 => ?_)
    obtain ⟨h17, h18, z20, h21, z22, rfl, h19⟩ := h14
    have h23 := Fr_trans h12 h18 (by decide +kernel)
    refine En_Ps 3 (pc' := 19) (lv' := [(3, .int ((Int32.ofInt 0))), (2, .int z22), (0, .ref 159), (1, .int a)]) (st' := []) rfl ?_
    have key19 : ∀ (n19 : Nat) (σ25 : SG) (y24 : Int32), WT σ25 → Fr [(35, 18), (35, 21), (42, 0), (43, 0), (44, 0), (45, 0), (46, 0)] σ0 σ25 → (σ25 160)[(2 : Int).toNat]? = some (.int z2) → (σ25 159)[21]? = some (.int z20) → 0 ≤ y24.toInt → y24.toInt ≤ 12 → -y24.toInt + 12 < (n19 : Int) → En 5 112 none mr_334 (P_334 σ0 a) 19 [(0, .ref 159), (1, .int a), (2, .int z22), (3, .int y24)] [] σ25 := by
      intro n19
      induction n19 with
      | zero =>
        intro σ25 y24 h26 h27 h28 h29 h30 h31 h32
        first | exact (q_78fadfaa17 h32 h31).elim | (exfalso; omega)
      | succ n19 ih19 =>
        intro σ25 y24 h26 h27 h28 h29 h30 h31 h32
        refine En_Ps 2 (pc' := 21) (lv' := [(0, .ref 159), (1, .int a), (2, .int z22), (3, .int y24)]) (st' := [.ref 159, .int y24]) rfl ?_
        refine En_getU (j := 1) (u := 160) (g' := 36) (q := 0) rfl rfl rfl tgz_159 (by decide +kernel) h26 (by decide +kernel) (by decide +kernel) (fun h33 => ?_)
        refine En_Ps 1 (pc' := 25) (lv' := [(0, .ref 159), (1, .int a), (2, .int z22), (3, .int y24)]) (st' := [.int ((Int32.ofInt 3)), .ref 160, .int y24]) rfl ?_
        refine En_iald (l := 0) (u := 12) rfl (by decide : (Int32.ofInt 3).toInt = 3) tgz_160 (by decide +kernel) h26 (by decide) (lnI (by decide +kernel : LN _ = 226) (by decide)) (by decide +kernel) (fun z36 h35 h37 h38 => ?_)
        refine En_icGe _ rfl rfl rfl (fun h39 => ?_) (fun h39 => ?_)
        · refine En_Ps 1 (pc' := 47) (lv' := [(0, .ref 159), (1, .int a), (2, .int z22), (3, .int y24)]) (st' := [.int ((Int32.ofInt (-1)))]) rfl ?_
          refine En_top (by decide : (Int32.ofInt (-1)).toInt = -1) (fun z40 h41 => ?_)
          exact En_ret (v := some (.int z40)) rfl rfl rfl ⟨h26, h27, z40, rfl, ⟨by first | exact q_e1de8c7867 h41 | omega, by first | exact q_c7dfa9697a h41 | omega⟩⟩
        · refine En_Ps 3 (pc' := 32) (lv' := [(0, .ref 159), (1, .int a), (2, .int z22), (3, .int y24)]) (st' := [.int y24, .int z22, .ref 159]) rfl ?_
          refine En_callV rfl rfl rfl rfl rfl rfl rfl rfl tgz_159 (by decide +kernel) rfl (c_262 σ25 h26 z22 y24 (geI rfl (by first | exact q_58e6e51dcc h30 | omega)) (leI rfl (by first | exact q_a30ae353ab h39 h38 | omega))) (by decide) (by decide) (fun v43 σ44 h42 => ?_)
          obtain ⟨h45, h46, z48, rfl, h47⟩ := h42
          have h49 := Fr_trans h27 h46 (by decide +kernel)
          refine En_iNe _ rfl rfl (fun h50 => ?_) (fun h50 => ?_)
          · refine En_Ps 1 (pc' := 43) (lv' := [(3, .int ((y24 + Int32.ofInt 1))), (0, .ref 159), (1, .int a), (2, .int z22)]) (st' := []) rfl ?_
            refine En_lv1 (addI rfl (by decide : (Int32.ofInt 1).toInt = 1) (by first | exact q_465ab79ac1 h30 | omega) (by first | exact q_1fdc13c345 h31 | omega)) (fun z51 h52 => ?_)
            refine En_Ps 1 (pc' := 19) (lv' := [(3, .int z51), (0, .ref 159), (1, .int a), (2, .int z22)]) (st' := []) rfl ?_
            refine En_lv (lv := [(0, .ref 159), (1, .int a), (2, .int z22), (3, .int z51)]) ⟨rfl, rfl, rfl, rfl, trivial⟩ ?_
            exact ih19 σ44 z51 h45 h49 ((h46 _ _ (inWa tgz_160 (by decide +kernel))).trans h28) ((h46 _ _ (inW tgz_159 (by decide +kernel))).trans h29) (by first | exact q_35104ce9d3 h52 h30 | omega) (by first | exact q_a2b7b6f4bb h52 h39 h38 | omega) (by first | exact q_4568c58b19 h52 h32 | omega)
          · refine En_Ps 1 (pc' := 39) (lv' := [(0, .ref 159), (1, .int a), (2, .int z22), (3, .int y24)]) (st' := [.int y24]) rfl ?_
            exact En_ret (v := some (.int y24)) rfl rfl rfl ⟨h45, h49, y24, rfl, ⟨by first | exact q_ea7f0ffdb1 h30 | omega, by first | exact q_8286cce19c h39 h38 | omega⟩⟩
    have := (by decide : (Int32.ofInt 0).toInt = 0)
    refine En_lv (lv := [(0, .ref 159), (1, .int a), (2, .int z22), (3, .int ((Int32.ofInt 0)))]) ⟨rfl, rfl, rfl, rfl, trivial⟩ ?_
    exact key19 (Int.toNat (12) + 1) σ16 ((Int32.ofInt 0)) h17 h23 ((h18 _ _ (inWa tgz_160 (by decide +kernel))).trans ((h9 _ _ (inWa tgz_160 (by decide +kernel))).trans h1)) h21 (by decide) (by decide) (by first | exact toN_lt _ | omega)
  · refine En_Ps 1 (pc' := 10) (lv' := [(0, .ref 159), (1, .int a)]) (st' := [.int (((Int8.ofInt (-2)).toInt32))]) rfl ?_
    refine En_top (by decide : ((Int8.ofInt (-2)).toInt32).toInt = -2) (fun z53 h54 => ?_)
    exact En_ret (v := some (.int z53)) rfl rfl rfl ⟨h8, h12, z53, rfl, ⟨by first | exact q_f35c5d346c h54 | omega, by first | exact q_b48f32a161 h54 | omega⟩⟩
/-- DoorSchoolModel.years(IIII)I -/
abbrev P_335 (σ0 : SG) (a : Int32) (b : Int32) (c : Int32) (d : Int32) : PO := fun v σ => WT σ ∧ Fr [(35, 18), (35, 21), (35, 31), (42, 0), (43, 0), (44, 0), (45, 0), (46, 0)] σ0 σ ∧ ∃ ret : Int32, v = some (.int ret) ∧ -ret.toInt - 2 ≤ 0 ∧ ret.toInt - 20 ≤ 0
set_option maxRecDepth 10000 in
set_option maxHeartbeats 4000000 in
theorem c_335 (σ0 : SG) (hσ0 : WT σ0) (a : Int32) (b : Int32) (c : Int32) (d : Int32) : En 6 139 none mr_335 (P_335 σ0 a b c d) 0 [(0, .ref 159), (1, .int a), (2, .int b), (3, .int c), (4, .int d)] [] σ0 := by
  have hF0 : Fr [(35, 18), (35, 21), (35, 31), (42, 0), (43, 0), (44, 0), (45, 0), (46, 0)] σ0 σ0 := Fr_rfl
  refine En_Ps 1 (pc' := 1) (lv' := [(0, .ref 159), (1, .int a), (2, .int b), (3, .int c), (4, .int d)]) (st' := [.int a]) rfl ?_
  refine En_callS rfl rfl rfl rfl rfl rfl rfl rfl rfl (c_265 σ0 hσ0 a) (by decide) (by decide) (fun v2 σ3 h1 => ?_)
  obtain ⟨h4, h5, z7, rfl, h6⟩ := h1
  have h8 := Fr_trans hF0 h5 (by decide +kernel)
  refine En_iEq _ rfl rfl (fun h9 => ?_) (fun h9 => ?_)
  · refine En_Ps 1 (pc' := 29) (lv' := [(0, .ref 159), (1, .int a), (2, .int b), (3, .int c), (4, .int d)]) (st' := [.int (((Int8.ofInt (-2)).toInt32))]) rfl ?_
    refine En_top (by decide : ((Int8.ofInt (-2)).toInt32).toInt = -2) (fun z10 h11 => ?_)
    exact En_ret (v := some (.int z10)) rfl rfl rfl ⟨h4, h8, z10, rfl, ⟨by first | exact q_f35c5d346c h11 | omega, by first | exact q_1be818c737 h11 | omega⟩⟩
  · refine En_Ps 4 (pc' := 13) (lv' := [(0, .ref 159), (1, .int a), (2, .int b), (3, .int c), (4, .int d)]) (st' := [.long ((20 : Int64)), .long ((Int64.ofNat 1)), .long b.toInt64]) rfl ?_
    have : b.toInt64.toInt = b.toInt := (i2lI rfl)
    have := (by decide : ((Int64.ofNat 1)).toInt = 1)
    have := (by decide : ((20 : Int64)).toInt = 20)
    refine En_callS rfl rfl rfl rfl rfl rfl rfl rfl rfl (c_249 σ3 h4 b.toInt64 ((Int64.ofNat 1)) ((20 : Int64))) (by decide) (by decide) (fun v13 σ14 h12 => ?_)
    obtain ⟨h15, h16, z18, rfl, h17⟩ := h12
    have h19 := Fr_trans h8 h16 (by decide +kernel)
    refine En_iEq _ rfl rfl (fun h20 => ?_) (fun h20 => ?_)
    · refine En_Ps 1 (pc' := 29) (lv' := [(0, .ref 159), (1, .int a), (2, .int b), (3, .int c), (4, .int d)]) (st' := [.int (((Int8.ofInt (-2)).toInt32))]) rfl ?_
      refine En_top (by decide : ((Int8.ofInt (-2)).toInt32).toInt = -2) (fun z21 h22 => ?_)
      exact En_ret (v := some (.int z21)) rfl rfl rfl ⟨h15, h19, z21, rfl, ⟨by first | exact q_f35c5d346c h22 | omega, by first | exact q_1be818c737 h22 | omega⟩⟩
    · refine En_Ps 2 (pc' := 21) (lv' := [(0, .ref 159), (1, .int a), (2, .int b), (3, .int c), (4, .int d)]) (st' := [.int c, .ref 159]) rfl ?_
      obtain ⟨z24, h23, h25, h26⟩ := WT_peekI h15 tgz_160 (by decide +kernel : FT 36 (2 : Int).toNat = (0, 0, 4)) (by decide +kernel)
      refine En_callV rfl rfl rfl rfl rfl rfl rfl rfl tgz_159 (by decide +kernel) rfl (c_254 σ14 h15 c z24 h23) (by decide) (by decide) (fun v28 σ29 h27 => ?_)
      obtain ⟨h30, h31, z33, rfl, h32⟩ := h27
      have h34 := Fr_trans h19 h31 (by decide +kernel)
      refine En_iNe _ rfl rfl (fun h35 => ?_) (fun h35 => ?_)
      · refine En_Ps 4 (pc' := 36) (lv' := [(6, .int ((Int32.ofInt 0))), (5, .int ((Int32.ofInt 0))), (0, .ref 159), (1, .int a), (2, .int b), (3, .int c), (4, .int d)]) (st' := []) rfl ?_
        have key36 : ∀ (n36 : Nat) (σ38 : SG) (y36 : Int32) (y37 : Int32), WT σ38 → Fr [(35, 18), (35, 21), (35, 31), (42, 0), (43, 0), (44, 0), (45, 0), (46, 0)] σ0 σ38 → (σ38 160)[(2 : Int).toNat]? = some (.int z24) → 0 ≤ y36.toInt → y36.toInt ≤ 20 → 0 ≤ y37.toInt → y37.toInt ≤ 20 → y37.toInt - b.toInt ≤ 0 → y36.toInt - y37.toInt ≤ 0 → b.toInt - y37.toInt < (n36 : Int) → En 6 139 none mr_335 (P_335 σ0 a b c d) 36 [(0, .ref 159), (1, .int a), (2, .int b), (3, .int c), (4, .int d), (5, .int y36), (6, .int y37)] [] σ38 := by
          intro n36
          induction n36 with
          | zero =>
            intro σ38 y36 y37 h39 h40 h41 h42 h43 h44 h45 h46 h47 h48
            first | exact (q_14257feae7 h46 h48).elim | (exfalso; omega)
          | succ n36 ih36 =>
            intro σ38 y36 y37 h39 h40 h41 h42 h43 h44 h45 h46 h47 h48
            refine En_Ps 2 (pc' := 39) (lv' := [(0, .ref 159), (1, .int a), (2, .int b), (3, .int c), (4, .int d), (5, .int y36), (6, .int y37)]) (st' := [.int b, .int y37]) rfl ?_
            refine En_icGe _ rfl rfl rfl (fun h49 => ?_) (fun h49 => ?_)
            · refine En_Ps 1 (pc' := 80) (lv' := [(0, .ref 159), (1, .int a), (2, .int b), (3, .int c), (4, .int d), (5, .int y36), (6, .int y37)]) (st' := [.int y36]) rfl ?_
              exact En_ret (v := some (.int y36)) rfl rfl rfl ⟨h39, h40, y36, rfl, ⟨by first | exact q_ea7f0ffdb1 h42 | omega, by first | exact q_dfa22fc04d h43 | omega⟩⟩
            · refine En_Ps 8 (pc' := 52) (lv' := [(0, .ref 159), (1, .int a), (2, .int b), (3, .int c), (4, .int d), (5, .int y36), (6, .int y37)]) (st' := [.long ((a.toInt64 + y37.toInt64)), .ref 159, .ref 159, .int y36]) rfl ?_
              refine En_topL (addL (i2lI rfl) (i2lI rfl) (by omega) (by omega)) (fun z50 h51 => ?_)
              refine En_Ps 1 (pc' := 53) (lv' := [(0, .ref 159), (1, .int a), (2, .int b), (3, .int c), (4, .int d), (5, .int y36), (6, .int y37)]) (st' := [.int c, .long z50, .ref 159, .ref 159, .int y36]) rfl ?_
              refine En_callV rfl rfl rfl rfl rfl rfl rfl rfl tgz_159 (by decide +kernel) rfl (c_316 σ38 h39 z50 c (geI rfl (by omega)) (leI rfl (by omega)) (by omega) (by omega)) (by decide) (by decide) (fun v53 σ54 h52 => ?_)
              obtain ⟨h55, h56, z58, rfl, h57⟩ := h52
              have h59 := Fr_trans h40 h56 (by decide +kernel)
              refine En_callV rfl rfl rfl rfl rfl rfl rfl rfl tgz_159 (by decide +kernel) rfl (c_283 σ54 h55 z58) (by decide) (by decide) (fun v61 σ62 h60 => ?_)
              obtain ⟨h63, h64, z66, rfl, h65⟩ := h60
              have h67 := Fr_trans h59 h64 (by decide +kernel)
              refine En_Ps 1 (pc' := 61) (lv' := [(0, .ref 159), (1, .int a), (2, .int b), (3, .int c), (4, .int d), (5, .int y36), (6, .int y37)]) (st' := [.int d, .int z66, .int y36]) rfl ?_
              refine En_icLt _ rfl rfl rfl (fun h68 => ?_) (fun h68 => ?_)
              · refine En_Ps 2 (pc' := 70) (lv' := [(0, .ref 159), (1, .int a), (2, .int b), (3, .int c), (4, .int d), (5, .int y36), (6, .int y37)]) (st' := [.int ((y36 + ((Int32.ofInt 0))))]) rfl ?_
                refine En_top (addI rfl (by decide : (Int32.ofInt 0).toInt = 0) (by first | exact q_2f569dfca1 h42 | omega) (by first | exact q_3717dce636 h43 | omega)) (fun z69 h70 => ?_)
                refine En_Ps 2 (pc' := 75) (lv' := [(6, .int ((y37 + Int32.ofInt 1))), (5, .int z69), (0, .ref 159), (1, .int a), (2, .int b), (3, .int c), (4, .int d)]) (st' := []) rfl ?_
                refine En_lv1 (addI rfl (by decide : (Int32.ofInt 1).toInt = 1) (by first | exact q_465ab79ac1 h44 | omega) (by first | exact q_ac83b3f23b h45 | omega)) (fun z71 h72 => ?_)
                refine En_Ps 1 (pc' := 36) (lv' := [(6, .int z71), (5, .int z69), (0, .ref 159), (1, .int a), (2, .int b), (3, .int c), (4, .int d)]) (st' := []) rfl ?_
                refine En_lv (lv := [(0, .ref 159), (1, .int a), (2, .int b), (3, .int c), (4, .int d), (5, .int z69), (6, .int z71)]) ⟨rfl, rfl, rfl, rfl, rfl, rfl, rfl, trivial⟩ ?_
                exact ih36 σ62 z69 z71 h63 h67 ((h64 _ _ (inWa tgz_160 (by decide +kernel))).trans ((h56 _ _ (inWa tgz_160 (by decide +kernel))).trans h41)) (by first | exact q_771c4e5138 h70 h42 | omega) (by first | exact q_102453ef71 h70 h43 | omega) (by first | exact q_35104ce9d3 h72 h44 | omega) (by omega) (by first | exact q_ae2dbf4292 h49 h72 | omega) (by first | exact q_969c4fd5e6 h70 h72 h47 | omega) (by first | exact q_8d03a5a7cb h72 h48 | omega)
              · refine En_Ps 3 (pc' := 70) (lv' := [(0, .ref 159), (1, .int a), (2, .int b), (3, .int c), (4, .int d), (5, .int y36), (6, .int y37)]) (st' := [.int ((y36 + ((Int32.ofInt 1))))]) rfl ?_
                refine En_top (addI rfl (by decide : (Int32.ofInt 1).toInt = 1) (by first | exact q_465ab79ac1 h42 | omega) (by first | exact q_ac83b3f23b h43 | omega)) (fun z73 h74 => ?_)
                refine En_Ps 2 (pc' := 75) (lv' := [(6, .int ((y37 + Int32.ofInt 1))), (5, .int z73), (0, .ref 159), (1, .int a), (2, .int b), (3, .int c), (4, .int d)]) (st' := []) rfl ?_
                refine En_lv1 (addI rfl (by decide : (Int32.ofInt 1).toInt = 1) (by first | exact q_465ab79ac1 h44 | omega) (by first | exact q_ac83b3f23b h45 | omega)) (fun z75 h76 => ?_)
                refine En_Ps 1 (pc' := 36) (lv' := [(6, .int z75), (5, .int z73), (0, .ref 159), (1, .int a), (2, .int b), (3, .int c), (4, .int d)]) (st' := []) rfl ?_
                refine En_lv (lv := [(0, .ref 159), (1, .int a), (2, .int b), (3, .int c), (4, .int d), (5, .int z73), (6, .int z75)]) ⟨rfl, rfl, rfl, rfl, rfl, rfl, rfl, trivial⟩ ?_
                exact ih36 σ62 z73 z75 h63 h67 ((h64 _ _ (inWa tgz_160 (by decide +kernel))).trans ((h56 _ _ (inWa tgz_160 (by decide +kernel))).trans h41)) (by first | exact q_35104ce9d3 h74 h42 | omega) (by omega) (by first | exact q_35104ce9d3 h76 h44 | omega) (by omega) (by first | exact q_ae2dbf4292 h49 h76 | omega) (by first | exact q_1ff421e7a2 h74 h76 h47 | omega) (by first | exact q_8d03a5a7cb h76 h48 | omega)
        have := (by decide : (Int32.ofInt 0).toInt = 0)
        have := (by decide : (Int32.ofInt 0).toInt = 0)
        refine En_lv (lv := [(0, .ref 159), (1, .int a), (2, .int b), (3, .int c), (4, .int d), (5, .int ((Int32.ofInt 0))), (6, .int ((Int32.ofInt 0)))]) ⟨rfl, rfl, rfl, rfl, rfl, rfl, rfl, trivial⟩ ?_
        exact key36 (Int.toNat (b.toInt) + 1) σ29 ((Int32.ofInt 0)) ((Int32.ofInt 0)) h30 h34 ((h31 _ _ (inWa tgz_160 (by decide +kernel))).trans h23) (by decide) (by decide) (by decide) (by decide) (by omega) (by omega) (by first | exact toN_lt _ | omega)
      · refine En_Ps 1 (pc' := 29) (lv' := [(0, .ref 159), (1, .int a), (2, .int b), (3, .int c), (4, .int d)]) (st' := [.int (((Int8.ofInt (-2)).toInt32))]) rfl ?_
        refine En_top (by decide : ((Int8.ofInt (-2)).toInt32).toInt = -2) (fun z77 h78 => ?_)
        exact En_ret (v := some (.int z77)) rfl rfl rfl ⟨h30, h34, z77, rfl, ⟨by first | exact q_f35c5d346c h78 | omega, by first | exact q_1be818c737 h78 | omega⟩⟩
/-- DoorSchoolModel.hangAll()V -/
abbrev P_238 (σ0 : SG) : PO := fun v σ => WT σ ∧ Fr [(35, 18), (35, 21), (35, 26), (42, 0), (43, 0), (44, 0), (45, 0), (46, 0), (47, 0), (48, 0)] σ0 σ ∧ v = none ∧ True
set_option maxRecDepth 10000 in
set_option maxHeartbeats 4000000 in
theorem c_238 (σ0 : SG) (hσ0 : WT σ0) : En 6 134 none mr_238 (P_238 σ0) 0 [(0, .ref 159)] [] σ0 := by
  have hF0 : Fr [(35, 18), (35, 21), (35, 26), (42, 0), (43, 0), (44, 0), (45, 0), (46, 0), (47, 0), (48, 0)] σ0 σ0 := Fr_rfl
  refine En_Ps 2 (pc' := 2) (lv' := [(0, .ref 159)]) (st' := [.int ((Int32.ofInt (-1))), .ref 159]) rfl ?_
  refine En_put (j := 26) rfl rfl rfl tgz_159 (by decide +kernel) rfl (vF (by decide +kernel)) hσ0 hF0 (by decide +kernel) (fun σ1 h2 h3 h4 h5 => ?_)
  refine En_Ps 1 (pc' := 6) (lv' := [(0, .ref 159)]) (st' := [.ref 159]) rfl ?_
  refine En_getU (j := 1) (u := 160) (g' := 36) (q := 0) rfl rfl rfl tgz_159 (by decide +kernel) h2 (by decide +kernel) (by decide +kernel) (fun h6 => ?_)
  refine En_Ps 1 (pc' := 10) (lv' := [(0, .ref 159)]) (st' := [.int ((Int32.ofInt 2)), .ref 160]) rfl ?_
  refine En_iald (l := 0) (u := 4) rfl (by decide : (Int32.ofInt 2).toInt = 2) tgz_160 (by decide +kernel) h2 (by decide) (lnI (by decide +kernel : LN _ = 226) (by decide)) (by decide +kernel) (fun z9 h8 h10 h11 => ?_)
  refine En_Ps 1 (pc' := 12) (lv' := [(0, .ref 159)]) (st' := [.ref 159, .int z9]) rfl ?_
  refine En_getK (j := 1) h6 rfl rfl rfl tgz_159 (by decide +kernel) ?_
  refine En_Ps 1 (pc' := 16) (lv' := [(0, .ref 159)]) (st' := [.int ((Int32.ofInt 4)), .ref 160, .int z9]) rfl ?_
  refine En_iald (l := 0) (u := 4) rfl (by decide : (Int32.ofInt 4).toInt = 4) tgz_160 (by decide +kernel) h2 (by decide) (lnI (by decide +kernel : LN _ = 226) (by decide)) (by decide +kernel) (fun z13 h12 h14 h15 => ?_)
  refine En_icGe _ rfl rfl rfl (fun h16 => ?_) (fun h16 => ?_)
  · refine En_Ps 4 (pc' := 25) (lv' := [(2, .int ((Int32.ofInt 0))), (1, .int ((Int32.ofInt 1))), (0, .ref 159)]) (st' := []) rfl ?_
    have key25 : ∀ (n25 : Nat) (σ19 : SG) (y17 : Int32) (y18 : Int32), WT σ19 → Fr [(35, 18), (35, 21), (35, 26), (42, 0), (43, 0), (44, 0), (45, 0), (46, 0), (47, 0), (48, 0)] σ0 σ19 → (σ19 159)[26]? = some (.int ((Int32.ofInt (-1)))) → (σ19 159)[1]? = some (.ref 160) → (σ19 160)[(2 : Int).toNat]? = some (.int z9) → (σ19 160)[(4 : Int).toNat]? = some (.int z13) → 0 ≤ y18.toInt → y18.toInt ≤ 4 → -y18.toInt + 4 < (n25 : Int) → En 6 134 none mr_238 (P_238 σ0) 25 [(0, .ref 159), (1, .int y17), (2, .int y18)] [] σ19 := by
      intro n25
      induction n25 with
      | zero =>
        intro σ19 y17 y18 h20 h21 h22 h23 h24 h25 h26 h27 h28
        first | exact (q_20d6385c6f h28 h27).elim | (exfalso; omega)
      | succ n25 ih25 =>
        intro σ19 y17 y18 h20 h21 h22 h23 h24 h25 h26 h27 h28
        refine En_Ps 2 (pc' := 27) (lv' := [(0, .ref 159), (1, .int y17), (2, .int y18)]) (st' := [.ref 159, .int y18]) rfl ?_
        refine En_getK (j := 1) h23 rfl rfl rfl tgz_159 (by decide +kernel) ?_
        refine En_Ps 1 (pc' := 31) (lv' := [(0, .ref 159), (1, .int y17), (2, .int y18)]) (st' := [.int ((Int32.ofInt 4)), .ref 160, .int y18]) rfl ?_
        refine En_ialdK h25 rfl (by decide : (Int32.ofInt 4).toInt = 4) tgz_160 (by decide +kernel) h20 (by decide) (lnI (by decide +kernel : LN _ = 226) (by decide)) ?_
        refine En_icGe _ rfl rfl rfl (fun h30 => ?_) (fun h30 => ?_)
        · refine En_Ps 2 (pc' := 52) (lv' := [(2, .int ((Int32.ofInt 0))), (0, .ref 159), (1, .int y17)]) (st' := []) rfl ?_
          have key52 : ∀ (n52 : Nat) (σ33 : SG) (y31 : Int32) (y32 : Int32), WT σ33 → Fr [(35, 18), (35, 21), (35, 26), (42, 0), (43, 0), (44, 0), (45, 0), (46, 0), (47, 0), (48, 0)] σ0 σ33 → (σ33 159)[1]? = some (.ref 160) → (σ33 160)[(2 : Int).toNat]? = some (.int z9) → (σ33 160)[(4 : Int).toNat]? = some (.int z13) → (σ33 159)[26]? = some (.int y32) → 0 ≤ y31.toInt → (((y17.toInt) - (y31.toInt)).toNat : Int) < (n52 : Int) → En 6 134 none mr_238 (P_238 σ0) 52 [(0, .ref 159), (1, .int y17), (2, .int y31)] [] σ33 := by
            intro n52
            induction n52 with
            | zero =>
              intro σ33 y31 y32 h34 h35 h36 h37 h38 h39 h40 h41
              exfalso; omega
            | succ n52 ih52 =>
              intro σ33 y31 y32 h34 h35 h36 h37 h38 h39 h40 h41
              refine En_Ps 2 (pc' := 54) (lv' := [(0, .ref 159), (1, .int y17), (2, .int y31)]) (st' := [.int y17, .int y31]) rfl ?_
              refine En_icGe _ rfl rfl rfl (fun h42 => ?_) (fun h42 => ?_)
              · exact En_ret (v := none) rfl rfl rfl ⟨h34, h35, rfl, trivial⟩
              · have := fullI y17
                refine En_Ps 7 (pc' := 66) (lv' := [(5, .int ((Int32.ofInt 0))), (4, .int ((Int32.ofInt 0))), (3, .int y31), (0, .ref 159), (1, .int y17), (2, .int y31)]) (st' := [.ref 159]) rfl ?_
                refine En_getK (j := 1) h36 rfl rfl rfl tgz_159 (by decide +kernel) ?_
                refine En_Ps 1 (pc' := 70) (lv' := [(5, .int ((Int32.ofInt 0))), (4, .int ((Int32.ofInt 0))), (3, .int y31), (0, .ref 159), (1, .int y17), (2, .int y31)]) (st' := [.int ((Int32.ofInt 4)), .ref 160]) rfl ?_
                refine En_ialdK h38 rfl (by decide : (Int32.ofInt 4).toInt = 4) tgz_160 (by decide +kernel) h34 (by decide) (lnI (by decide +kernel : LN _ = 226) (by decide)) ?_
                refine En_Ps 2 (pc' := 73) (lv' := [(5, .int ((Int32.ofInt 0))), (4, .int ((Int32.ofInt 0))), (3, .int y31), (0, .ref 159), (1, .int y17), (2, .int y31)]) (st' := [.int ((z13 - ((Int32.ofInt 1))))]) rfl ?_
                refine En_top (subI rfl (by decide : (Int32.ofInt 1).toInt = 1) (by first | exact q_93f9478bef h14 | omega) (by first | exact q_cc3cee8591 h15 | omega)) (fun z44 h45 => ?_)
                refine En_Ps 1 (pc' := 75) (lv' := [(6, .int z44), (5, .int ((Int32.ofInt 0))), (4, .int ((Int32.ofInt 0))), (3, .int y31), (0, .ref 159), (1, .int y17), (2, .int y31)]) (st' := []) rfl ?_
                have key75 : ∀ (n75 : Nat) (σ49 : SG) (y46 : Int32) (y47 : Int32) (y48 : Int32), WT σ49 → Fr [(35, 18), (35, 21), (35, 26), (42, 0), (43, 0), (44, 0), (45, 0), (46, 0), (47, 0), (48, 0)] σ0 σ49 → (σ49 159)[1]? = some (.ref 160) → (σ49 160)[(2 : Int).toNat]? = some (.int z9) → (σ49 160)[(4 : Int).toNat]? = some (.int z13) → (σ49 159)[26]? = some (.int y32) → 0 ≤ y46.toInt → (-1) ≤ y48.toInt → y48.toInt ≤ 3 → y46.toInt - y31.toInt ≤ 0 → y48.toInt - z13.toInt + 1 ≤ 0 → y48.toInt + 1 < (n75 : Int) → En 6 134 none mr_238 (P_238 σ0) 75 [(0, .ref 159), (1, .int y17), (2, .int y31), (3, .int y46), (4, .int y47), (5, .int ((Int32.ofInt 0))), (6, .int y48)] [] σ49 := by
                  intro n75
                  induction n75 with
                  | zero =>
                    intro σ49 y46 y47 y48 h50 h51 h52 h53 h54 h55 h56 h57 h58 h59 h60 h61
                    first | exact (q_d30ca37d8c h57 h61).elim | (exfalso; omega)
                  | succ n75 ih75 =>
                    intro σ49 y46 y47 y48 h50 h51 h52 h53 h54 h55 h56 h57 h58 h59 h60 h61
                    refine En_Ps 1 (pc' := 77) (lv' := [(0, .ref 159), (1, .int y17), (2, .int y31), (3, .int y46), (4, .int y47), (5, .int ((Int32.ofInt 0))), (6, .int y48)]) (st' := [.int y48]) rfl ?_
                    refine En_iLt _ rfl rfl (fun h62 => ?_) (fun h62 => ?_)
                    · refine En_Ps 1 (pc' := 126) (lv' := [(0, .ref 159), (1, .int y17), (2, .int y31), (3, .int y46), (4, .int y47), (5, .int ((Int32.ofInt 0))), (6, .int y48)]) (st' := [.int y47]) rfl ?_
                      refine En_callS rfl rfl rfl rfl rfl rfl rfl rfl rfl (c_203b σ49 h50 y47) (by decide) (by decide) (fun v64 σ65 h63 => ?_)
                      obtain ⟨h66, h67, z69, rfl, h68⟩ := h63
                      have h70 := Fr_trans h51 h67 (by decide +kernel)
                      refine En_Ps 1 (pc' := 130) (lv' := [(0, .ref 159), (1, .int y17), (2, .int y31), (3, .int y46), (4, .int y47), (5, .int ((Int32.ofInt 0))), (6, .int y48)]) (st' := [.ref 159, .int z69]) rfl ?_
                      refine En_getK (j := 1) ((h67 _ _ (inW tgz_159 (by decide +kernel))).trans h52) rfl rfl rfl tgz_159 (by decide +kernel) ?_
                      refine En_Ps 1 (pc' := 134) (lv' := [(0, .ref 159), (1, .int y17), (2, .int y31), (3, .int y46), (4, .int y47), (5, .int ((Int32.ofInt 0))), (6, .int y48)]) (st' := [.int ((Int32.ofInt 4)), .ref 160, .int z69]) rfl ?_
                      refine En_ialdK ((h67 _ _ (inWa tgz_160 (by decide +kernel))).trans h54) rfl (by decide : (Int32.ofInt 4).toInt = 4) tgz_160 (by decide +kernel) h66 (by decide) (lnI (by decide +kernel : LN _ = 226) (by decide)) ?_
                      refine En_icEq _ rfl rfl rfl (fun h72 => ?_) (fun h72 => ?_)
                      · refine En_Ps 2 (pc' := 144) (lv' := [(6, .int ((Int32.ofInt 0))), (0, .ref 159), (1, .int y17), (2, .int y31), (3, .int y46), (4, .int y47), (5, .int ((Int32.ofInt 0)))]) (st' := []) rfl ?_
                        have key144 : ∀ (n144 : Nat) (σ75 : SG) (y73 : Int32) (y74 : Int32), WT σ75 → Fr [(35, 18), (35, 21), (35, 26), (42, 0), (43, 0), (44, 0), (45, 0), (46, 0), (47, 0), (48, 0)] σ0 σ75 → (σ75 159)[1]? = some (.ref 160) → (σ75 160)[(2 : Int).toNat]? = some (.int z9) → (σ75 160)[(4 : Int).toNat]? = some (.int z13) → (σ75 159)[26]? = some (.int y32) → 0 ≤ y74.toInt → y74.toInt ≤ 4 → -y74.toInt + 4 < (n144 : Int) → En 6 134 none mr_238 (P_238 σ0) 144 [(0, .ref 159), (1, .int y17), (2, .int y31), (3, .int y46), (4, .int y47), (5, .int y73), (6, .int y74)] [] σ75 := by
                          intro n144
                          induction n144 with
                          | zero =>
                            intro σ75 y73 y74 h76 h77 h78 h79 h80 h81 h82 h83 h84
                            first | exact (q_20d6385c6f h84 h83).elim | (exfalso; omega)
                          | succ n144 ih144 =>
                            intro σ75 y73 y74 h76 h77 h78 h79 h80 h81 h82 h83 h84
                            refine En_Ps 2 (pc' := 147) (lv' := [(0, .ref 159), (1, .int y17), (2, .int y31), (3, .int y46), (4, .int y47), (5, .int y73), (6, .int y74)]) (st' := [.ref 159, .int y74]) rfl ?_
                            refine En_getK (j := 1) h78 rfl rfl rfl tgz_159 (by decide +kernel) ?_
                            refine En_Ps 1 (pc' := 151) (lv' := [(0, .ref 159), (1, .int y17), (2, .int y31), (3, .int y46), (4, .int y47), (5, .int y73), (6, .int y74)]) (st' := [.int ((Int32.ofInt 4)), .ref 160, .int y74]) rfl ?_
                            refine En_ialdK h80 rfl (by decide : (Int32.ofInt 4).toInt = 4) tgz_160 (by decide +kernel) h76 (by decide) (lnI (by decide +kernel : LN _ = 226) (by decide)) ?_
                            refine En_icGe _ rfl rfl rfl (fun h86 => ?_) (fun h86 => ?_)
                            · refine En_Ps 1 (pc' := 180) (lv' := [(0, .ref 159), (1, .int y17), (2, .int y31), (3, .int y46), (4, .int y47), (5, .int y73), (6, .int y74)]) (st' := [.ref 159]) rfl ?_
                              refine En_getK (j := 26) h81 rfl rfl rfl tgz_159 (by decide +kernel) ?_
                              refine En_Ps 1 (pc' := 184) (lv' := [(0, .ref 159), (1, .int y17), (2, .int y31), (3, .int y46), (4, .int y47), (5, .int y73), (6, .int y74)]) (st' := [.int ((Int32.ofInt (-1))), .int y32]) rfl ?_
                              refine En_icEq _ rfl (by decide : (Int32.ofInt (-1)).toInt = -1) rfl (fun h87 => ?_) (fun h87 => ?_)
                              · refine En_Ps 2 (pc' := 202) (lv' := [(0, .ref 159), (1, .int y17), (2, .int y31), (3, .int y46), (4, .int y47), (5, .int y73), (6, .int y74)]) (st' := [.int y73, .ref 159]) rfl ?_
                                refine En_put (j := 26) rfl rfl rfl tgz_159 (by decide +kernel) rfl (vF (by decide +kernel)) h76 h77 (by decide +kernel) (fun σ88 h89 h90 h91 h92 => ?_)
                                refine En_Ps 2 (pc' := 208) (lv' := [(6, .int ((Int32.ofInt 0))), (0, .ref 159), (1, .int y17), (2, .int y31), (3, .int y46), (4, .int y47), (5, .int y73)]) (st' := []) rfl ?_
                                have key208 : ∀ (n208 : Nat) (σ94 : SG) (y93 : Int32), WT σ94 → Fr [(35, 18), (35, 21), (35, 26), (42, 0), (43, 0), (44, 0), (45, 0), (46, 0), (47, 0), (48, 0)] σ0 σ94 → (σ94 159)[1]? = some (.ref 160) → (σ94 160)[(2 : Int).toNat]? = some (.int z9) → (σ94 160)[(4 : Int).toNat]? = some (.int z13) → (σ94 159)[26]? = some (.int y73) → 0 ≤ y93.toInt → y93.toInt ≤ 4 → -y93.toInt + 4 < (n208 : Int) → En 6 134 none mr_238 (P_238 σ0) 208 [(0, .ref 159), (1, .int y17), (2, .int y31), (3, .int y46), (4, .int y47), (5, .int y73), (6, .int y93)] [] σ94 := by
                                  intro n208
                                  induction n208 with
                                  | zero =>
                                    intro σ94 y93 h95 h96 h97 h98 h99 h100 h101 h102 h103
                                    first | exact (q_20d6385c6f h103 h102).elim | (exfalso; omega)
                                  | succ n208 ih208 =>
                                    intro σ94 y93 h95 h96 h97 h98 h99 h100 h101 h102 h103
                                    refine En_Ps 2 (pc' := 211) (lv' := [(0, .ref 159), (1, .int y17), (2, .int y31), (3, .int y46), (4, .int y47), (5, .int y73), (6, .int y93)]) (st' := [.int ((Int32.ofInt 4)), .int y93]) rfl ?_
                                    refine En_icGe _ rfl (by decide : (Int32.ofInt 4).toInt = 4) rfl (fun h104 => ?_) (fun h104 => ?_)
                                    · refine En_Ps 1 (pc' := 237) (lv' := [(2, .int ((y31 + Int32.ofInt 1))), (0, .ref 159), (1, .int y17), (3, .int y46), (4, .int y47), (5, .int y73), (6, .int y93)]) (st' := []) rfl ?_
                                      refine En_lv1 (addI rfl (by decide : (Int32.ofInt 1).toInt = 1) (by first | exact q_465ab79ac1 h40 | omega) (by omega)) (fun z105 h106 => ?_)
                                      refine En_Ps 1 (pc' := 52) (lv' := [(2, .int z105), (0, .ref 159), (1, .int y17), (3, .int y46), (4, .int y47), (5, .int y73), (6, .int y93)]) (st' := []) rfl ?_
                                      refine En_lv (lv := [(0, .ref 159), (1, .int y17), (2, .int z105)]) ⟨rfl, rfl, rfl, trivial⟩ ?_
                                      exact ih52 σ94 z105 y73 h95 h96 h97 h98 h99 h100 (by first | exact q_35104ce9d3 h106 h40 | omega) (by omega)
                                    · refine En_Ps 1 (pc' := 215) (lv' := [(0, .ref 159), (1, .int y17), (2, .int y31), (3, .int y46), (4, .int y47), (5, .int y73), (6, .int y93)]) (st' := [.ref 159]) rfl ?_
                                      refine En_getU (j := 25) (u := 172) (g' := 48) (q := 0) rfl rfl rfl tgz_159 (by decide +kernel) h95 (by decide +kernel) (by decide +kernel) (fun h107 => ?_)
                                      refine En_Ps 2 (pc' := 221) (lv' := [(0, .ref 159), (1, .int y17), (2, .int y31), (3, .int y46), (4, .int y47), (5, .int y73), (6, .int y93)]) (st' := [.ref 159, .int y93, .ref 172]) rfl ?_
                                      refine En_getU (j := 24) (u := 171) (g' := 47) (q := 0) rfl rfl rfl tgz_159 (by decide +kernel) h95 (by decide +kernel) (by decide +kernel) (fun h109 => ?_)
                                      refine En_Ps 1 (pc' := 226) (lv' := [(0, .ref 159), (1, .int y17), (2, .int y31), (3, .int y46), (4, .int y47), (5, .int y73), (6, .int y93)]) (st' := [.int y93, .ref 171, .int y93, .ref 172]) rfl ?_
                                      refine En_iald (l := 0) (u := 3) rfl rfl tgz_171 (by decide +kernel) h95 (by first | exact q_58e6e51dcc h101 | omega) (lnI (by decide +kernel : LN _ = 4) (by first | exact q_074a8b422d h104 | omega)) (FTsgl (by decide +kernel)) (fun z112 h111 h113 h114 => ?_)
                                      refine En_iast (l := 0) (u := 3) rfl rfl tgz_172 (by decide +kernel) (by first | exact q_58e6e51dcc h101 | omega) (lnI (by decide +kernel : LN _ = 4) (by first | exact q_074a8b422d h104 | omega)) (FTsgl (by decide +kernel)) (rngI rfl (by first | exact q_58e6e51dcc h113 | omega) (by first | exact q_da5e9b976f h114 | omega)) h95 h96 (by decide +kernel) (fun σ115 h116 h117 h118 h119 => ?_)
                                      refine En_Ps 1 (pc' := 231) (lv' := [(6, .int ((y93 + Int32.ofInt 1))), (0, .ref 159), (1, .int y17), (2, .int y31), (3, .int y46), (4, .int y47), (5, .int y73)]) (st' := []) rfl ?_
                                      refine En_lv1 (addI rfl (by decide : (Int32.ofInt 1).toInt = 1) (by first | exact q_465ab79ac1 h101 | omega) (by first | exact q_d8bf7f475a h104 | omega)) (fun z120 h121 => ?_)
                                      refine En_Ps 1 (pc' := 208) (lv' := [(6, .int z120), (0, .ref 159), (1, .int y17), (2, .int y31), (3, .int y46), (4, .int y47), (5, .int y73)]) (st' := []) rfl ?_
                                      refine En_lv (lv := [(0, .ref 159), (1, .int y17), (2, .int y31), (3, .int y46), (4, .int y47), (5, .int y73), (6, .int z120)]) ⟨rfl, rfl, rfl, rfl, rfl, rfl, rfl, trivial⟩ ?_
                                      exact ih208 σ115 z120 h116 h117 ((h119 _ _ (Or.inl (neTG tgz_159 tgz_172 (by decide)))).trans h97) ((h119 _ _ (Or.inl (neTG tgz_160 tgz_172 (by decide)))).trans h98) ((h119 _ _ (Or.inl (neTG tgz_160 tgz_172 (by decide)))).trans h99) ((h119 _ _ (Or.inl (neTG tgz_159 tgz_172 (by decide)))).trans h100) (by first | exact q_35104ce9d3 h121 h101 | omega) (by first | exact q_ddc5c16a68 h121 h104 | omega) (by first | exact q_3d8d70ace2 h121 h103 | omega)
                                have := (by decide : (Int32.ofInt 0).toInt = 0)
                                refine En_lv (lv := [(0, .ref 159), (1, .int y17), (2, .int y31), (3, .int y46), (4, .int y47), (5, .int y73), (6, .int ((Int32.ofInt 0)))]) ⟨rfl, rfl, rfl, rfl, rfl, rfl, rfl, trivial⟩ ?_
                                exact key208 (Int.toNat (4) + 1) σ88 ((Int32.ofInt 0)) h89 h90 ((h92 _ _ (Or.inr (by decide))).trans h78) ((h92 _ _ (Or.inl (neTG tgz_160 tgz_159 (by decide)))).trans h79) ((h92 _ _ (Or.inl (neTG tgz_160 tgz_159 (by decide)))).trans h80) h91 (by decide) (by decide) (by first | exact toN_lt _ | omega)
                              · refine En_Ps 2 (pc' := 190) (lv' := [(0, .ref 159), (1, .int y17), (2, .int y31), (3, .int y46), (4, .int y47), (5, .int y73), (6, .int y74)]) (st' := [.ref 159, .int y73]) rfl ?_
                                refine En_getK (j := 26) h81 rfl rfl rfl tgz_159 (by decide +kernel) ?_
                                refine En_icLt _ rfl rfl rfl (fun h122 => ?_) (fun h122 => ?_)
                                · refine En_Ps 2 (pc' := 202) (lv' := [(0, .ref 159), (1, .int y17), (2, .int y31), (3, .int y46), (4, .int y47), (5, .int y73), (6, .int y74)]) (st' := [.int y73, .ref 159]) rfl ?_
                                  refine En_put (j := 26) rfl rfl rfl tgz_159 (by decide +kernel) rfl (vF (by decide +kernel)) h76 h77 (by decide +kernel) (fun σ123 h124 h125 h126 h127 => ?_)
                                  refine En_Ps 2 (pc' := 208) (lv' := [(6, .int ((Int32.ofInt 0))), (0, .ref 159), (1, .int y17), (2, .int y31), (3, .int y46), (4, .int y47), (5, .int y73)]) (st' := []) rfl ?_
                                  have key208 : ∀ (n208 : Nat) (σ129 : SG) (y128 : Int32), WT σ129 → Fr [(35, 18), (35, 21), (35, 26), (42, 0), (43, 0), (44, 0), (45, 0), (46, 0), (47, 0), (48, 0)] σ0 σ129 → (σ129 159)[1]? = some (.ref 160) → (σ129 160)[(2 : Int).toNat]? = some (.int z9) → (σ129 160)[(4 : Int).toNat]? = some (.int z13) → (σ129 159)[26]? = some (.int y73) → 0 ≤ y128.toInt → y128.toInt ≤ 4 → -y128.toInt + 4 < (n208 : Int) → En 6 134 none mr_238 (P_238 σ0) 208 [(0, .ref 159), (1, .int y17), (2, .int y31), (3, .int y46), (4, .int y47), (5, .int y73), (6, .int y128)] [] σ129 := by
                                    intro n208
                                    induction n208 with
                                    | zero =>
                                      intro σ129 y128 h130 h131 h132 h133 h134 h135 h136 h137 h138
                                      first | exact (q_20d6385c6f h138 h137).elim | (exfalso; omega)
                                    | succ n208 ih208 =>
                                      intro σ129 y128 h130 h131 h132 h133 h134 h135 h136 h137 h138
                                      refine En_Ps 2 (pc' := 211) (lv' := [(0, .ref 159), (1, .int y17), (2, .int y31), (3, .int y46), (4, .int y47), (5, .int y73), (6, .int y128)]) (st' := [.int ((Int32.ofInt 4)), .int y128]) rfl ?_
                                      refine En_icGe _ rfl (by decide : (Int32.ofInt 4).toInt = 4) rfl (fun h139 => ?_) (fun h139 => ?_)
                                      · refine En_Ps 1 (pc' := 237) (lv' := [(2, .int ((y31 + Int32.ofInt 1))), (0, .ref 159), (1, .int y17), (3, .int y46), (4, .int y47), (5, .int y73), (6, .int y128)]) (st' := []) rfl ?_
                                        refine En_lv1 (addI rfl (by decide : (Int32.ofInt 1).toInt = 1) (by first | exact q_465ab79ac1 h40 | omega) (by omega)) (fun z140 h141 => ?_)
                                        refine En_Ps 1 (pc' := 52) (lv' := [(2, .int z140), (0, .ref 159), (1, .int y17), (3, .int y46), (4, .int y47), (5, .int y73), (6, .int y128)]) (st' := []) rfl ?_
                                        refine En_lv (lv := [(0, .ref 159), (1, .int y17), (2, .int z140)]) ⟨rfl, rfl, rfl, trivial⟩ ?_
                                        exact ih52 σ129 z140 y73 h130 h131 h132 h133 h134 h135 (by first | exact q_35104ce9d3 h141 h40 | omega) (by omega)
                                      · refine En_Ps 1 (pc' := 215) (lv' := [(0, .ref 159), (1, .int y17), (2, .int y31), (3, .int y46), (4, .int y47), (5, .int y73), (6, .int y128)]) (st' := [.ref 159]) rfl ?_
                                        refine En_getU (j := 25) (u := 172) (g' := 48) (q := 0) rfl rfl rfl tgz_159 (by decide +kernel) h130 (by decide +kernel) (by decide +kernel) (fun h142 => ?_)
                                        refine En_Ps 2 (pc' := 221) (lv' := [(0, .ref 159), (1, .int y17), (2, .int y31), (3, .int y46), (4, .int y47), (5, .int y73), (6, .int y128)]) (st' := [.ref 159, .int y128, .ref 172]) rfl ?_
                                        refine En_getU (j := 24) (u := 171) (g' := 47) (q := 0) rfl rfl rfl tgz_159 (by decide +kernel) h130 (by decide +kernel) (by decide +kernel) (fun h144 => ?_)
                                        refine En_Ps 1 (pc' := 226) (lv' := [(0, .ref 159), (1, .int y17), (2, .int y31), (3, .int y46), (4, .int y47), (5, .int y73), (6, .int y128)]) (st' := [.int y128, .ref 171, .int y128, .ref 172]) rfl ?_
                                        refine En_iald (l := 0) (u := 3) rfl rfl tgz_171 (by decide +kernel) h130 (by first | exact q_58e6e51dcc h136 | omega) (lnI (by decide +kernel : LN _ = 4) (by first | exact q_074a8b422d h139 | omega)) (FTsgl (by decide +kernel)) (fun z147 h146 h148 h149 => ?_)
                                        refine En_iast (l := 0) (u := 3) rfl rfl tgz_172 (by decide +kernel) (by first | exact q_58e6e51dcc h136 | omega) (lnI (by decide +kernel : LN _ = 4) (by first | exact q_074a8b422d h139 | omega)) (FTsgl (by decide +kernel)) (rngI rfl (by first | exact q_58e6e51dcc h148 | omega) (by first | exact q_da5e9b976f h149 | omega)) h130 h131 (by decide +kernel) (fun σ150 h151 h152 h153 h154 => ?_)
                                        refine En_Ps 1 (pc' := 231) (lv' := [(6, .int ((y128 + Int32.ofInt 1))), (0, .ref 159), (1, .int y17), (2, .int y31), (3, .int y46), (4, .int y47), (5, .int y73)]) (st' := []) rfl ?_
                                        refine En_lv1 (addI rfl (by decide : (Int32.ofInt 1).toInt = 1) (by first | exact q_465ab79ac1 h136 | omega) (by first | exact q_d8bf7f475a h139 | omega)) (fun z155 h156 => ?_)
                                        refine En_Ps 1 (pc' := 208) (lv' := [(6, .int z155), (0, .ref 159), (1, .int y17), (2, .int y31), (3, .int y46), (4, .int y47), (5, .int y73)]) (st' := []) rfl ?_
                                        refine En_lv (lv := [(0, .ref 159), (1, .int y17), (2, .int y31), (3, .int y46), (4, .int y47), (5, .int y73), (6, .int z155)]) ⟨rfl, rfl, rfl, rfl, rfl, rfl, rfl, trivial⟩ ?_
                                        exact ih208 σ150 z155 h151 h152 ((h154 _ _ (Or.inl (neTG tgz_159 tgz_172 (by decide)))).trans h132) ((h154 _ _ (Or.inl (neTG tgz_160 tgz_172 (by decide)))).trans h133) ((h154 _ _ (Or.inl (neTG tgz_160 tgz_172 (by decide)))).trans h134) ((h154 _ _ (Or.inl (neTG tgz_159 tgz_172 (by decide)))).trans h135) (by first | exact q_35104ce9d3 h156 h136 | omega) (by first | exact q_ddc5c16a68 h156 h139 | omega) (by first | exact q_3d8d70ace2 h156 h138 | omega)
                                  have := (by decide : (Int32.ofInt 0).toInt = 0)
                                  refine En_lv (lv := [(0, .ref 159), (1, .int y17), (2, .int y31), (3, .int y46), (4, .int y47), (5, .int y73), (6, .int ((Int32.ofInt 0)))]) ⟨rfl, rfl, rfl, rfl, rfl, rfl, rfl, trivial⟩ ?_
                                  exact key208 (Int.toNat (4) + 1) σ123 ((Int32.ofInt 0)) h124 h125 ((h127 _ _ (Or.inr (by decide))).trans h78) ((h127 _ _ (Or.inl (neTG tgz_160 tgz_159 (by decide)))).trans h79) ((h127 _ _ (Or.inl (neTG tgz_160 tgz_159 (by decide)))).trans h80) h126 (by decide) (by decide) (by first | exact toN_lt _ | omega)
                                · refine En_Ps 2 (pc' := 237) (lv' := [(2, .int ((y31 + Int32.ofInt 1))), (0, .ref 159), (1, .int y17), (3, .int y46), (4, .int y47), (5, .int y73), (6, .int y74)]) (st' := []) rfl ?_
                                  refine En_lv1 (addI rfl (by decide : (Int32.ofInt 1).toInt = 1) (by first | exact q_465ab79ac1 h40 | omega) (by omega)) (fun z157 h158 => ?_)
                                  refine En_Ps 1 (pc' := 52) (lv' := [(2, .int z157), (0, .ref 159), (1, .int y17), (3, .int y46), (4, .int y47), (5, .int y73), (6, .int y74)]) (st' := []) rfl ?_
                                  refine En_lv (lv := [(0, .ref 159), (1, .int y17), (2, .int z157)]) ⟨rfl, rfl, rfl, trivial⟩ ?_
                                  exact ih52 σ75 z157 y32 h76 h77 h78 h79 h80 h81 (by first | exact q_35104ce9d3 h158 h40 | omega) (by omega)
                            · refine En_Ps 3 (pc' := 159) (lv' := [(0, .ref 159), (1, .int y17), (2, .int y31), (3, .int y46), (4, .int y47), (5, .int y73), (6, .int y74)]) (st' := [.ref 159, .ref 159, .int y73]) rfl ?_
                              refine En_getU (j := 24) (u := 171) (g' := 47) (q := 0) rfl rfl rfl tgz_159 (by decide +kernel) h76 (by decide +kernel) (by decide +kernel) (fun h159 => ?_)
                              refine En_Ps 1 (pc' := 164) (lv' := [(0, .ref 159), (1, .int y17), (2, .int y31), (3, .int y46), (4, .int y47), (5, .int y73), (6, .int y74)]) (st' := [.int y74, .ref 171, .ref 159, .int y73]) rfl ?_
                              refine En_iald (l := 0) (u := 3) rfl rfl tgz_171 (by decide +kernel) h76 (by first | exact q_58e6e51dcc h82 | omega) (lnI (by decide +kernel : LN _ = 4) (by first | exact q_1a45a931b1 h86 h15 | omega)) (FTsgl (by decide +kernel)) (fun z162 h161 h163 h164 => ?_)
                              refine En_Ps 1 (pc' := 167) (lv' := [(0, .ref 159), (1, .int y17), (2, .int y31), (3, .int y46), (4, .int y47), (5, .int y73), (6, .int y74)]) (st' := [.int y74, .int z162, .ref 159, .int y73]) rfl ?_
                              refine En_callV rfl rfl rfl rfl rfl rfl rfl rfl tgz_159 (by decide +kernel) rfl (c_194 σ75 h76 z162 y74 (geI rfl (by first | exact q_58e6e51dcc h163 | omega)) (leI rfl (by first | exact q_da5e9b976f h164 | omega)) (geI rfl (by first | exact q_58e6e51dcc h82 | omega)) (leI rfl (by first | exact q_5ab2e90ecc h86 h15 | omega))) (by decide) (by decide) (fun v166 σ167 h165 => ?_)
                              obtain ⟨h168, h169, z171, rfl, h170⟩ := h165
                              have h172 := Fr_trans h77 h169 (by decide +kernel)
                              refine En_Ps 1 (pc' := 171) (lv' := [(0, .ref 159), (1, .int y17), (2, .int y31), (3, .int y46), (4, .int y47), (5, .int y73), (6, .int y74)]) (st' := [.int ((y73 + z171))]) rfl ?_
                              refine En_hav (fun z173 => ?_)
                              refine En_Ps 2 (pc' := 176) (lv' := [(6, .int ((y74 + Int32.ofInt 1))), (5, .int z173), (0, .ref 159), (1, .int y17), (2, .int y31), (3, .int y46), (4, .int y47)]) (st' := []) rfl ?_
                              refine En_lv1 (addI rfl (by decide : (Int32.ofInt 1).toInt = 1) (by first | exact q_465ab79ac1 h82 | omega) (by first | exact q_f7282962fd h83 | omega)) (fun z174 h175 => ?_)
                              refine En_Ps 1 (pc' := 144) (lv' := [(6, .int z174), (5, .int z173), (0, .ref 159), (1, .int y17), (2, .int y31), (3, .int y46), (4, .int y47)]) (st' := []) rfl ?_
                              refine En_lv (lv := [(0, .ref 159), (1, .int y17), (2, .int y31), (3, .int y46), (4, .int y47), (5, .int z173), (6, .int z174)]) ⟨rfl, rfl, rfl, rfl, rfl, rfl, rfl, trivial⟩ ?_
                              exact ih144 σ167 z173 z174 h168 h172 ((h169 _ _ (inW tgz_159 (by decide +kernel))).trans h78) ((h169 _ _ (inWa tgz_160 (by decide +kernel))).trans h79) ((h169 _ _ (inWa tgz_160 (by decide +kernel))).trans h80) ((h169 _ _ (inW tgz_159 (by decide +kernel))).trans h81) (by first | exact q_35104ce9d3 h175 h82 | omega) (by first | exact q_de42116b63 h175 h86 h15 | omega) (by first | exact q_3d8d70ace2 h175 h84 | omega)
                        have := (by decide : (Int32.ofInt 0).toInt = 0)
                        have := (by decide : (Int32.ofInt 0).toInt = 0)
                        refine En_lv (lv := [(0, .ref 159), (1, .int y17), (2, .int y31), (3, .int y46), (4, .int y47), (5, .int ((Int32.ofInt 0))), (6, .int ((Int32.ofInt 0)))]) ⟨rfl, rfl, rfl, rfl, rfl, rfl, rfl, trivial⟩ ?_
                        exact key144 (Int.toNat (4) + 1) σ65 ((Int32.ofInt 0)) ((Int32.ofInt 0)) h66 h70 ((h67 _ _ (inW tgz_159 (by decide +kernel))).trans h52) ((h67 _ _ (inWa tgz_160 (by decide +kernel))).trans h53) ((h67 _ _ (inWa tgz_160 (by decide +kernel))).trans h54) ((h67 _ _ (inW tgz_159 (by decide +kernel))).trans h55) (by decide) (by decide) (by first | exact toN_lt _ | omega)
                      · refine En_Ps 2 (pc' := 237) (lv' := [(2, .int ((y31 + Int32.ofInt 1))), (0, .ref 159), (1, .int y17), (3, .int y46), (4, .int y47), (5, .int ((Int32.ofInt 0))), (6, .int y48)]) (st' := []) rfl ?_
                        refine En_lv1 (addI rfl (by decide : (Int32.ofInt 1).toInt = 1) (by first | exact q_465ab79ac1 h40 | omega) (by omega)) (fun z176 h177 => ?_)
                        refine En_Ps 1 (pc' := 52) (lv' := [(2, .int z176), (0, .ref 159), (1, .int y17), (3, .int y46), (4, .int y47), (5, .int ((Int32.ofInt 0))), (6, .int y48)]) (st' := []) rfl ?_
                        refine En_lv (lv := [(0, .ref 159), (1, .int y17), (2, .int z176)]) ⟨rfl, rfl, rfl, trivial⟩ ?_
                        exact ih52 σ65 z176 y32 h66 h70 ((h67 _ _ (inW tgz_159 (by decide +kernel))).trans h52) ((h67 _ _ (inWa tgz_160 (by decide +kernel))).trans h53) ((h67 _ _ (inWa tgz_160 (by decide +kernel))).trans h54) ((h67 _ _ (inW tgz_159 (by decide +kernel))).trans h55) (by first | exact q_35104ce9d3 h177 h40 | omega) (by omega)
                    · refine En_Ps 1 (pc' := 81) (lv' := [(0, .ref 159), (1, .int y17), (2, .int y31), (3, .int y46), (4, .int y47), (5, .int ((Int32.ofInt 0))), (6, .int y48)]) (st' := [.ref 159]) rfl ?_
                      refine En_getU (j := 24) (u := 171) (g' := 47) (q := 0) rfl rfl rfl tgz_159 (by decide +kernel) h50 (by decide +kernel) (by decide +kernel) (fun h178 => ?_)
                      refine En_Ps 3 (pc' := 88) (lv' := [(0, .ref 159), (1, .int y17), (2, .int y31), (3, .int y46), (4, .int y47), (5, .int ((Int32.ofInt 0))), (6, .int y48)]) (st' := [.ref 159, .int y46, .int y48, .ref 171]) rfl ?_
                      refine En_getK (j := 1) h52 rfl rfl rfl tgz_159 (by decide +kernel) ?_
                      refine En_Ps 1 (pc' := 92) (lv' := [(0, .ref 159), (1, .int y17), (2, .int y31), (3, .int y46), (4, .int y47), (5, .int ((Int32.ofInt 0))), (6, .int y48)]) (st' := [.int ((Int32.ofInt 2)), .ref 160, .int y46, .int y48, .ref 171]) rfl ?_
                      refine En_ialdK h53 rfl (by decide : (Int32.ofInt 2).toInt = 2) tgz_160 (by decide +kernel) h50 (by decide) (lnI (by decide +kernel : LN _ = 226) (by decide)) ?_
                      refine En_iremV rfl rfl rfl (by omega) (by omega) (fun z181 h182 h183 => ?_)
                      refine En_iast (l := 0) (u := 3) rfl rfl tgz_171 (by decide +kernel) (by first | exact q_58e6e51dcc h62 | omega) (lnI (by decide +kernel : LN _ = 4) (by first | exact q_f3bb6f88f7 h58 | omega)) (FTsgl (by decide +kernel)) (rngI rfl (by omega) (by omega)) h50 h51 (by decide +kernel) (fun σ184 h185 h186 h187 h188 => ?_)
                      refine En_Ps 2 (pc' := 97) (lv' := [(0, .ref 159), (1, .int y17), (2, .int y31), (3, .int y46), (4, .int y47), (5, .int ((Int32.ofInt 0))), (6, .int y48)]) (st' := [.ref 159, .int y46]) rfl ?_
                      refine En_getK (j := 1) ((h188 _ _ (Or.inl (neTG tgz_159 tgz_171 (by decide)))).trans h52) rfl rfl rfl tgz_159 (by decide +kernel) ?_
                      refine En_Ps 1 (pc' := 101) (lv' := [(0, .ref 159), (1, .int y17), (2, .int y31), (3, .int y46), (4, .int y47), (5, .int ((Int32.ofInt 0))), (6, .int y48)]) (st' := [.int ((Int32.ofInt 2)), .ref 160, .int y46]) rfl ?_
                      refine En_ialdK ((h188 _ _ (Or.inl (neTG tgz_160 tgz_171 (by decide)))).trans h53) rfl (by decide : (Int32.ofInt 2).toInt = 2) tgz_160 (by decide +kernel) h185 (by decide) (lnI (by decide +kernel : LN _ = 226) (by decide)) ?_
                      refine En_idivV rfl rfl rfl (by omega) (by omega) (fun z190 h191 h192 => ?_)
                      refine En_Ps 4 (pc' := 108) (lv' := [(3, .int z190), (0, .ref 159), (1, .int y17), (2, .int y31), (4, .int y47), (5, .int ((Int32.ofInt 0))), (6, .int y48)]) (st' := [.ref 159, .int ((Int32.ofInt 1)), .int y47]) rfl ?_
                      refine En_getK (j := 24) ((h188 _ _ (Or.inl (neTG tgz_159 tgz_171 (by decide)))).trans h178) rfl rfl rfl tgz_159 (by decide +kernel) ?_
                      refine En_Ps 1 (pc' := 113) (lv' := [(3, .int z190), (0, .ref 159), (1, .int y17), (2, .int y31), (4, .int y47), (5, .int ((Int32.ofInt 0))), (6, .int y48)]) (st' := [.int y48, .ref 171, .int ((Int32.ofInt 1)), .int y47]) rfl ?_
                      refine En_iald (l := 0) (u := 3) rfl rfl tgz_171 (by decide +kernel) h185 (by first | exact q_58e6e51dcc h62 | omega) (lnI (by decide +kernel : LN _ = 4) (by first | exact q_f3bb6f88f7 h58 | omega)) (FTsgl (by decide +kernel)) (fun z194 h193 h195 h196 => ?_)
                      refine En_Ps 1 (pc' := 115) (lv' := [(3, .int z190), (0, .ref 159), (1, .int y17), (2, .int y31), (4, .int y47), (5, .int ((Int32.ofInt 0))), (6, .int y48)]) (st' := [.int ((((Int32.ofInt 1)) <<< (z194 &&& 31))), .int y47]) rfl ?_
                      refine En_rng (shl1_p 3 rfl (by omega) (by omega) (by decide)) (fun z197 h198 h199 => ?_)
                      refine En_Ps 1 (pc' := 116) (lv' := [(3, .int z190), (0, .ref 159), (1, .int y17), (2, .int y31), (4, .int y47), (5, .int ((Int32.ofInt 0))), (6, .int y48)]) (st' := [.int ((y47 ||| z197))]) rfl ?_
                      refine En_hav (fun z200 => ?_)
                      refine En_Ps 2 (pc' := 121) (lv' := [(6, .int ((y48 + Int32.ofInt (-1)))), (4, .int z200), (3, .int z190), (0, .ref 159), (1, .int y17), (2, .int y31), (5, .int ((Int32.ofInt 0)))]) (st' := []) rfl ?_
                      refine En_lv1 (addI rfl (by decide : (Int32.ofInt (-1)).toInt = -1) (by first | exact q_069e58d060 h62 | omega) (by first | exact q_78af8c5c09 h58 | omega)) (fun z201 h202 => ?_)
                      refine En_Ps 1 (pc' := 75) (lv' := [(6, .int z201), (4, .int z200), (3, .int z190), (0, .ref 159), (1, .int y17), (2, .int y31), (5, .int ((Int32.ofInt 0)))]) (st' := []) rfl ?_
                      refine En_lv (lv := [(0, .ref 159), (1, .int y17), (2, .int y31), (3, .int z190), (4, .int z200), (5, .int ((Int32.ofInt 0))), (6, .int z201)]) ⟨rfl, rfl, rfl, rfl, rfl, rfl, rfl, trivial⟩ ?_
                      exact ih75 σ184 z190 z200 z201 h185 h186 ((h188 _ _ (Or.inl (neTG tgz_159 tgz_171 (by decide)))).trans h52) ((h188 _ _ (Or.inl (neTG tgz_160 tgz_171 (by decide)))).trans h53) ((h188 _ _ (Or.inl (neTG tgz_160 tgz_171 (by decide)))).trans h54) ((h188 _ _ (Or.inl (neTG tgz_159 tgz_171 (by decide)))).trans h55) (by omega) (by first | exact q_1dc8c15c2b h202 h62 | omega) (by first | exact q_0479facf89 h202 h58 | omega) (by omega) (by first | exact q_ad24c9502e h60 h202 | omega) (by first | exact q_03fcbe2dc3 h202 h61 | omega)
                have := (by decide : (Int32.ofInt 0).toInt = 0)
                refine En_lv (lv := [(0, .ref 159), (1, .int y17), (2, .int y31), (3, .int y31), (4, .int ((Int32.ofInt 0))), (5, .int ((Int32.ofInt 0))), (6, .int z44)]) ⟨rfl, rfl, rfl, rfl, rfl, rfl, rfl, trivial⟩ ?_
                exact key75 (Int.toNat (z44.toInt + 1) + 1) σ33 y31 ((Int32.ofInt 0)) z44 h34 h35 h36 h37 h38 h39 (by first | exact q_58e6e51dcc h40 | omega) (by first | exact q_e2c277696c h45 h14 | omega) (by first | exact q_2d2f91c2ed h45 h15 | omega) (by first | exact q_1bb76abeaf | omega) (by first | exact q_8e6f8e4fd9 h45 | omega) (by first | exact toN_lt _ | omega)
          have := (by decide : (Int32.ofInt 0).toInt = 0)
          have := (by decide : (Int32.ofInt (-1)).toInt = -1)
          refine En_lv (lv := [(0, .ref 159), (1, .int y17), (2, .int ((Int32.ofInt 0)))]) ⟨rfl, rfl, rfl, trivial⟩ ?_
          exact key52 (Int.toNat ((((y17.toInt) - (0)).toNat : Int)) + 1) σ19 ((Int32.ofInt 0)) ((Int32.ofInt (-1))) h20 h21 h23 h24 h25 h22 (by decide) (by omega)
        · refine En_Ps 2 (pc' := 37) (lv' := [(0, .ref 159), (1, .int y17), (2, .int y18)]) (st' := [.ref 159, .int y17]) rfl ?_
          refine En_getK (j := 1) h23 rfl rfl rfl tgz_159 (by decide +kernel) ?_
          refine En_Ps 1 (pc' := 41) (lv' := [(0, .ref 159), (1, .int y17), (2, .int y18)]) (st' := [.int ((Int32.ofInt 2)), .ref 160, .int y17]) rfl ?_
          refine En_ialdK h24 rfl (by decide : (Int32.ofInt 2).toInt = 2) tgz_160 (by decide +kernel) h20 (by decide) (lnI (by decide +kernel : LN _ = 226) (by decide)) ?_
          refine En_Ps 1 (pc' := 43) (lv' := [(0, .ref 159), (1, .int y17), (2, .int y18)]) (st' := [.int ((y17 * z9))]) rfl ?_
          refine En_hav (fun z204 => ?_)
          refine En_Ps 2 (pc' := 47) (lv' := [(2, .int ((y18 + Int32.ofInt 1))), (1, .int z204), (0, .ref 159)]) (st' := []) rfl ?_
          refine En_lv1 (addI rfl (by decide : (Int32.ofInt 1).toInt = 1) (by first | exact q_465ab79ac1 h26 | omega) (by first | exact q_f7282962fd h27 | omega)) (fun z205 h206 => ?_)
          refine En_Ps 1 (pc' := 25) (lv' := [(2, .int z205), (1, .int z204), (0, .ref 159)]) (st' := []) rfl ?_
          refine En_lv (lv := [(0, .ref 159), (1, .int z204), (2, .int z205)]) ⟨rfl, rfl, rfl, trivial⟩ ?_
          exact ih25 σ19 z204 z205 h20 h21 h22 h23 h24 h25 (by first | exact q_35104ce9d3 h206 h26 | omega) (by first | exact q_de42116b63 h206 h30 h15 | omega) (by first | exact q_3d8d70ace2 h206 h28 | omega)
    have := (by decide : (Int32.ofInt 1).toInt = 1)
    have := (by decide : (Int32.ofInt 0).toInt = 0)
    refine En_lv (lv := [(0, .ref 159), (1, .int ((Int32.ofInt 1))), (2, .int ((Int32.ofInt 0)))]) ⟨rfl, rfl, rfl, trivial⟩ ?_
    exact key25 (Int.toNat (4) + 1) σ1 ((Int32.ofInt 1)) ((Int32.ofInt 0)) h2 h3 h4 h6 h8 h12 (by decide) (by decide) (by first | exact toN_lt _ | omega)
  · exact En_ret (v := none) rfl rfl rfl ⟨h2, h3, rfl, trivial⟩

