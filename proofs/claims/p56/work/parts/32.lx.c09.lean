/-- DoorSchool.amiss(II)I -/
abbrev P_102 (σ0 : SG) (a : Int32) (b : Int32) (p : Nat) (sg : Int32) : PO := fun v σ => WT σ ∧ Fr [] σ0 σ ∧ ∃ ret : Int32, v = some (.int ret) ∧ -ret.toInt - 2 ≤ 0 ∧ ret.toInt - 63 ≤ 0
set_option maxRecDepth 10000 in
set_option maxHeartbeats 4000000 in
theorem c_102 (σ0 : SG) (hσ0 : WT σ0) (a : Int32) (b : Int32) (p : Nat) (hp : TG p = 18) (h_p : (σ0 0)[9]? = some (.ref p)) (sg : Int32) (h_sg : (σ0 p)[1]? = some (.int sg)) (hp0 : -sg.toInt ≤ 0) : En 4 92 none mr_102 (P_102 σ0 a b p sg) 0 [(0, .ref 0), (1, .int a), (2, .int b)] [] σ0 := by
  obtain ⟨hl_sg, hu_sg⟩ := WT_int hσ0 (g := 18) hp (by decide +kernel) (l := (-1)) (u := 4) (by decide +kernel) h_sg
  have hF0 : Fr [] σ0 σ0 := Fr_rfl
  refine En_Ps 1 (pc' := 1) (lv' := [(0, .ref 0), (1, .int a), (2, .int b)]) (st' := [.ref 0]) rfl ?_
  refine En_getK (j := 9) h_p rfl rfl rfl tgz_0 (by decide +kernel) ?_
  refine En_Ps 1 (pc' := 5) (lv' := [(0, .ref 0), (1, .int a), (2, .int b)]) (st' := [.int a, .ref p]) rfl ?_
  refine En_callV rfl rfl rfl rfl rfl rfl rfl rfl hp (by decide +kernel) rfl (c_47 σ0 hσ0 p hp a) (by decide) (by decide) (fun v2 σ3 h1 => ?_)
  obtain ⟨h4, h5, z7, rfl, h6⟩ := h1
  have h8 := Fr_trans hF0 h5 (by decide +kernel)
  refine En_iEq _ rfl rfl (fun h9 => ?_) (fun h9 => ?_)
  · refine En_Ps 1 (pc' := 24) (lv' := [(0, .ref 0), (1, .int a), (2, .int b)]) (st' := [.int (((Int8.ofInt (-2)).toInt32))]) rfl ?_
    refine En_top (by decide : ((Int8.ofInt (-2)).toInt32).toInt = -2) (fun z10 h11 => ?_)
    exact En_ret (v := some (.int z10)) rfl rfl rfl ⟨h4, h8, z10, rfl, ⟨by first | exact q_f35c5d346c h11 | omega, by first | exact q_443ead751f h11 | omega⟩⟩
  · refine En_Ps 1 (pc' := 12) (lv' := [(0, .ref 0), (1, .int a), (2, .int b)]) (st' := [.ref 0]) rfl ?_
    refine En_getK (j := 9) ((h5 _ _ (inW tgz_0 (by decide +kernel))).trans h_p) rfl rfl rfl tgz_0 (by decide +kernel) ?_
    refine En_Ps 1 (pc' := 16) (lv' := [(0, .ref 0), (1, .int a), (2, .int b)]) (st' := [.int b, .ref p]) rfl ?_
    refine En_callV rfl rfl rfl rfl rfl rfl rfl rfl hp (by decide +kernel) rfl (c_48 σ3 h4 p hp b) (by decide) (by decide) (fun v13 σ14 h12 => ?_)
    obtain ⟨h15, h16, z18, rfl, h17⟩ := h12
    have h19 := Fr_trans h8 h16 (by decide +kernel)
    refine En_iNe _ rfl rfl (fun h20 => ?_) (fun h20 => ?_)
    · refine En_Ps 2 (pc' := 27) (lv' := [(0, .ref 0), (1, .int a), (2, .int b)]) (st' := [.int a, .ref 0]) rfl ?_
      refine En_callV rfl rfl rfl rfl rfl rfl rfl rfl tgz_0 (by decide +kernel) rfl (c_114 σ14 h15 a (geI rfl (by omega)) (leI rfl (by omega)) p hp ((h16 _ _ (inW tgz_0 (by decide +kernel))).trans ((h5 _ _ (inW tgz_0 (by decide +kernel))).trans h_p)) sg ((h16 _ _ (inW hp (by decide +kernel))).trans ((h5 _ _ (inW hp (by decide +kernel))).trans h_sg)) (by first | exact q_a555021d16 hp0 | omega)) (by decide) (by decide) (fun v22 σ23 h21 => ?_)
      obtain ⟨h24, h25, z27, rfl, h26⟩ := h21
      have h28 := Fr_trans h19 h25 (by decide +kernel)
      refine En_Ps 2 (pc' := 32) (lv' := [(0, .ref 0), (1, .int a), (2, .int b)]) (st' := [.int b, .ref 0, .int z27]) rfl ?_
      refine En_callV rfl rfl rfl rfl rfl rfl rfl rfl tgz_0 (by decide +kernel) rfl (c_139 σ23 h24 b (geI rfl (by omega)) (leI rfl (by omega)) p hp ((h25 _ _ (inW tgz_0 (by decide +kernel))).trans ((h16 _ _ (inW tgz_0 (by decide +kernel))).trans ((h5 _ _ (inW tgz_0 (by decide +kernel))).trans h_p))) sg ((h25 _ _ (inW hp (by decide +kernel))).trans ((h16 _ _ (inW hp (by decide +kernel))).trans ((h5 _ _ (inW hp (by decide +kernel))).trans h_sg))) (by first | exact q_a555021d16 hp0 | omega)) (by decide) (by decide) (fun v30 σ31 h29 => ?_)
      obtain ⟨h32, h33, z35, rfl, h34⟩ := h29
      have h36 := Fr_trans h28 h33 (by decide +kernel)
      refine En_Ps 1 (pc' := 36) (lv' := [(0, .ref 0), (1, .int a), (2, .int b)]) (st' := [.int ((z27 ^^^ z35))]) rfl ?_
      refine En_hav (fun z37 => ?_)
      refine En_callS rfl rfl rfl rfl rfl rfl rfl rfl rfl (c_7 σ31 h32 z37) (by decide) (by decide) (fun v39 σ40 h38 => ?_)
      obtain ⟨h41, h42, z44, rfl, h43⟩ := h38
      have h45 := Fr_trans h36 h42 (by decide +kernel)
      exact En_ret (v := some (.int z44)) rfl rfl rfl ⟨h41, h45, z44, rfl, ⟨by first | exact q_70a249c7f8 h43.1 | omega, by first | exact q_4b9206e141 h43.2 | omega⟩⟩
    · refine En_Ps 1 (pc' := 24) (lv' := [(0, .ref 0), (1, .int a), (2, .int b)]) (st' := [.int (((Int8.ofInt (-2)).toInt32))]) rfl ?_
      refine En_top (by decide : ((Int8.ofInt (-2)).toInt32).toInt = -2) (fun z46 h47 => ?_)
      exact En_ret (v := some (.int z46)) rfl rfl rfl ⟨h15, h19, z46, rfl, ⟨by first | exact q_f35c5d346c h47 | omega, by first | exact q_443ead751f h47 | omega⟩⟩
/-- DoorSchool.isSlot(I)Z -/
abbrev P_147 (σ0 : SG) (a : Int32) : PO := fun v σ => WT σ ∧ Fr [] σ0 σ ∧ ∃ ret : Int32, v = some (.int ret) ∧ -ret.toInt ≤ 0 ∧ ret.toInt - 1 ≤ 0 ∧ (ret.toInt - 1 ≤ 0 ∧ -ret.toInt + 1 ≤ 0 → -a.toInt ≤ 0 ∧ a.toInt - 3 ≤ 0) ∧ (-a.toInt ≤ 0 ∧ a.toInt - 3 ≤ 0 → ret.toInt - 1 ≤ 0 ∧ -ret.toInt + 1 ≤ 0)
set_option maxRecDepth 10000 in
set_option maxHeartbeats 4000000 in
theorem c_147 (σ0 : SG) (hσ0 : WT σ0) (a : Int32) : En 0 0 none mr_147 (P_147 σ0 a) 0 [(0, .int a)] [] σ0 := by
  have hF0 : Fr [] σ0 σ0 := Fr_rfl
  refine En_Ps 1 (pc' := 1) (lv' := [(0, .int a)]) (st' := [.int a]) rfl ?_
  refine En_iLt _ rfl rfl (fun h1 => ?_) (fun h1 => ?_)
  · refine En_Ps 1 (pc' := 14) (lv' := [(0, .int a)]) (st' := [.int ((Int32.ofInt 0))]) rfl ?_
    refine En_top (by decide : (Int32.ofInt 0).toInt = 0) (fun z2 h3 => ?_)
    exact En_ret (v := some (.int z2)) rfl rfl (retZ rfl rfl (by first | exact q_55451d0a83 h3 | omega) (by first | exact q_87849c3859 h3 | omega)) ⟨hσ0, hF0, z2, rfl, ⟨by first | exact q_097a37c2ae h3 | omega, by first | exact q_e269517bee h3 | omega, fun _ => by omega, fun _ => by omega⟩⟩
  · refine En_Ps 2 (pc' := 6) (lv' := [(0, .int a)]) (st' := [.int ((Int32.ofInt 4)), .int a]) rfl ?_
    refine En_icGe _ rfl (by decide : (Int32.ofInt 4).toInt = 4) rfl (fun h4 => ?_) (fun h4 => ?_)
    · refine En_Ps 1 (pc' := 14) (lv' := [(0, .int a)]) (st' := [.int ((Int32.ofInt 0))]) rfl ?_
      refine En_top (by decide : (Int32.ofInt 0).toInt = 0) (fun z5 h6 => ?_)
      exact En_ret (v := some (.int z5)) rfl rfl (retZ rfl rfl (by first | exact q_55451d0a83 h6 | omega) (by first | exact q_87849c3859 h6 | omega)) ⟨hσ0, hF0, z5, rfl, ⟨by first | exact q_097a37c2ae h6 | omega, by first | exact q_e269517bee h6 | omega, fun _ => by omega, fun _ => by omega⟩⟩
    · refine En_Ps 2 (pc' := 14) (lv' := [(0, .int a)]) (st' := [.int ((Int32.ofInt 1))]) rfl ?_
      refine En_top (by decide : (Int32.ofInt 1).toInt = 1) (fun z7 h8 => ?_)
      exact En_ret (v := some (.int z7)) rfl rfl (retZ rfl rfl (by first | exact q_2b07c97645 h8 | omega) (by first | exact q_d9e7cbb253 h8 | omega)) ⟨hσ0, hF0, z7, rfl, ⟨by first | exact q_ad3eee31ca h8 | omega, by first | exact q_81cf297dc4 h8 | omega, fun _ => by omega, fun _ => by omega⟩⟩
/-- DoorSchool.troubleWith(I)I -/
abbrev P_180 (σ0 : SG) (a : Int32) (p : Nat) (sg : Int32) : PO := fun v σ => WT σ ∧ Fr [] σ0 σ ∧ ∃ ret : Int32, v = some (.int ret) ∧ -ret.toInt - 6 ≤ 0 ∧ ret.toInt ≤ 0 ∧ (ret.toInt ≤ 0 ∧ -ret.toInt ≤ 0 → -a.toInt ≤ 0 ∧ a.toInt - 3 ≤ 0)
set_option maxRecDepth 10000 in
set_option maxHeartbeats 4000000 in
theorem c_180 (σ0 : SG) (hσ0 : WT σ0) (a : Int32) (p : Nat) (hp : TG p = 18) (h_p : (σ0 0)[9]? = some (.ref p)) (sg : Int32) (h_sg : (σ0 p)[1]? = some (.int sg)) (hp0 : -sg.toInt ≤ 0) : En 1 26 none mr_180 (P_180 σ0 a p sg) 0 [(0, .ref 0), (1, .int a)] [] σ0 := by
  obtain ⟨hl_sg, hu_sg⟩ := WT_int hσ0 (g := 18) hp (by decide +kernel) (l := (-1)) (u := 4) (by decide +kernel) h_sg
  have hF0 : Fr [] σ0 σ0 := Fr_rfl
  refine En_Ps 1 (pc' := 1) (lv' := [(0, .ref 0), (1, .int a)]) (st' := [.int a]) rfl ?_
  refine En_callS rfl rfl rfl rfl rfl rfl rfl rfl rfl (c_147 σ0 hσ0 a) (by decide) (by decide) (fun v2 σ3 h1 => ?_)
  obtain ⟨h4, h5, z7, rfl, h6⟩ := h1
  have h8 := Fr_trans hF0 h5 (by decide +kernel)
  refine En_iEq _ rfl rfl (fun h9 => ?_) (fun h9 => ?_)
  · refine En_Ps 1 (pc' := 19) (lv' := [(0, .ref 0), (1, .int a)]) (st' := [.int (((Int8.ofInt (-2)).toInt32))]) rfl ?_
    refine En_top (by decide : ((Int8.ofInt (-2)).toInt32).toInt = -2) (fun z10 h11 => ?_)
    exact En_ret (v := some (.int z10)) rfl rfl rfl ⟨h4, h8, z10, rfl, ⟨by first | exact q_2583522324 h11 | omega, by first | exact q_bbb39ffa1e h11 | omega, fun _ => by omega⟩⟩
  · refine En_Ps 1 (pc' := 8) (lv' := [(0, .ref 0), (1, .int a)]) (st' := [.ref 0]) rfl ?_
    refine En_getK (j := 9) ((h5 _ _ (inW tgz_0 (by decide +kernel))).trans h_p) rfl rfl rfl tgz_0 (by decide +kernel) ?_
    refine En_callV rfl rfl rfl rfl rfl rfl rfl rfl hp (by decide +kernel) rfl (c_43 σ3 h4 p hp) (by decide) (by decide) (fun v13 σ14 h12 => ?_)
    obtain ⟨h15, h16, z18, rfl, h17⟩ := h12
    have h19 := Fr_trans h8 h16 (by decide +kernel)
    refine En_iNe _ rfl rfl (fun h20 => ?_) (fun h20 => ?_)
    · refine En_Ps 1 (pc' := 21) (lv' := [(0, .ref 0), (1, .int a)]) (st' := [.ref 0]) rfl ?_
      refine En_getU (j := 6) (u := 150) (g' := 32) (q := 0) rfl rfl rfl tgz_0 (by decide +kernel) h15 (by decide +kernel) (by decide +kernel) (fun h21 => ?_)
      refine En_Ps 1 (pc' := 25) (lv' := [(0, .ref 0), (1, .int a)]) (st' := [.int a, .ref 150]) rfl ?_
      refine En_aald (g' := 33) (u := 0) rfl rfl tgz_150 (by decide +kernel) h15 (by omega) (lnI (by decide +kernel : LN _ = 4) (by omega)) (FTsgl (by decide +kernel)) (fun a24 h23 ha24 => ?_)
      refine En_getI (j := 1) (l := 0) (u := 1) rfl rfl rfl ha24 (by decide +kernel) h15 (by decide +kernel) (fun z26 h25 h27 h28 => ?_)
      refine En_iNe _ rfl rfl (fun h29 => ?_) (fun h29 => ?_)
      · refine En_Ps 1 (pc' := 36) (lv' := [(0, .ref 0), (1, .int a)]) (st' := [.ref 0]) rfl ?_
        refine En_getK (j := 6) h21 rfl rfl rfl tgz_0 (by decide +kernel) ?_
        refine En_Ps 1 (pc' := 40) (lv' := [(0, .ref 0), (1, .int a)]) (st' := [.int a, .ref 150]) rfl ?_
        refine En_aald (g' := 33) (u := 0) rfl rfl tgz_150 (by decide +kernel) h15 (by omega) (lnI (by decide +kernel : LN _ = 4) (by omega)) (FTsgl (by decide +kernel)) (fun a31 h30 ha31 => ?_)
        refine En_Ps 1 (pc' := 42) (lv' := [(0, .ref 0), (1, .int a)]) (st' := [.ref 0, .ref a31]) rfl ?_
        refine En_getK (j := 9) ((h16 _ _ (inW tgz_0 (by decide +kernel))).trans ((h5 _ _ (inW tgz_0 (by decide +kernel))).trans h_p)) rfl rfl rfl tgz_0 (by decide +kernel) ?_
        refine En_callV rfl rfl rfl rfl rfl rfl rfl rfl hp (by decide +kernel) rfl (c_51 σ14 h15 p hp sg ((h16 _ _ (inW hp (by decide +kernel))).trans ((h5 _ _ (inW hp (by decide +kernel))).trans h_sg)) (by first | exact q_a555021d16 hp0 | omega)) (by decide) (by decide) (fun v33 σ34 h32 => ?_)
        obtain ⟨h35, h36, z38, rfl, h37⟩ := h32
        have h39 := Fr_trans h19 h36 (by decide +kernel)
        refine En_callV rfl rfl rfl rfl rfl rfl rfl rfl ha31 (by decide +kernel) rfl (c_87 σ34 h35 a31 ha31 z38) (by decide) (by decide) (fun v41 σ42 h40 => ?_)
        obtain ⟨h43, h44, z46, rfl, h45⟩ := h40
        have h47 := Fr_trans h39 h44 (by decide +kernel)
        refine En_iEq _ rfl rfl (fun h48 => ?_) (fun h48 => ?_)
        · refine En_Ps 1 (pc' := 60) (lv' := [(0, .ref 0), (1, .int a)]) (st' := [.int (((Int8.ofInt (-2)).toInt32))]) rfl ?_
          refine En_top (by decide : ((Int8.ofInt (-2)).toInt32).toInt = -2) (fun z49 h50 => ?_)
          exact En_ret (v := some (.int z49)) rfl rfl rfl ⟨h43, h47, z49, rfl, ⟨by first | exact q_2583522324 h50 | omega, by first | exact q_bbb39ffa1e h50 | omega, fun _ => by omega⟩⟩
        · refine En_Ps 2 (pc' := 60) (lv' := [(0, .ref 0), (1, .int a)]) (st' := [.int ((Int32.ofInt 0))]) rfl ?_
          refine En_top (by decide : (Int32.ofInt 0).toInt = 0) (fun z51 h52 => ?_)
          exact En_ret (v := some (.int z51)) rfl rfl rfl ⟨h43, h47, z51, rfl, ⟨by first | exact q_49fb6350c2 h52 | omega, by first | exact q_c5d285f1b9 h52 | omega, fun _ => by omega⟩⟩
      · refine En_Ps 1 (pc' := 34) (lv' := [(0, .ref 0), (1, .int a)]) (st' := [.int (((Int8.ofInt (-6)).toInt32))]) rfl ?_
        refine En_top (by decide : ((Int8.ofInt (-6)).toInt32).toInt = -6) (fun z53 h54 => ?_)
        exact En_ret (v := some (.int z53)) rfl rfl rfl ⟨h15, h19, z53, rfl, ⟨by first | exact q_597c727cce h54 | omega, by first | exact q_9bcb887de1 h54 | omega, fun _ => by omega⟩⟩
    · refine En_Ps 1 (pc' := 19) (lv' := [(0, .ref 0), (1, .int a)]) (st' := [.int (((Int8.ofInt (-2)).toInt32))]) rfl ?_
      refine En_top (by decide : ((Int8.ofInt (-2)).toInt32).toInt = -2) (fun z55 h56 => ?_)
      exact En_ret (v := some (.int z55)) rfl rfl rfl ⟨h15, h19, z55, rfl, ⟨by first | exact q_2583522324 h56 | omega, by first | exact q_bbb39ffa1e h56 | omega, fun _ => by omega⟩⟩
/-- DoorSchool.leftAtWorst(LDoorSchool$Slot;I)I -/
abbrev P_153 (σ0 : SG) (a : Nat) (b : Int32) (p : Nat) (sg : Int32) : PO := fun v σ => WT σ ∧ Fr [] σ0 σ ∧ ∃ ret : Int32, v = some (.int ret) ∧ -ret.toInt ≤ 0 ∧ ret.toInt - 81 ≤ 0
set_option maxRecDepth 10000 in
set_option maxHeartbeats 4000000 in
theorem c_153 (σ0 : SG) (hσ0 : WT σ0) (a : Nat) (ha : TG a = 33) (b : Int32) (p : Nat) (hp : TG p = 18) (h_p : (σ0 0)[9]? = some (.ref p)) (sg : Int32) (h_sg : (σ0 p)[1]? = some (.int sg)) (hp0 : -sg.toInt ≤ 0) : En 2 46 none mr_153 (P_153 σ0 a b p sg) 0 [(0, .ref 0), (1, .ref a), (2, .int b)] [] σ0 := by
  obtain ⟨hl_sg, hu_sg⟩ := WT_int hσ0 (g := 18) hp (by decide +kernel) (l := (-1)) (u := 4) (by decide +kernel) h_sg
  have hF0 : Fr [] σ0 σ0 := Fr_rfl
  refine En_Ps 2 (pc' := 2) (lv' := [(0, .ref 0), (1, .ref a), (2, .int b)]) (st' := [.int ((Int32.ofInt 1)), .ref a]) rfl ?_
  have := (by decide : ((Int32.ofInt 1)).toInt = 1)
  refine En_callV rfl rfl rfl rfl rfl rfl rfl rfl ha (by decide +kernel) rfl (c_89 σ0 hσ0 a ha ((Int32.ofInt 1))) (by decide) (by decide) (fun v2 σ3 h1 => ?_)
  obtain ⟨h4, h5, z7, rfl, h6⟩ := h1
  have h8 := Fr_trans hF0 h5 (by decide +kernel)
  refine En_Ps 3 (pc' := 8) (lv' := [(3, .int z7), (0, .ref 0), (1, .ref a), (2, .int b)]) (st' := [.int ((Int32.ofInt 0)), .ref a]) rfl ?_
  have := (by decide : ((Int32.ofInt 0)).toInt = 0)
  refine En_callV rfl rfl rfl rfl rfl rfl rfl rfl ha (by decide +kernel) rfl (c_89 σ3 h4 a ha ((Int32.ofInt 0))) (by decide) (by decide) (fun v10 σ11 h9 => ?_)
  obtain ⟨h12, h13, z15, rfl, h14⟩ := h9
  have h16 := Fr_trans h8 h13 (by decide +kernel)
  refine En_Ps 4 (pc' := 16) (lv' := [(4, .int z15), (3, .int z7), (0, .ref 0), (1, .ref a), (2, .int b)]) (st' := [.int ((((Int32.ofInt 1)) <<< (b &&& 31)))]) rfl ?_
  refine En_hav (fun z17 => ?_)
  refine En_Ps 2 (pc' := 19) (lv' := [(5, .int z17), (4, .int z15), (3, .int z7), (0, .ref 0), (1, .ref a), (2, .int b)]) (st' := [.ref 0]) rfl ?_
  refine En_getU (j := 2) (u := 4) (g' := 4) (q := 0) rfl rfl rfl tgz_0 (by decide +kernel) h12 (by decide +kernel) (by decide +kernel) (fun h18 => ?_)
  refine En_Ps 3 (pc' := 26) (lv' := [(5, .int z17), (4, .int z15), (3, .int z7), (0, .ref 0), (1, .ref a), (2, .int b)]) (st' := [.int ((z7 ||| z17)), .ref 4]) rfl ?_
  refine En_hav (fun z20 => ?_)
  refine En_Ps 1 (pc' := 28) (lv' := [(5, .int z17), (4, .int z15), (3, .int z7), (0, .ref 0), (1, .ref a), (2, .int b)]) (st' := [.int z15, .int z20, .ref 4]) rfl ?_
  refine En_callV rfl rfl rfl rfl rfl rfl rfl rfl tgz_4 (by decide +kernel) rfl (c_79 σ11 h12 z20 z15) (by decide) (by decide) (fun v22 σ23 h21 => ?_)
  obtain ⟨h24, h25, z27, rfl, h26⟩ := h21
  have h28 := Fr_trans h16 h25 (by decide +kernel)
  refine En_Ps 1 (pc' := 32) (lv' := [(5, .int z17), (4, .int z15), (3, .int z7), (0, .ref 0), (1, .ref a), (2, .int b)]) (st' := [.ref 0, .int z27]) rfl ?_
  refine En_getK (j := 2) ((h25 _ _ (inW tgz_0 (by decide +kernel))).trans h18) rfl rfl rfl tgz_0 (by decide +kernel) ?_
  refine En_Ps 4 (pc' := 41) (lv' := [(5, .int z17), (4, .int z15), (3, .int z7), (0, .ref 0), (1, .ref a), (2, .int b)]) (st' := [.int ((z15 ||| z17)), .int z7, .ref 4, .int z27]) rfl ?_
  refine En_hav (fun z29 => ?_)
  refine En_callV rfl rfl rfl rfl rfl rfl rfl rfl tgz_4 (by decide +kernel) rfl (c_79 σ23 h24 z7 z29) (by decide) (by decide) (fun v31 σ32 h30 => ?_)
  obtain ⟨h33, h34, z36, rfl, h35⟩ := h30
  have h37 := Fr_trans h28 h34 (by decide +kernel)
  refine En_callS rfl rfl rfl rfl rfl rfl rfl rfl rfl (c_10 σ32 h33 z27 z36) (by decide) (by decide) (fun v39 σ40 h38 => ?_)
  obtain ⟨h41, h42, z44, rfl, h43⟩ := h38
  have h45 := Fr_trans h37 h42 (by decide +kernel)
  exact En_ret (v := some (.int z44)) rfl rfl rfl ⟨h41, h45, z44, rfl, ⟨by first | exact q_817530b61c h43.1 h26.1 | omega, by omega⟩⟩
/-- DoorSchool.askedOf(LDoorSchool$Slot;)I -/
abbrev P_104 (σ0 : SG) (a : Nat) (p : Nat) (sg : Int32) : PO := fun v σ => WT σ ∧ Fr [] σ0 σ ∧ ∃ ret : Int32, v = some (.int ret) ∧ -ret.toInt - 1 ≤ 0 ∧ ret.toInt - 15 ≤ 0
set_option maxRecDepth 10000 in
set_option maxHeartbeats 4000000 in
theorem c_104 (σ0 : SG) (hσ0 : WT σ0) (a : Nat) (ha : TG a = 33) (p : Nat) (hp : TG p = 18) (h_p : (σ0 0)[9]? = some (.ref p)) (sg : Int32) (h_sg : (σ0 p)[1]? = some (.int sg)) (hp0 : -sg.toInt ≤ 0) : En 3 71 none mr_104 (P_104 σ0 a p sg) 0 [(0, .ref 0), (1, .ref a)] [] σ0 := by
  obtain ⟨hl_sg, hu_sg⟩ := WT_int hσ0 (g := 18) hp (by decide +kernel) (l := (-1)) (u := 4) (by decide +kernel) h_sg
  have hF0 : Fr [] σ0 σ0 := Fr_rfl
  refine En_Ps 3 (pc' := 3) (lv' := [(2, .int ((Int32.ofInt (-1)))), (0, .ref 0), (1, .ref a)]) (st' := [.ref 0]) rfl ?_
  refine En_getU (j := 2) (u := 4) (g' := 4) (q := 0) rfl rfl rfl tgz_0 (by decide +kernel) hσ0 (by decide +kernel) (by decide +kernel) (fun h1 => ?_)
  refine En_Ps 2 (pc' := 8) (lv' := [(2, .int ((Int32.ofInt (-1)))), (0, .ref 0), (1, .ref a)]) (st' := [.int ((Int32.ofInt 1)), .ref a, .ref 4]) rfl ?_
  have := (by decide : ((Int32.ofInt 1)).toInt = 1)
  refine En_callV rfl rfl rfl rfl rfl rfl rfl rfl ha (by decide +kernel) rfl (c_89 σ0 hσ0 a ha ((Int32.ofInt 1))) (by decide) (by decide) (fun v4 σ5 h3 => ?_)
  obtain ⟨h6, h7, z9, rfl, h8⟩ := h3
  have h10 := Fr_trans hF0 h7 (by decide +kernel)
  refine En_Ps 2 (pc' := 13) (lv' := [(2, .int ((Int32.ofInt (-1)))), (0, .ref 0), (1, .ref a)]) (st' := [.int ((Int32.ofInt 0)), .ref a, .int z9, .ref 4]) rfl ?_
  have := (by decide : ((Int32.ofInt 0)).toInt = 0)
  refine En_callV rfl rfl rfl rfl rfl rfl rfl rfl ha (by decide +kernel) rfl (c_89 σ5 h6 a ha ((Int32.ofInt 0))) (by decide) (by decide) (fun v12 σ13 h11 => ?_)
  obtain ⟨h14, h15, z17, rfl, h16⟩ := h11
  have h18 := Fr_trans h10 h15 (by decide +kernel)
  refine En_callV rfl rfl rfl rfl rfl rfl rfl rfl tgz_4 (by decide +kernel) rfl (c_79 σ13 h14 z9 z17) (by decide) (by decide) (fun v20 σ21 h19 => ?_)
  obtain ⟨h22, h23, z25, rfl, h24⟩ := h19
  have h26 := Fr_trans h18 h23 (by decide +kernel)
  refine En_Ps 3 (pc' := 23) (lv' := [(4, .int ((Int32.ofInt 0))), (3, .int z25), (2, .int ((Int32.ofInt (-1)))), (0, .ref 0), (1, .ref a)]) (st' := []) rfl ?_
  have key23 : ∀ (n23 : Nat) (σ30 : SG) (y27 : Int32) (y28 : Int32) (y29 : Int32), WT σ30 → Fr [] σ0 σ30 → (σ30 0)[9]? = some (.ref p) → (σ30 p)[1]? = some (.int sg) → (σ30 0)[2]? = some (.ref 4) → (-1) ≤ y27.toInt → y27.toInt ≤ 15 → 0 ≤ y28.toInt → y28.toInt ≤ 81 → 0 ≤ y29.toInt → y29.toInt ≤ 16 → y27.toInt - y29.toInt + 1 ≤ 0 → -y29.toInt + 16 < (n23 : Int) → En 3 71 none mr_104 (P_104 σ0 a p sg) 23 [(0, .ref 0), (1, .ref a), (2, .int y27), (3, .int y28), (4, .int y29)] [] σ30 := by
    intro n23
    induction n23 with
    | zero =>
      intro σ30 y27 y28 y29 h31 h32 h33 h34 h35 h36 h37 h38 h39 h40 h41 h42 h43
      first | exact (q_511f6d33ac h43 h41).elim | (exfalso; omega)
    | succ n23 ih23 =>
      intro σ30 y27 y28 y29 h31 h32 h33 h34 h35 h36 h37 h38 h39 h40 h41 h42 h43
      refine En_Ps 2 (pc' := 26) (lv' := [(0, .ref 0), (1, .ref a), (2, .int y27), (3, .int y28), (4, .int y29)]) (st' := [.ref 0, .int y29]) rfl ?_
      refine En_getK (j := 9) h33 rfl rfl rfl tgz_0 (by decide +kernel) ?_
      refine En_callV rfl rfl rfl rfl rfl rfl rfl rfl hp (by decide +kernel) rfl (c_51 σ30 h31 p hp sg h34 (by first | exact q_a555021d16 hp0 | omega)) (by decide) (by decide) (fun v45 σ46 h44 => ?_)
      obtain ⟨h47, h48, z50, rfl, h49⟩ := h44
      have h51 := Fr_trans h32 h48 (by decide +kernel)
      refine En_icGe _ rfl rfl rfl (fun h52 => ?_) (fun h52 => ?_)
      · refine En_Ps 1 (pc' := 63) (lv' := [(0, .ref 0), (1, .ref a), (2, .int y27), (3, .int y28), (4, .int y29)]) (st' := [.int y27]) rfl ?_
        exact En_ret (v := some (.int y27)) rfl rfl rfl ⟨h47, h51, y27, rfl, ⟨by first | exact q_909eef6c0e h36 | omega, by first | exact q_867a9ac627 h37 | omega⟩⟩
      · refine En_Ps 3 (pc' := 39) (lv' := [(0, .ref 0), (1, .ref a), (2, .int y27), (3, .int y28), (4, .int y29)]) (st' := [.int y29, .ref a, .ref 0]) rfl ?_
        refine En_callV rfl rfl rfl rfl rfl rfl rfl rfl tgz_0 (by decide +kernel) rfl (c_153 σ46 h47 a ha y29 p hp ((h48 _ _ (inW tgz_0 (by decide +kernel))).trans h33) sg ((h48 _ _ (inW hp (by decide +kernel))).trans h34) (by first | exact q_a555021d16 hp0 | omega)) (by decide) (by decide) (fun v54 σ55 h53 => ?_)
        obtain ⟨h56, h57, z59, rfl, h58⟩ := h53
        have h60 := Fr_trans h51 h57 (by decide +kernel)
        refine En_Ps 3 (pc' := 47) (lv' := [(5, .int z59), (0, .ref 0), (1, .ref a), (2, .int y27), (3, .int y28), (4, .int y29)]) (st' := [.int y28, .int z59]) rfl ?_
        refine En_icGe _ rfl rfl rfl (fun h61 => ?_) (fun h61 => ?_)
        · refine En_Ps 1 (pc' := 59) (lv' := [(4, .int ((y29 + Int32.ofInt 1))), (5, .int z59), (0, .ref 0), (1, .ref a), (2, .int y27), (3, .int y28)]) (st' := []) rfl ?_
          refine En_lv1 (addI rfl (by decide : (Int32.ofInt 1).toInt = 1) (by first | exact q_465ab79ac1 h40 | omega) (by first | exact q_f3f8e04381 h41 | omega)) (fun z62 h63 => ?_)
          refine En_Ps 1 (pc' := 23) (lv' := [(4, .int z62), (5, .int z59), (0, .ref 0), (1, .ref a), (2, .int y27), (3, .int y28)]) (st' := []) rfl ?_
          refine En_lv (lv := [(0, .ref 0), (1, .ref a), (2, .int y27), (3, .int y28), (4, .int z62)]) ⟨rfl, rfl, rfl, rfl, rfl, trivial⟩ ?_
          exact ih23 σ55 y27 y28 z62 h56 h60 ((h57 _ _ (inW tgz_0 (by decide +kernel))).trans ((h48 _ _ (inW tgz_0 (by decide +kernel))).trans h33)) ((h57 _ _ (inW hp (by decide +kernel))).trans ((h48 _ _ (inW hp (by decide +kernel))).trans h34)) ((h57 _ _ (inW tgz_0 (by decide +kernel))).trans ((h48 _ _ (inW tgz_0 (by decide +kernel))).trans h35)) (by first | exact q_77b189e83d h36 | omega) (by first | exact q_5a4d8a7e08 h37 | omega) (by first | exact q_58e6e51dcc h38 | omega) (by first | exact q_938d18a0b8 h39 | omega) (by first | exact q_35104ce9d3 h63 h40 | omega) (by first | exact q_34dc714687 h63 h52 h49.2 | omega) (by first | exact q_6591527e3e h42 h63 | omega) (by first | exact q_c5d740bdff h63 h43 | omega)
        · refine En_Ps 5 (pc' := 59) (lv' := [(4, .int ((y29 + Int32.ofInt 1))), (2, .int y29), (3, .int z59), (5, .int z59), (0, .ref 0), (1, .ref a)]) (st' := []) rfl ?_
          refine En_lv1 (addI rfl (by decide : (Int32.ofInt 1).toInt = 1) (by first | exact q_465ab79ac1 h40 | omega) (by first | exact q_f3f8e04381 h41 | omega)) (fun z64 h65 => ?_)
          refine En_Ps 1 (pc' := 23) (lv' := [(4, .int z64), (2, .int y29), (3, .int z59), (5, .int z59), (0, .ref 0), (1, .ref a)]) (st' := []) rfl ?_
          refine En_lv (lv := [(0, .ref 0), (1, .ref a), (2, .int y29), (3, .int z59), (4, .int z64)]) ⟨rfl, rfl, rfl, rfl, rfl, trivial⟩ ?_
          exact ih23 σ55 y29 z59 z64 h56 h60 ((h57 _ _ (inW tgz_0 (by decide +kernel))).trans ((h48 _ _ (inW tgz_0 (by decide +kernel))).trans h33)) ((h57 _ _ (inW hp (by decide +kernel))).trans ((h48 _ _ (inW hp (by decide +kernel))).trans h34)) ((h57 _ _ (inW tgz_0 (by decide +kernel))).trans ((h48 _ _ (inW tgz_0 (by decide +kernel))).trans h35)) (by first | exact q_5b439548fc h40 | omega) (by first | exact q_c15b485600 h52 h49.2 | omega) (by first | exact q_ef1e8e38bf h58.1 | omega) (by first | exact q_e0af57759e h58.2 | omega) (by first | exact q_35104ce9d3 h65 h40 | omega) (by first | exact q_34dc714687 h65 h52 h49.2 | omega) (by first | exact q_2fedec469a h65 | omega) (by first | exact q_c5d740bdff h65 h43 | omega)
  have := (by decide : (Int32.ofInt (-1)).toInt = -1)
  have := (by decide : (Int32.ofInt 0).toInt = 0)
  refine En_lv (lv := [(0, .ref 0), (1, .ref a), (2, .int ((Int32.ofInt (-1)))), (3, .int z25), (4, .int ((Int32.ofInt 0)))]) ⟨rfl, rfl, rfl, rfl, rfl, trivial⟩ ?_
  exact key23 (Int.toNat (16) + 1) σ21 ((Int32.ofInt (-1))) z25 ((Int32.ofInt 0)) h22 h26 ((h23 _ _ (inW tgz_0 (by decide +kernel))).trans ((h15 _ _ (inW tgz_0 (by decide +kernel))).trans ((h7 _ _ (inW tgz_0 (by decide +kernel))).trans h_p))) ((h23 _ _ (inW hp (by decide +kernel))).trans ((h15 _ _ (inW hp (by decide +kernel))).trans ((h7 _ _ (inW hp (by decide +kernel))).trans h_sg))) ((h23 _ _ (inW tgz_0 (by decide +kernel))).trans ((h15 _ _ (inW tgz_0 (by decide +kernel))).trans ((h7 _ _ (inW tgz_0 (by decide +kernel))).trans h1))) (by decide) (by decide) (by first | exact q_ef1e8e38bf h24.1 | omega) (by first | exact q_e0af57759e h24.2 | omega) (by decide) (by decide) (by omega) (by first | exact toN_lt _ | omega)
/-- DoorSchool.ask(I)I -/
abbrev P_103 (σ0 : SG) (a : Int32) (p : Nat) (sg : Int32) : PO := fun v σ => WT σ ∧ Fr [] σ0 σ ∧ ∃ ret : Int32, v = some (.int ret) ∧ -ret.toInt - 6 ≤ 0 ∧ ret.toInt - 15 ≤ 0
set_option maxRecDepth 10000 in
set_option maxHeartbeats 4000000 in
theorem c_103 (σ0 : SG) (hσ0 : WT σ0) (a : Int32) (p : Nat) (hp : TG p = 18) (h_p : (σ0 0)[9]? = some (.ref p)) (sg : Int32) (h_sg : (σ0 p)[1]? = some (.int sg)) (hp0 : -sg.toInt ≤ 0) : En 4 96 none mr_103 (P_103 σ0 a p sg) 0 [(0, .ref 0), (1, .int a)] [] σ0 := by
  obtain ⟨hl_sg, hu_sg⟩ := WT_int hσ0 (g := 18) hp (by decide +kernel) (l := (-1)) (u := 4) (by decide +kernel) h_sg
  have hF0 : Fr [] σ0 σ0 := Fr_rfl
  refine En_Ps 2 (pc' := 2) (lv' := [(0, .ref 0), (1, .int a)]) (st' := [.int a, .ref 0]) rfl ?_
  refine En_callV rfl rfl rfl rfl rfl rfl rfl rfl tgz_0 (by decide +kernel) rfl (c_180 σ0 hσ0 a p hp h_p sg h_sg (by first | exact q_a555021d16 hp0 | omega)) (by decide) (by decide) (fun v2 σ3 h1 => ?_)
  obtain ⟨h4, h5, z7, rfl, h6⟩ := h1
  have h8 := Fr_trans hF0 h5 (by decide +kernel)
  refine En_Ps 2 (pc' := 7) (lv' := [(2, .int z7), (0, .ref 0), (1, .int a)]) (st' := [.int z7]) rfl ?_
  refine En_iEq _ rfl rfl (fun h9 => ?_) (fun h9 => ?_)
  · refine En_Ps 2 (pc' := 16) (lv' := [(2, .int z7), (0, .ref 0), (1, .int a)]) (st' := [.ref 0, .ref 0]) rfl ?_
    refine En_getU (j := 6) (u := 150) (g' := 32) (q := 0) rfl rfl rfl tgz_0 (by decide +kernel) h4 (by decide +kernel) (by decide +kernel) (fun h10 => ?_)
    refine En_Ps 1 (pc' := 20) (lv' := [(2, .int z7), (0, .ref 0), (1, .int a)]) (st' := [.int a, .ref 150, .ref 0]) rfl ?_
    refine En_aald (g' := 33) (u := 0) rfl rfl tgz_150 (by decide +kernel) h4 (by omega) (lnI (by decide +kernel : LN _ = 4) (by omega)) (FTsgl (by decide +kernel)) (fun a13 h12 ha13 => ?_)
    refine En_callV rfl rfl rfl rfl rfl rfl rfl rfl tgz_0 (by decide +kernel) rfl (c_104 σ3 h4 a13 ha13 p hp ((h5 _ _ (inW tgz_0 (by decide +kernel))).trans h_p) sg ((h5 _ _ (inW hp (by decide +kernel))).trans h_sg) (by first | exact q_a555021d16 hp0 | omega)) (by decide) (by decide) (fun v15 σ16 h14 => ?_)
    obtain ⟨h17, h18, z20, rfl, h19⟩ := h14
    have h21 := Fr_trans h8 h18 (by decide +kernel)
    exact En_ret (v := some (.int z20)) rfl rfl rfl ⟨h17, h21, z20, rfl, ⟨by first | exact q_1d41d4b205 h19.1 | omega, by first | exact q_cc7dfeacf0 h19.2 | omega⟩⟩
  · refine En_Ps 2 (pc' := 24) (lv' := [(2, .int z7), (0, .ref 0), (1, .int a)]) (st' := [.int z7]) rfl ?_
    exact En_ret (v := some (.int z7)) rfl rfl rfl ⟨h4, h8, z7, rfl, ⟨by first | exact q_629d629181 h6.1 | omega, by first | exact q_c633bca181 h9 h6.2.1 | omega⟩⟩
/-- DoorSchool.begins(I)I -/
abbrev P_106 (σ0 : SG) (a : Int32) (p : Nat) (sg : Int32) : PO := fun v σ => WT σ ∧ Fr [(14, 3), (14, 4), (15, 0), (16, 0), (17, 0)] σ0 σ ∧ ∃ ret : Int32, v = some (.int ret) ∧ -ret.toInt - 2 ≤ 0 ∧ ret.toInt - 54 ≤ 0
set_option maxRecDepth 10000 in
set_option maxHeartbeats 4000000 in
theorem c_106 (σ0 : SG) (hσ0 : WT σ0) (a : Int32) (p : Nat) (hp : TG p = 18) (h_p : (σ0 0)[9]? = some (.ref p)) (sg : Int32) (h_sg : (σ0 p)[1]? = some (.int sg)) (hp0 : -sg.toInt ≤ 0) : En 11 292 none mr_106 (P_106 σ0 a p sg) 0 [(0, .ref 0), (1, .int a)] [] σ0 := by
  obtain ⟨hl_sg, hu_sg⟩ := WT_int hσ0 (g := 18) hp (by decide +kernel) (l := (-1)) (u := 4) (by decide +kernel) h_sg
  have hF0 : Fr [(14, 3), (14, 4), (15, 0), (16, 0), (17, 0)] σ0 σ0 := Fr_rfl
  refine En_Ps 1 (pc' := 1) (lv' := [(0, .ref 0), (1, .int a)]) (st' := [.int a]) rfl ?_
  refine En_iLt _ rfl rfl (fun h1 => ?_) (fun h1 => ?_)
  · refine En_Ps 1 (pc' := 17) (lv' := [(0, .ref 0), (1, .int a)]) (st' := [.int (((Int8.ofInt (-2)).toInt32))]) rfl ?_
    refine En_top (by decide : ((Int8.ofInt (-2)).toInt32).toInt = -2) (fun z2 h3 => ?_)
    exact En_ret (v := some (.int z2)) rfl rfl rfl ⟨hσ0, hF0, z2, rfl, ⟨by first | exact q_f35c5d346c h3 | omega, by first | exact q_18dc70cc6b h3 | omega⟩⟩
  · refine En_Ps 2 (pc' := 6) (lv' := [(0, .ref 0), (1, .int a)]) (st' := [.ref 0, .int a]) rfl ?_
    refine En_getK (j := 9) h_p rfl rfl rfl tgz_0 (by decide +kernel) ?_
    refine En_getI (j := 11) (l := 0) (u := 6) rfl rfl rfl hp (by decide +kernel) hσ0 (by decide +kernel) (fun z5 h4 h6 h7 => ?_)
    refine En_icLt _ rfl rfl rfl (fun h8 => ?_) (fun h8 => ?_)
    · refine En_Ps 1 (pc' := 19) (lv' := [(0, .ref 0), (1, .int a)]) (st' := [.ref 0]) rfl ?_
      refine En_getU (j := 5) (u := 14) (g' := 14) (q := 0) rfl rfl rfl tgz_0 (by decide +kernel) hσ0 (by decide +kernel) (by decide +kernel) (fun h9 => ?_)
      refine En_Ps 1 (pc' := 23) (lv' := [(0, .ref 0), (1, .int a)]) (st' := [.ref 0, .ref 14]) rfl ?_
      refine En_getK (j := 9) h_p rfl rfl rfl tgz_0 (by decide +kernel) ?_
      refine En_Ps 1 (pc' := 27) (lv' := [(0, .ref 0), (1, .int a)]) (st' := [.ref 0, .ref p, .ref 14]) rfl ?_
      refine En_getK (j := 9) h_p rfl rfl rfl tgz_0 (by decide +kernel) ?_
      refine En_getI (j := 2) (l := (-1)) (u := 3) rfl rfl rfl hp (by decide +kernel) hσ0 (by decide +kernel) (fun z12 h11 h13 h14 => ?_)
      refine En_callV rfl rfl rfl rfl rfl rfl rfl rfl tgz_14 (by decide +kernel) rfl (c_98 σ0 hσ0 p hp z12 (geI rfl (by first | exact q_77b189e83d h13 | omega)) (leI rfl (by first | exact q_571ae29550 h14 | omega))) (by decide) (by decide) (fun v16 σ17 h15 => ?_)
      obtain ⟨h18, h19, z21, rfl, h20⟩ := h15
      have h22 := Fr_trans hF0 h19 (by decide +kernel)
      refine En_Ps 2 (pc' := 38) (lv' := [(0, .ref 0), (1, .int a)]) (st' := [.ref 0]) rfl ?_
      refine En_getK (j := 5) ((h19 _ _ (inW tgz_0 (by decide +kernel))).trans h9) rfl rfl rfl tgz_0 (by decide +kernel) ?_
      refine En_getU (j := 2) (u := 17) (g' := 17) (q := 0) rfl rfl rfl tgz_14 (by decide +kernel) h18 (by decide +kernel) (by decide +kernel) (fun h23 => ?_)
      refine En_Ps 1 (pc' := 45) (lv' := [(0, .ref 0), (1, .int a)]) (st' := [.int a, .ref 17]) rfl ?_
      refine En_iald (l := 0) (u := 54) rfl rfl tgz_17 (by decide +kernel) h18 (by first | exact q_58e6e51dcc h1 | omega) (lnI (by decide +kernel : LN _ = 6) (by first | exact q_f252e21553 h8 h7 | omega)) (FTsgl (by decide +kernel)) (fun z26 h25 h27 h28 => ?_)
      exact En_ret (v := some (.int z26)) rfl rfl rfl ⟨h18, h22, z26, rfl, ⟨by first | exact q_ea7f0ffdb1 h27 | omega, by first | exact q_5cfa27335b h28 | omega⟩⟩
    · refine En_Ps 1 (pc' := 17) (lv' := [(0, .ref 0), (1, .int a)]) (st' := [.int (((Int8.ofInt (-2)).toInt32))]) rfl ?_
      refine En_top (by decide : ((Int8.ofInt (-2)).toInt32).toInt = -2) (fun z29 h30 => ?_)
      exact En_ret (v := some (.int z29)) rfl rfl rfl ⟨hσ0, hF0, z29, rfl, ⟨by first | exact q_f35c5d346c h30 | omega, by first | exact q_18dc70cc6b h30 | omega⟩⟩
/-- DoorSchool.marksFor(I)I -/
abbrev P_156 (σ0 : SG) (a : Int32) (p : Nat) (sg : Int32) : PO := fun v σ => WT σ ∧ Fr [] σ0 σ ∧ ∃ ret : Int32, v = some (.int ret) ∧ -ret.toInt ≤ 0 ∧ ret.toInt - 63 ≤ 0
set_option maxRecDepth 10000 in
set_option maxHeartbeats 4000000 in
theorem c_156 (σ0 : SG) (hσ0 : WT σ0) (a : Int32) (p : Nat) (hp : TG p = 18) (h_p : (σ0 0)[9]? = some (.ref p)) (sg : Int32) (h_sg : (σ0 p)[1]? = some (.int sg)) (hp0 : -sg.toInt ≤ 0) : En 2 44 none mr_156 (P_156 σ0 a p sg) 0 [(0, .ref 0), (1, .int a)] [] σ0 := by
  obtain ⟨hl_sg, hu_sg⟩ := WT_int hσ0 (g := 18) hp (by decide +kernel) (l := (-1)) (u := 4) (by decide +kernel) h_sg
  have hF0 : Fr [] σ0 σ0 := Fr_rfl
  refine En_Ps 1 (pc' := 1) (lv' := [(0, .ref 0), (1, .int a)]) (st' := [.ref 0]) rfl ?_
  refine En_getK (j := 9) h_p rfl rfl rfl tgz_0 (by decide +kernel) ?_
  refine En_getR (j := 5) (g' := 20) (u := 0) rfl rfl rfl hp (by decide +kernel) hσ0 (by decide +kernel) (fun a2 h1 ha2 => ?_)
  refine En_Ps 1 (pc' := 8) (lv' := [(0, .ref 0), (1, .int a)]) (st' := [.int a, .ref a2]) rfl ?_
  refine En_callV rfl rfl rfl rfl rfl rfl rfl rfl ha2 (by decide +kernel) rfl (c_32 σ0 hσ0 a2 ha2 a) (by decide) (by decide) (fun v4 σ5 h3 => ?_)
  obtain ⟨h6, h7, z9, rfl, h8⟩ := h3
  have h10 := Fr_trans hF0 h7 (by decide +kernel)
  refine En_callS rfl rfl rfl rfl rfl rfl rfl rfl rfl (c_7 σ5 h6 z9) (by decide) (by decide) (fun v12 σ13 h11 => ?_)
  obtain ⟨h14, h15, z17, rfl, h16⟩ := h11
  have h18 := Fr_trans h10 h15 (by decide +kernel)
  exact En_ret (v := some (.int z17)) rfl rfl rfl ⟨h14, h18, z17, rfl, ⟨by first | exact q_a555021d16 h16.1 | omega, by first | exact q_4b9206e141 h16.2 | omega⟩⟩
/-- DoorSchool.best()I -/
abbrev P_107 (σ0 : SG) (p : Nat) (sg : Int32) : PO := fun v σ => WT σ ∧ Fr [] σ0 σ ∧ ∃ ret : Int32, v = some (.int ret) ∧ -ret.toInt - 2 ≤ 0 ∧ ret.toInt - 3 ≤ 0
set_option maxRecDepth 10000 in
set_option maxHeartbeats 4000000 in
theorem c_107 (σ0 : SG) (hσ0 : WT σ0) (p : Nat) (hp : TG p = 18) (h_p : (σ0 0)[9]? = some (.ref p)) (sg : Int32) (h_sg : (σ0 p)[1]? = some (.int sg)) (hp0 : -sg.toInt ≤ 0) : En 4 92 none mr_107 (P_107 σ0 p sg) 0 [(0, .ref 0)] [] σ0 := by
  obtain ⟨hl_sg, hu_sg⟩ := WT_int hσ0 (g := 18) hp (by decide +kernel) (l := (-1)) (u := 4) (by decide +kernel) h_sg
  have hF0 : Fr [] σ0 σ0 := Fr_rfl
  refine En_Ps 1 (pc' := 1) (lv' := [(0, .ref 0)]) (st' := [.ref 0]) rfl ?_
  refine En_getK (j := 9) h_p rfl rfl rfl tgz_0 (by decide +kernel) ?_
  refine En_callV rfl rfl rfl rfl rfl rfl rfl rfl hp (by decide +kernel) rfl (c_43 σ0 hσ0 p hp) (by decide) (by decide) (fun v2 σ3 h1 => ?_)
  obtain ⟨h4, h5, z7, rfl, h6⟩ := h1
  have h8 := Fr_trans hF0 h5 (by decide +kernel)
  refine En_iNe _ rfl rfl (fun h9 => ?_) (fun h9 => ?_)
  · refine En_Ps 6 (pc' := 19) (lv' := [(3, .int ((Int32.ofInt 0))), (2, .int ((Int32.ofInt (-1)))), (1, .int ((Int32.ofInt (-1)))), (0, .ref 0)]) (st' := []) rfl ?_
    have key19 : ∀ (n19 : Nat) (σ13 : SG) (y10 : Int32) (y11 : Int32) (y12 : Int32), WT σ13 → Fr [] σ0 σ13 → (σ13 0)[9]? = some (.ref p) → (σ13 p)[1]? = some (.int sg) → (-1) ≤ y10.toInt → y10.toInt ≤ 3 → (-1) ≤ y11.toInt → y11.toInt ≤ 63 → 0 ≤ y12.toInt → y12.toInt ≤ 4 → y10.toInt - y12.toInt + 1 ≤ 0 → -y12.toInt + 4 < (n19 : Int) → En 4 92 none mr_107 (P_107 σ0 p sg) 19 [(0, .ref 0), (1, .int y10), (2, .int y11), (3, .int y12)] [] σ13 := by
      intro n19
      induction n19 with
      | zero =>
        intro σ13 y10 y11 y12 h14 h15 h16 h17 h18 h19 h20 h21 h22 h23 h24 h25
        first | exact (q_20d6385c6f h25 h23).elim | (exfalso; omega)
      | succ n19 ih19 =>
        intro σ13 y10 y11 y12 h14 h15 h16 h17 h18 h19 h20 h21 h22 h23 h24 h25
        refine En_Ps 2 (pc' := 21) (lv' := [(0, .ref 0), (1, .int y10), (2, .int y11), (3, .int y12)]) (st' := [.ref 0, .int y12]) rfl ?_
        refine En_getK (j := 9) h16 rfl rfl rfl tgz_0 (by decide +kernel) ?_
        refine En_getI (j := 3) (l := 0) (u := 4) rfl rfl rfl hp (by decide +kernel) h14 (by decide +kernel) (fun z27 h26 h28 h29 => ?_)
        refine En_icGe _ rfl rfl rfl (fun h30 => ?_) (fun h30 => ?_)
        · refine En_Ps 1 (pc' := 59) (lv' := [(0, .ref 0), (1, .int y10), (2, .int y11), (3, .int y12)]) (st' := [.int y10]) rfl ?_
          exact En_ret (v := some (.int y10)) rfl rfl rfl ⟨h14, h15, y10, rfl, ⟨by first | exact q_fe58cd40d0 h18 | omega, by first | exact q_e9a8eec0c4 h19 | omega⟩⟩
        · refine En_Ps 3 (pc' := 33) (lv' := [(0, .ref 0), (1, .int y10), (2, .int y11), (3, .int y12)]) (st' := [.int y12, .ref 0, .ref 0]) rfl ?_
          refine En_callV rfl rfl rfl rfl rfl rfl rfl rfl tgz_0 (by decide +kernel) rfl (c_114 σ13 h14 y12 (geI rfl (by first | exact q_58e6e51dcc h22 | omega)) (leI rfl (by first | exact q_5ab2e90ecc h30 h29 | omega)) p hp h16 sg h17 (by first | exact q_a555021d16 hp0 | omega)) (by decide) (by decide) (fun v32 σ33 h31 => ?_)
          obtain ⟨h34, h35, z37, rfl, h36⟩ := h31
          have h38 := Fr_trans h15 h35 (by decide +kernel)
          refine En_callV rfl rfl rfl rfl rfl rfl rfl rfl tgz_0 (by decide +kernel) rfl (c_156 σ33 h34 z37 p hp ((h35 _ _ (inW tgz_0 (by decide +kernel))).trans h16) sg ((h35 _ _ (inW hp (by decide +kernel))).trans h17) (by first | exact q_a555021d16 hp0 | omega)) (by decide) (by decide) (fun v40 σ41 h39 => ?_)
          obtain ⟨h42, h43, z45, rfl, h44⟩ := h39
          have h46 := Fr_trans h38 h43 (by decide +kernel)
          refine En_Ps 3 (pc' := 44) (lv' := [(4, .int z45), (0, .ref 0), (1, .int y10), (2, .int y11), (3, .int y12)]) (st' := [.int y11, .int z45]) rfl ?_
          refine En_icLe _ rfl rfl rfl (fun h47 => ?_) (fun h47 => ?_)
          · refine En_Ps 1 (pc' := 55) (lv' := [(3, .int ((y12 + Int32.ofInt 1))), (4, .int z45), (0, .ref 0), (1, .int y10), (2, .int y11)]) (st' := []) rfl ?_
            refine En_lv1 (addI rfl (by decide : (Int32.ofInt 1).toInt = 1) (by first | exact q_465ab79ac1 h22 | omega) (by first | exact q_f7282962fd h23 | omega)) (fun z48 h49 => ?_)
            refine En_Ps 1 (pc' := 19) (lv' := [(3, .int z48), (4, .int z45), (0, .ref 0), (1, .int y10), (2, .int y11)]) (st' := []) rfl ?_
            refine En_lv (lv := [(0, .ref 0), (1, .int y10), (2, .int y11), (3, .int z48)]) ⟨rfl, rfl, rfl, rfl, trivial⟩ ?_
            exact ih19 σ41 y10 y11 z48 h42 h46 ((h43 _ _ (inW tgz_0 (by decide +kernel))).trans ((h35 _ _ (inW tgz_0 (by decide +kernel))).trans h16)) ((h43 _ _ (inW hp (by decide +kernel))).trans ((h35 _ _ (inW hp (by decide +kernel))).trans h17)) (by first | exact q_77b189e83d h18 | omega) (by first | exact q_da5e9b976f h19 | omega) (by first | exact q_77b189e83d h20 | omega) (by first | exact q_8bf848900a h21 | omega) (by first | exact q_35104ce9d3 h49 h22 | omega) (by first | exact q_de42116b63 h49 h30 h29 | omega) (by first | exact q_6591527e3e h24 h49 | omega) (by first | exact q_3d8d70ace2 h49 h25 | omega)
          · refine En_Ps 5 (pc' := 55) (lv' := [(3, .int ((y12 + Int32.ofInt 1))), (1, .int y12), (2, .int z45), (4, .int z45), (0, .ref 0)]) (st' := []) rfl ?_
            refine En_lv1 (addI rfl (by decide : (Int32.ofInt 1).toInt = 1) (by first | exact q_465ab79ac1 h22 | omega) (by first | exact q_f7282962fd h23 | omega)) (fun z50 h51 => ?_)
            refine En_Ps 1 (pc' := 19) (lv' := [(3, .int z50), (1, .int y12), (2, .int z45), (4, .int z45), (0, .ref 0)]) (st' := []) rfl ?_
            refine En_lv (lv := [(0, .ref 0), (1, .int y12), (2, .int z45), (3, .int z50)]) ⟨rfl, rfl, rfl, rfl, trivial⟩ ?_
            exact ih19 σ41 y12 z45 z50 h42 h46 ((h43 _ _ (inW tgz_0 (by decide +kernel))).trans ((h35 _ _ (inW tgz_0 (by decide +kernel))).trans h16)) ((h43 _ _ (inW hp (by decide +kernel))).trans ((h35 _ _ (inW hp (by decide +kernel))).trans h17)) (by first | exact q_5b439548fc h22 | omega) (by first | exact q_5ab2e90ecc h30 h29 | omega) (by first | exact q_1ab37740a2 h44.1 | omega) (by first | exact q_3ea7e55eca h44.2 | omega) (by first | exact q_35104ce9d3 h51 h22 | omega) (by first | exact q_de42116b63 h51 h30 h29 | omega) (by first | exact q_2fedec469a h51 | omega) (by first | exact q_3d8d70ace2 h51 h25 | omega)
    have := (by decide : (Int32.ofInt (-1)).toInt = -1)
    have := (by decide : (Int32.ofInt (-1)).toInt = -1)
    have := (by decide : (Int32.ofInt 0).toInt = 0)
    refine En_lv (lv := [(0, .ref 0), (1, .int ((Int32.ofInt (-1)))), (2, .int ((Int32.ofInt (-1)))), (3, .int ((Int32.ofInt 0)))]) ⟨rfl, rfl, rfl, rfl, trivial⟩ ?_
    exact key19 (Int.toNat (4) + 1) σ3 ((Int32.ofInt (-1))) ((Int32.ofInt (-1))) ((Int32.ofInt 0)) h4 h8 ((h5 _ _ (inW tgz_0 (by decide +kernel))).trans h_p) ((h5 _ _ (inW hp (by decide +kernel))).trans h_sg) (by decide) (by decide) (by decide) (by decide) (by decide) (by decide) (by omega) (by first | exact toN_lt _ | omega)
  · refine En_Ps 1 (pc' := 12) (lv' := [(0, .ref 0)]) (st' := [.int (((Int8.ofInt (-2)).toInt32))]) rfl ?_
    refine En_top (by decide : ((Int8.ofInt (-2)).toInt32).toInt = -2) (fun z52 h53 => ?_)
    exact En_ret (v := some (.int z52)) rfl rfl rfl ⟨h4, h8, z52, rfl, ⟨by first | exact q_f35c5d346c h53 | omega, by first | exact q_09eb541a79 h53 | omega⟩⟩
/-- DoorSchool.fullSlots()I -/
abbrev P_128 (σ0 : SG) (p : Nat) (sg : Int32) : PO := fun v σ => WT σ ∧ Fr [] σ0 σ ∧ ∃ ret : Int32, v = some (.int ret) ∧ -ret.toInt ≤ 0 ∧ ret.toInt - 4 ≤ 0
set_option maxRecDepth 10000 in
set_option maxHeartbeats 4000000 in
theorem c_128 (σ0 : SG) (hσ0 : WT σ0) (p : Nat) (hp : TG p = 18) (h_p : (σ0 0)[9]? = some (.ref p)) (sg : Int32) (h_sg : (σ0 p)[1]? = some (.int sg)) (hp0 : -sg.toInt ≤ 0) : En 0 0 none mr_128 (P_128 σ0 p sg) 0 [(0, .ref 0)] [] σ0 := by
  obtain ⟨hl_sg, hu_sg⟩ := WT_int hσ0 (g := 18) hp (by decide +kernel) (l := (-1)) (u := 4) (by decide +kernel) h_sg
  have hF0 : Fr [] σ0 σ0 := Fr_rfl
  refine En_Ps 4 (pc' := 4) (lv' := [(2, .int ((Int32.ofInt 0))), (1, .int ((Int32.ofInt 0))), (0, .ref 0)]) (st' := []) rfl ?_
  have key4 : ∀ (n4 : Nat) (σ3 : SG) (y1 : Int32) (y2 : Int32), WT σ3 → Fr [] σ0 σ3 → (σ3 0)[9]? = some (.ref p) → (σ3 p)[1]? = some (.int sg) → 0 ≤ y1.toInt → y1.toInt ≤ 4 → 0 ≤ y2.toInt → y2.toInt ≤ 4 → y1.toInt - y2.toInt ≤ 0 → -y2.toInt + 4 < (n4 : Int) → En 0 0 none mr_128 (P_128 σ0 p sg) 4 [(0, .ref 0), (1, .int y1), (2, .int y2)] [] σ3 := by
    intro n4
    induction n4 with
    | zero =>
      intro σ3 y1 y2 h4 h5 h6 h7 h8 h9 h10 h11 h12 h13
      first | exact (q_20d6385c6f h13 h11).elim | (exfalso; omega)
    | succ n4 ih4 =>
      intro σ3 y1 y2 h4 h5 h6 h7 h8 h9 h10 h11 h12 h13
      refine En_Ps 2 (pc' := 6) (lv' := [(0, .ref 0), (1, .int y1), (2, .int y2)]) (st' := [.int ((Int32.ofInt 4)), .int y2]) rfl ?_
      refine En_icGe _ rfl (by decide : (Int32.ofInt 4).toInt = 4) rfl (fun h14 => ?_) (fun h14 => ?_)
      · refine En_Ps 1 (pc' := 31) (lv' := [(0, .ref 0), (1, .int y1), (2, .int y2)]) (st' := [.int y1]) rfl ?_
        exact En_ret (v := some (.int y1)) rfl rfl rfl ⟨h4, h5, y1, rfl, ⟨by first | exact q_c803b490ef h8 | omega, by first | exact q_3919a0a4ce h9 | omega⟩⟩
      · refine En_Ps 1 (pc' := 10) (lv' := [(0, .ref 0), (1, .int y1), (2, .int y2)]) (st' := [.ref 0]) rfl ?_
        refine En_getU (j := 6) (u := 150) (g' := 32) (q := 0) rfl rfl rfl tgz_0 (by decide +kernel) h4 (by decide +kernel) (by decide +kernel) (fun h15 => ?_)
        refine En_Ps 1 (pc' := 14) (lv' := [(0, .ref 0), (1, .int y1), (2, .int y2)]) (st' := [.int y2, .ref 150]) rfl ?_
        refine En_aald (g' := 33) (u := 0) rfl rfl tgz_150 (by decide +kernel) h4 (by first | exact q_58e6e51dcc h10 | omega) (lnI (by decide +kernel : LN _ = 4) (by first | exact q_074a8b422d h14 | omega)) (FTsgl (by decide +kernel)) (fun a18 h17 ha18 => ?_)
        refine En_getI (j := 1) (l := 0) (u := 1) rfl rfl rfl ha18 (by decide +kernel) h4 (by decide +kernel) (fun z20 h19 h21 h22 => ?_)
        refine En_iEq _ rfl rfl (fun h23 => ?_) (fun h23 => ?_)
        · refine En_Ps 1 (pc' := 27) (lv' := [(2, .int ((y2 + Int32.ofInt 1))), (0, .ref 0), (1, .int y1)]) (st' := []) rfl ?_
          refine En_lv1 (addI rfl (by decide : (Int32.ofInt 1).toInt = 1) (by first | exact q_465ab79ac1 h10 | omega) (by first | exact q_d8bf7f475a h14 | omega)) (fun z24 h25 => ?_)
          refine En_Ps 1 (pc' := 4) (lv' := [(2, .int z24), (0, .ref 0), (1, .int y1)]) (st' := []) rfl ?_
          refine En_lv (lv := [(0, .ref 0), (1, .int y1), (2, .int z24)]) ⟨rfl, rfl, rfl, trivial⟩ ?_
          exact ih4 σ3 y1 z24 h4 h5 h6 h7 (by first | exact q_58e6e51dcc h8 | omega) (by first | exact q_c82ed93a8c h9 | omega) (by first | exact q_35104ce9d3 h25 h10 | omega) (by first | exact q_ddc5c16a68 h25 h14 | omega) (by first | exact q_3a5e225620 h12 h25 | omega) (by first | exact q_3d8d70ace2 h25 h13 | omega)
        · refine En_Ps 1 (pc' := 24) (lv' := [(1, .int ((y1 + Int32.ofInt 1))), (0, .ref 0), (2, .int y2)]) (st' := []) rfl ?_
          refine En_lv1 (addI rfl (by decide : (Int32.ofInt 1).toInt = 1) (by first | exact q_465ab79ac1 h8 | omega) (by first | exact q_f7282962fd h9 | omega)) (fun z26 h27 => ?_)
          refine En_Ps 1 (pc' := 27) (lv' := [(2, .int ((y2 + Int32.ofInt 1))), (1, .int z26), (0, .ref 0)]) (st' := []) rfl ?_
          refine En_lv1 (addI rfl (by decide : (Int32.ofInt 1).toInt = 1) (by first | exact q_465ab79ac1 h10 | omega) (by first | exact q_d8bf7f475a h14 | omega)) (fun z28 h29 => ?_)
          refine En_Ps 1 (pc' := 4) (lv' := [(2, .int z28), (1, .int z26), (0, .ref 0)]) (st' := []) rfl ?_
          refine En_lv (lv := [(0, .ref 0), (1, .int z26), (2, .int z28)]) ⟨rfl, rfl, rfl, trivial⟩ ?_
          exact ih4 σ3 z26 z28 h4 h5 h6 h7 (by first | exact q_35104ce9d3 h27 h8 | omega) (by first | exact q_3198f66952 h27 h12 h14 | omega) (by first | exact q_35104ce9d3 h29 h10 | omega) (by first | exact q_ddc5c16a68 h29 h14 | omega) (by first | exact q_1ff421e7a2 h27 h29 h12 | omega) (by first | exact q_3d8d70ace2 h29 h13 | omega)
  have := (by decide : (Int32.ofInt 0).toInt = 0)
  have := (by decide : (Int32.ofInt 0).toInt = 0)
  refine En_lv (lv := [(0, .ref 0), (1, .int ((Int32.ofInt 0))), (2, .int ((Int32.ofInt 0)))]) ⟨rfl, rfl, rfl, trivial⟩ ?_
  exact key4 (Int.toNat (4) + 1) σ0 ((Int32.ofInt 0)) ((Int32.ofInt 0)) hσ0 hF0 h_p h_sg (by decide) (by decide) (by decide) (by decide) (by omega) (by first | exact toN_lt _ | omega)
/-- DoorSchool.count(I)I -/
abbrev P_110 (σ0 : SG) (a : Int32) (p : Nat) (sg : Int32) : PO := fun v σ => WT σ ∧ Fr [] σ0 σ ∧ ∃ ret : Int32, v = some (.int ret) ∧ -ret.toInt - 1 ≤ 0 ∧ ret.toInt - 1601 ≤ 0
set_option maxRecDepth 10000 in
set_option maxHeartbeats 4000000 in
theorem c_110 (σ0 : SG) (hσ0 : WT σ0) (a : Int32) (p : Nat) (hp : TG p = 18) (h_p : (σ0 0)[9]? = some (.ref p)) (sg : Int32) (h_sg : (σ0 p)[1]? = some (.int sg)) (hp0 : -sg.toInt ≤ 0) : En 1 22 none mr_110 (P_110 σ0 a p sg) 0 [(0, .ref 0), (1, .int a)] [] σ0 := by
  obtain ⟨hl_sg, hu_sg⟩ := WT_int hσ0 (g := 18) hp (by decide +kernel) (l := (-1)) (u := 4) (by decide +kernel) h_sg
  have hF0 : Fr [] σ0 σ0 := Fr_rfl
  refine En_Ps 1 (pc' := 1) (lv' := [(0, .ref 0), (1, .int a)]) (st' := [.int a]) rfl ?_
  rcases (show a.toInt = 0 ∨ a.toInt = 1 ∨ a.toInt = 2 ∨ a.toInt = 3 ∨ a.toInt = 4 ∨ a.toInt = 5 ∨ a.toInt = 6 ∨ a.toInt = 7 ∨ a.toInt = 8 ∨ a.toInt = 9 ∨ a.toInt < 0 ∨ 9 < a.toInt by omega) with h1 | h1 | h1 | h1 | h1 | h1 | h1 | h1 | h1 | h1 | h1 | h1
  · refine En_swI (t := 56) (n := 0) rfl h1 rfl (by decide +kernel) ?_
    refine En_Ps 1 (pc' := 57) (lv' := [(0, .ref 0), (1, .int a)]) (st' := [.ref 0]) rfl ?_
    refine En_getK (j := 9) h_p rfl rfl rfl tgz_0 (by decide +kernel) ?_
    refine En_getK (j := 1) h_sg rfl rfl rfl hp (by decide +kernel) ?_
    exact En_ret (v := some (.int sg)) rfl rfl rfl ⟨hσ0, hF0, sg, rfl, ⟨by first | exact q_dcc8f4d087 hp0 | omega, by first | exact q_d10cfc905e hu_sg | omega⟩⟩
  · refine En_swI (t := 64) (n := 1) rfl h1 rfl (by decide +kernel) ?_
    refine En_Ps 1 (pc' := 65) (lv' := [(0, .ref 0), (1, .int a)]) (st' := [.ref 0]) rfl ?_
    refine En_getK (j := 9) h_p rfl rfl rfl tgz_0 (by decide +kernel) ?_
    refine En_getI (j := 2) (l := (-1)) (u := 3) rfl rfl rfl hp (by decide +kernel) hσ0 (by decide +kernel) (fun z3 h2 h4 h5 => ?_)
    exact En_ret (v := some (.int z3)) rfl rfl rfl ⟨hσ0, hF0, z3, rfl, ⟨by first | exact q_909eef6c0e h4 | omega, by first | exact q_4fc6d69e6c h5 | omega⟩⟩
  · refine En_swI (t := 72) (n := 2) rfl h1 rfl (by decide +kernel) ?_
    refine En_Ps 1 (pc' := 73) (lv' := [(0, .ref 0), (1, .int a)]) (st' := [.ref 0]) rfl ?_
    refine En_getK (j := 9) h_p rfl rfl rfl tgz_0 (by decide +kernel) ?_
    refine En_getI (j := 3) (l := 0) (u := 4) rfl rfl rfl hp (by decide +kernel) hσ0 (by decide +kernel) (fun z7 h6 h8 h9 => ?_)
    exact En_ret (v := some (.int z7)) rfl rfl rfl ⟨hσ0, hF0, z7, rfl, ⟨by first | exact q_565e7b05df h8 | omega, by first | exact q_d10cfc905e h9 | omega⟩⟩
  · refine En_swI (t := 80) (n := 3) rfl h1 rfl (by decide +kernel) ?_
    refine En_Ps 1 (pc' := 81) (lv' := [(0, .ref 0), (1, .int a)]) (st' := [.ref 0]) rfl ?_
    refine En_getK (j := 9) h_p rfl rfl rfl tgz_0 (by decide +kernel) ?_
    refine En_getR (j := 5) (g' := 20) (u := 0) rfl rfl rfl hp (by decide +kernel) hσ0 (by decide +kernel) (fun a11 h10 ha11 => ?_)
    refine En_getI (j := 2) (l := 0) (u := 13) rfl rfl rfl ha11 (by decide +kernel) hσ0 (by decide +kernel) (fun z13 h12 h14 h15 => ?_)
    exact En_ret (v := some (.int z13)) rfl rfl rfl ⟨hσ0, hF0, z13, rfl, ⟨by first | exact q_565e7b05df h14 | omega, by first | exact q_32c43a042e h15 | omega⟩⟩
  · refine En_swI (t := 91) (n := 4) rfl h1 rfl (by decide +kernel) ?_
    refine En_Ps 1 (pc' := 92) (lv' := [(0, .ref 0), (1, .int a)]) (st' := [.ref 0]) rfl ?_
    refine En_getK (j := 9) h_p rfl rfl rfl tgz_0 (by decide +kernel) ?_
    refine En_getI (j := 8) (l := 0) (u := 4) rfl rfl rfl hp (by decide +kernel) hσ0 (by decide +kernel) (fun z17 h16 h18 h19 => ?_)
    exact En_ret (v := some (.int z17)) rfl rfl rfl ⟨hσ0, hF0, z17, rfl, ⟨by first | exact q_565e7b05df h18 | omega, by first | exact q_d10cfc905e h19 | omega⟩⟩
  · refine En_swI (t := 99) (n := 5) rfl h1 rfl (by decide +kernel) ?_
    refine En_Ps 1 (pc' := 100) (lv' := [(0, .ref 0), (1, .int a)]) (st' := [.ref 0]) rfl ?_
    refine En_getK (j := 9) h_p rfl rfl rfl tgz_0 (by decide +kernel) ?_
    refine En_getI (j := 11) (l := 0) (u := 6) rfl rfl rfl hp (by decide +kernel) hσ0 (by decide +kernel) (fun z21 h20 h22 h23 => ?_)
    exact En_ret (v := some (.int z21)) rfl rfl rfl ⟨hσ0, hF0, z21, rfl, ⟨by first | exact q_565e7b05df h22 | omega, by first | exact q_088ee88ec2 h23 | omega⟩⟩
  · refine En_swI (t := 107) (n := 6) rfl h1 rfl (by decide +kernel) ?_
    refine En_Ps 1 (pc' := 108) (lv' := [(0, .ref 0), (1, .int a)]) (st' := [.ref 0]) rfl ?_
    refine En_getK (j := 9) h_p rfl rfl rfl tgz_0 (by decide +kernel) ?_
    refine En_getI (j := 14) (l := 0) (u := 60) rfl rfl rfl hp (by decide +kernel) hσ0 (by decide +kernel) (fun z25 h24 h26 h27 => ?_)
    exact En_ret (v := some (.int z25)) rfl rfl rfl ⟨hσ0, hF0, z25, rfl, ⟨by first | exact q_565e7b05df h26 | omega, by first | exact q_48bc463a5c h27 | omega⟩⟩
  · refine En_swI (t := 115) (n := 7) rfl h1 rfl (by decide +kernel) ?_
    refine En_Ps 1 (pc' := 116) (lv' := [(0, .ref 0), (1, .int a)]) (st' := [.ref 0]) rfl ?_
    refine En_getK (j := 9) h_p rfl rfl rfl tgz_0 (by decide +kernel) ?_
    refine En_getI (j := 0) (l := 0) (u := 1601) rfl rfl rfl hp (by decide +kernel) hσ0 (by decide +kernel) (fun z29 h28 h30 h31 => ?_)
    exact En_ret (v := some (.int z29)) rfl rfl rfl ⟨hσ0, hF0, z29, rfl, ⟨by first | exact q_565e7b05df h30 | omega, by first | exact q_04500c548f h31 | omega⟩⟩
  · refine En_swI (t := 123) (n := 8) rfl h1 rfl (by decide +kernel) ?_
    refine En_Ps 1 (pc' := 124) (lv' := [(0, .ref 0), (1, .int a)]) (st' := [.ref 0]) rfl ?_
    refine En_getU (j := 0) (u := 1) (g' := 1) (q := 0) rfl rfl rfl tgz_0 (by decide +kernel) hσ0 (by decide +kernel) (by decide +kernel) (fun h32 => ?_)
    refine En_getI (j := 1) (l := 0) (u := 1600) rfl rfl rfl tgz_1 (by decide +kernel) hσ0 (by decide +kernel) (fun z35 h34 h36 h37 => ?_)
    exact En_ret (v := some (.int z35)) rfl rfl rfl ⟨hσ0, hF0, z35, rfl, ⟨by first | exact q_565e7b05df h36 | omega, by first | exact q_ee2013b4bb h37 | omega⟩⟩
  · refine En_swI (t := 131) (n := 9) rfl h1 rfl (by decide +kernel) ?_
    refine En_Ps 1 (pc' := 132) (lv' := [(0, .ref 0), (1, .int a)]) (st' := [.ref 0]) rfl ?_
    refine En_callV rfl rfl rfl rfl rfl rfl rfl rfl tgz_0 (by decide +kernel) rfl (c_128 σ0 hσ0 p hp h_p sg h_sg (by first | exact q_a555021d16 hp0 | omega)) (by decide) (by decide) (fun v39 σ40 h38 => ?_)
    obtain ⟨h41, h42, z44, rfl, h43⟩ := h38
    have h45 := Fr_trans hF0 h42 (by decide +kernel)
    exact En_ret (v := some (.int z44)) rfl rfl rfl ⟨h41, h45, z44, rfl, ⟨by first | exact q_dcc8f4d087 h43.1 | omega, by first | exact q_60feebed2c h43.2 | omega⟩⟩
  · refine En_swO (t := 136) rfl (by omega) rfl (by decide +kernel) ?_
    refine En_Ps 1 (pc' := 137) (lv' := [(0, .ref 0), (1, .int a)]) (st' := [.int ((Int32.ofInt (-1)))]) rfl ?_
    refine En_top (by decide : (Int32.ofInt (-1)).toInt = -1) (fun z46 h47 => ?_)
    exact En_ret (v := some (.int z46)) rfl rfl rfl ⟨hσ0, hF0, z46, rfl, ⟨by first | exact q_6ba54b61e9 h47 | omega, by first | exact q_699dfd9ce1 h47 | omega⟩⟩
  · refine En_swO (t := 136) rfl (by omega) rfl (by decide +kernel) ?_
    refine En_Ps 1 (pc' := 137) (lv' := [(0, .ref 0), (1, .int a)]) (st' := [.int ((Int32.ofInt (-1)))]) rfl ?_
    refine En_top (by decide : (Int32.ofInt (-1)).toInt = -1) (fun z48 h49 => ?_)
    exact En_ret (v := some (.int z48)) rfl rfl rfl ⟨hσ0, hF0, z48, rfl, ⟨by first | exact q_6ba54b61e9 h49 | omega, by first | exact q_699dfd9ce1 h49 | omega⟩⟩
/-- DoorSchool.isWay(I)Z -/
abbrev P_148 (σ0 : SG) (a : Int32) : PO := fun v σ => WT σ ∧ Fr [] σ0 σ ∧ ∃ ret : Int32, v = some (.int ret) ∧ -ret.toInt ≤ 0 ∧ ret.toInt - 1 ≤ 0 ∧ (ret.toInt - 1 ≤ 0 ∧ -ret.toInt + 1 ≤ 0 → -a.toInt ≤ 0 ∧ a.toInt - 2 ≤ 0) ∧ (-a.toInt ≤ 0 ∧ a.toInt - 2 ≤ 0 → ret.toInt - 1 ≤ 0 ∧ -ret.toInt + 1 ≤ 0)
set_option maxRecDepth 10000 in
set_option maxHeartbeats 4000000 in
theorem c_148 (σ0 : SG) (hσ0 : WT σ0) (a : Int32) : En 0 0 none mr_148 (P_148 σ0 a) 0 [(0, .int a)] [] σ0 := by
  have hF0 : Fr [] σ0 σ0 := Fr_rfl
  refine En_Ps 1 (pc' := 1) (lv' := [(0, .int a)]) (st' := [.int a]) rfl ?_
  refine En_iLt _ rfl rfl (fun h1 => ?_) (fun h1 => ?_)
  · refine En_Ps 1 (pc' := 14) (lv' := [(0, .int a)]) (st' := [.int ((Int32.ofInt 0))]) rfl ?_
    refine En_top (by decide : (Int32.ofInt 0).toInt = 0) (fun z2 h3 => ?_)
    exact En_ret (v := some (.int z2)) rfl rfl (retZ rfl rfl (by first | exact q_55451d0a83 h3 | omega) (by first | exact q_87849c3859 h3 | omega)) ⟨hσ0, hF0, z2, rfl, ⟨by first | exact q_097a37c2ae h3 | omega, by first | exact q_e269517bee h3 | omega, fun _ => by omega, fun _ => by omega⟩⟩
  · refine En_Ps 2 (pc' := 6) (lv' := [(0, .int a)]) (st' := [.int ((Int32.ofInt 3)), .int a]) rfl ?_
    refine En_icGe _ rfl (by decide : (Int32.ofInt 3).toInt = 3) rfl (fun h4 => ?_) (fun h4 => ?_)
    · refine En_Ps 1 (pc' := 14) (lv' := [(0, .int a)]) (st' := [.int ((Int32.ofInt 0))]) rfl ?_
      refine En_top (by decide : (Int32.ofInt 0).toInt = 0) (fun z5 h6 => ?_)
      exact En_ret (v := some (.int z5)) rfl rfl (retZ rfl rfl (by first | exact q_55451d0a83 h6 | omega) (by first | exact q_87849c3859 h6 | omega)) ⟨hσ0, hF0, z5, rfl, ⟨by first | exact q_097a37c2ae h6 | omega, by first | exact q_e269517bee h6 | omega, fun _ => by omega, fun _ => by omega⟩⟩
    · refine En_Ps 2 (pc' := 14) (lv' := [(0, .int a)]) (st' := [.int ((Int32.ofInt 1))]) rfl ?_
      refine En_top (by decide : (Int32.ofInt 1).toInt = 1) (fun z7 h8 => ?_)
      exact En_ret (v := some (.int z7)) rfl rfl (retZ rfl rfl (by first | exact q_2b07c97645 h8 | omega) (by first | exact q_d9e7cbb253 h8 | omega)) ⟨hσ0, hF0, z7, rfl, ⟨by first | exact q_ad3eee31ca h8 | omega, by first | exact q_81cf297dc4 h8 | omega, fun _ => by omega, fun _ => by omega⟩⟩
/-- DoorSchool.course(II)I -/
abbrev P_111 (σ0 : SG) (a : Int32) (b : Int32) (p : Nat) (sg : Int32) : PO := fun v σ => WT σ ∧ Fr [] σ0 σ ∧ ∃ ret : Int32, v = some (.int ret) ∧ ret.toInt - 65535 ≤ 0
set_option maxRecDepth 10000 in
set_option maxHeartbeats 4000000 in
theorem c_111 (σ0 : SG) (hσ0 : WT σ0) (a : Int32) (b : Int32) (p : Nat) (hp : TG p = 18) (h_p : (σ0 0)[9]? = some (.ref p)) (sg : Int32) (h_sg : (σ0 p)[1]? = some (.int sg)) (hp0 : -sg.toInt ≤ 0) : En 6 144 none mr_111 (P_111 σ0 a b p sg) 0 [(0, .ref 0), (1, .int a), (2, .int b)] [] σ0 := by
  obtain ⟨hl_sg, hu_sg⟩ := WT_int hσ0 (g := 18) hp (by decide +kernel) (l := (-1)) (u := 4) (by decide +kernel) h_sg
  have hF0 : Fr [] σ0 σ0 := Fr_rfl
  refine En_Ps 1 (pc' := 1) (lv' := [(0, .ref 0), (1, .int a), (2, .int b)]) (st' := [.int a]) rfl ?_
  refine En_callS rfl rfl rfl rfl rfl rfl rfl rfl rfl (c_148 σ0 hσ0 a) (by decide) (by decide) (fun v2 σ3 h1 => ?_)
  obtain ⟨h4, h5, z7, rfl, h6⟩ := h1
  have h8 := Fr_trans hF0 h5 (by decide +kernel)
  refine En_iEq _ rfl rfl (fun h9 => ?_) (fun h9 => ?_)
  · refine En_Ps 1 (pc' := 32) (lv' := [(0, .ref 0), (1, .int a), (2, .int b)]) (st' := [.int (((Int8.ofInt (-2)).toInt32))]) rfl ?_
    refine En_top (by decide : ((Int8.ofInt (-2)).toInt32).toInt = -2) (fun z10 h11 => ?_)
    exact En_ret (v := some (.int z10)) rfl rfl rfl ⟨h4, h8, z10, rfl, (by first | exact q_7aab8371ca h11 | omega)⟩
  · refine En_Ps 1 (pc' := 8) (lv' := [(0, .ref 0), (1, .int a), (2, .int b)]) (st' := [.ref 0]) rfl ?_
    refine En_getK (j := 9) ((h5 _ _ (inW tgz_0 (by decide +kernel))).trans h_p) rfl rfl rfl tgz_0 (by decide +kernel) ?_
    refine En_Ps 1 (pc' := 12) (lv' := [(0, .ref 0), (1, .int a), (2, .int b)]) (st' := [.int b, .ref p]) rfl ?_
    refine En_callV rfl rfl rfl rfl rfl rfl rfl rfl hp (by decide +kernel) rfl (c_46 σ3 h4 p hp b sg ((h5 _ _ (inW hp (by decide +kernel))).trans h_sg) (by first | exact q_a555021d16 hp0 | omega)) (by decide) (by decide) (fun v13 σ14 h12 => ?_)
    obtain ⟨h15, h16, z18, rfl, h17⟩ := h12
    have h19 := Fr_trans h8 h16 (by decide +kernel)
    refine En_iEq _ rfl rfl (fun h20 => ?_) (fun h20 => ?_)
    · refine En_Ps 1 (pc' := 32) (lv' := [(0, .ref 0), (1, .int a), (2, .int b)]) (st' := [.int (((Int8.ofInt (-2)).toInt32))]) rfl ?_
      refine En_top (by decide : ((Int8.ofInt (-2)).toInt32).toInt = -2) (fun z21 h22 => ?_)
      exact En_ret (v := some (.int z21)) rfl rfl rfl ⟨h15, h19, z21, rfl, (by first | exact q_7aab8371ca h22 | omega)⟩
    · refine En_Ps 1 (pc' := 19) (lv' := [(0, .ref 0), (1, .int a), (2, .int b)]) (st' := [.ref 0]) rfl ?_
      refine En_getU (j := 3) (u := 8) (g' := 8) (q := 0) rfl rfl rfl tgz_0 (by decide +kernel) h15 (by decide +kernel) (by decide +kernel) (fun h23 => ?_)
      refine En_Ps 2 (pc' := 24) (lv' := [(0, .ref 0), (1, .int a), (2, .int b)]) (st' := [.int b, .int a, .ref 8]) rfl ?_
      refine En_callV rfl rfl rfl rfl rfl rfl rfl rfl tgz_8 (by decide +kernel) rfl (c_25 σ14 h15 a b) (by decide) (by decide) (fun v26 σ27 h25 => ?_)
      obtain ⟨h28, h29, z31, rfl, h30⟩ := h25
      have h32 := Fr_trans h19 h29 (by decide +kernel)
      refine En_Ps 1 (pc' := 32) (lv' := [(0, .ref 0), (1, .int a), (2, .int b)]) (st' := [.int z31]) rfl ?_
      exact En_ret (v := some (.int z31)) rfl rfl rfl ⟨h28, h32, z31, rfl, (by first | exact q_ef123ba13c h30 | omega)⟩
/-- DoorSchool.deeds(I)I -/
abbrev P_112 (σ0 : SG) (a : Int32) (p : Nat) (sg : Int32) : PO := fun v σ => WT σ ∧ Fr [] σ0 σ ∧ ∃ ret : Int32, v = some (.int ret) ∧ True
set_option maxRecDepth 10000 in
set_option maxHeartbeats 4000000 in
theorem c_112 (σ0 : SG) (hσ0 : WT σ0) (a : Int32) (p : Nat) (hp : TG p = 18) (h_p : (σ0 0)[9]? = some (.ref p)) (sg : Int32) (h_sg : (σ0 p)[1]? = some (.int sg)) (hp0 : -sg.toInt ≤ 0) : En 4 92 none mr_112 (P_112 σ0 a p sg) 0 [(0, .ref 0), (1, .int a)] [] σ0 := by
  obtain ⟨hl_sg, hu_sg⟩ := WT_int hσ0 (g := 18) hp (by decide +kernel) (l := (-1)) (u := 4) (by decide +kernel) h_sg
  have hF0 : Fr [] σ0 σ0 := Fr_rfl
  refine En_Ps 1 (pc' := 1) (lv' := [(0, .ref 0), (1, .int a)]) (st' := [.ref 0]) rfl ?_
  refine En_getK (j := 9) h_p rfl rfl rfl tgz_0 (by decide +kernel) ?_
  refine En_Ps 1 (pc' := 5) (lv' := [(0, .ref 0), (1, .int a)]) (st' := [.int a, .ref p]) rfl ?_
  refine En_callV rfl rfl rfl rfl rfl rfl rfl rfl hp (by decide +kernel) rfl (c_47 σ0 hσ0 p hp a) (by decide) (by decide) (fun v2 σ3 h1 => ?_)
  obtain ⟨h4, h5, z7, rfl, h6⟩ := h1
  have h8 := Fr_trans hF0 h5 (by decide +kernel)
  refine En_iEq _ rfl rfl (fun h9 => ?_) (fun h9 => ?_)
  · refine En_Ps 1 (pc' := 21) (lv' := [(0, .ref 0), (1, .int a)]) (st' := [.int (((Int8.ofInt (-2)).toInt32))]) rfl ?_
    refine En_top (by decide : ((Int8.ofInt (-2)).toInt32).toInt = -2) (fun z10 h11 => ?_)
    exact En_ret (v := some (.int z10)) rfl rfl rfl ⟨h4, h8, z10, rfl, trivial⟩
  · refine En_Ps 2 (pc' := 13) (lv' := [(0, .ref 0), (1, .int a)]) (st' := [.int a, .ref 0]) rfl ?_
    refine En_callV rfl rfl rfl rfl rfl rfl rfl rfl tgz_0 (by decide +kernel) rfl (c_114 σ3 h4 a (geI rfl (by omega)) (leI rfl (by omega)) p hp ((h5 _ _ (inW tgz_0 (by decide +kernel))).trans h_p) sg ((h5 _ _ (inW hp (by decide +kernel))).trans h_sg) (by first | exact q_a555021d16 hp0 | omega)) (by decide) (by decide) (fun v13 σ14 h12 => ?_)
    obtain ⟨h15, h16, z18, rfl, h17⟩ := h12
    have h19 := Fr_trans h8 h16 (by decide +kernel)
    refine En_Ps 1 (pc' := 21) (lv' := [(0, .ref 0), (1, .int a)]) (st' := [.int z18]) rfl ?_
    exact En_ret (v := some (.int z18)) rfl rfl rfl ⟨h15, h19, z18, rfl, trivial⟩
/-- DoorSchool.does(II)I -/
abbrev P_113 (σ0 : SG) (a : Int32) (b : Int32) (p : Nat) (sg : Int32) : PO := fun v σ => WT σ ∧ Fr [] σ0 σ ∧ ∃ ret : Int32, v = some (.int ret) ∧ -ret.toInt - 2 ≤ 0 ∧ ret.toInt - 65535 ≤ 0
set_option maxRecDepth 10000 in
set_option maxHeartbeats 4000000 in
theorem c_113 (σ0 : SG) (hσ0 : WT σ0) (a : Int32) (b : Int32) (p : Nat) (hp : TG p = 18) (h_p : (σ0 0)[9]? = some (.ref p)) (sg : Int32) (h_sg : (σ0 p)[1]? = some (.int sg)) (hp0 : -sg.toInt ≤ 0) : En 3 63 none mr_113 (P_113 σ0 a b p sg) 0 [(0, .ref 0), (1, .int a), (2, .int b)] [] σ0 := by
  obtain ⟨hl_sg, hu_sg⟩ := WT_int hσ0 (g := 18) hp (by decide +kernel) (l := (-1)) (u := 4) (by decide +kernel) h_sg
  have hF0 : Fr [] σ0 σ0 := Fr_rfl
  refine En_Ps 1 (pc' := 1) (lv' := [(0, .ref 0), (1, .int a), (2, .int b)]) (st' := [.ref 0]) rfl ?_
  refine En_getK (j := 9) h_p rfl rfl rfl tgz_0 (by decide +kernel) ?_
  refine En_Ps 2 (pc' := 6) (lv' := [(0, .ref 0), (1, .int a), (2, .int b)]) (st' := [.int b, .int a, .ref p]) rfl ?_
  refine En_callV rfl rfl rfl rfl rfl rfl rfl rfl hp (by decide +kernel) rfl (c_50 σ0 hσ0 p hp a b sg h_sg (by first | exact q_a555021d16 hp0 | omega)) (by decide) (by decide) (fun v2 σ3 h1 => ?_)
  obtain ⟨h4, h5, z7, rfl, h6⟩ := h1
  have h8 := Fr_trans hF0 h5 (by decide +kernel)
  refine En_iEq _ rfl rfl (fun h9 => ?_) (fun h9 => ?_)
  · refine En_Ps 1 (pc' := 26) (lv' := [(0, .ref 0), (1, .int a), (2, .int b)]) (st' := [.int (((Int8.ofInt (-2)).toInt32))]) rfl ?_
    refine En_top (by decide : ((Int8.ofInt (-2)).toInt32).toInt = -2) (fun z10 h11 => ?_)
    exact En_ret (v := some (.int z10)) rfl rfl rfl ⟨h4, h8, z10, rfl, ⟨by first | exact q_f35c5d346c h11 | omega, by first | exact q_7aab8371ca h11 | omega⟩⟩
  · refine En_Ps 1 (pc' := 13) (lv' := [(0, .ref 0), (1, .int a), (2, .int b)]) (st' := [.ref 0]) rfl ?_
    refine En_getU (j := 2) (u := 4) (g' := 4) (q := 0) rfl rfl rfl tgz_0 (by decide +kernel) h4 (by decide +kernel) (by decide +kernel) (fun h12 => ?_)
    refine En_Ps 2 (pc' := 18) (lv' := [(0, .ref 0), (1, .int a), (2, .int b)]) (st' := [.int b, .int a, .ref 4]) rfl ?_
    refine En_callV rfl rfl rfl rfl rfl rfl rfl rfl tgz_4 (by decide +kernel) rfl (c_77 σ3 h4 a b) (by decide) (by decide) (fun v15 σ16 h14 => ?_)
    obtain ⟨h17, h18, z20, rfl, h19⟩ := h14
    have h21 := Fr_trans h8 h18 (by decide +kernel)
    refine En_Ps 1 (pc' := 26) (lv' := [(0, .ref 0), (1, .int a), (2, .int b)]) (st' := [.int z20]) rfl ?_
    exact En_ret (v := some (.int z20)) rfl rfl rfl ⟨h17, h21, z20, rfl, ⟨by first | exact q_70a249c7f8 h19.1 | omega, by first | exact q_ef123ba13c h19.2 | omega⟩⟩
/-- DoorSchool.doneInStorm(II)I -/
abbrev P_115 (σ0 : SG) (a : Int32) (b : Int32) (p : Nat) (sg : Int32) : PO := fun v σ => WT σ ∧ Fr [] σ0 σ ∧ ∃ ret : Int32, v = some (.int ret) ∧ True
set_option maxRecDepth 10000 in
set_option maxHeartbeats 4000000 in
theorem c_115 (σ0 : SG) (hσ0 : WT σ0) (a : Int32) (b : Int32) (hl_a : 0 ≤ a.toInt) (hu_a : a.toInt ≤ 2147483647) (hl_b : 0 ≤ b.toInt) (hu_b : b.toInt ≤ 3) (p : Nat) (hp : TG p = 18) (h_p : (σ0 0)[9]? = some (.ref p)) (sg : Int32) (h_sg : (σ0 p)[1]? = some (.int sg)) (hp0 : -sg.toInt ≤ 0) : En 4 92 none mr_115 (P_115 σ0 a b p sg) 0 [(0, .ref 0), (1, .int a), (2, .int b)] [] σ0 := by
  obtain ⟨hl_sg, hu_sg⟩ := WT_int hσ0 (g := 18) hp (by decide +kernel) (l := (-1)) (u := 4) (by decide +kernel) h_sg
  have hF0 : Fr [] σ0 σ0 := Fr_rfl
  refine En_Ps 5 (pc' := 5) (lv' := [(3, .long a.toInt64), (0, .ref 0), (1, .int a), (2, .int b)]) (st' := [.int b, .ref 0]) rfl ?_
  refine En_callV rfl rfl rfl rfl rfl rfl rfl rfl tgz_0 (by decide +kernel) rfl (c_114 σ0 hσ0 b (geI rfl (by first | exact q_58e6e51dcc hl_b | omega)) (leI rfl (by first | exact q_da5e9b976f hu_b | omega)) p hp h_p sg h_sg (by first | exact q_a555021d16 hp0 | omega)) (by decide) (by decide) (fun v2 σ3 h1 => ?_)
  obtain ⟨h4, h5, z7, rfl, h6⟩ := h1
  have h8 := Fr_trans hF0 h5 (by decide +kernel)
  refine En_Ps 3 (pc' := 13) (lv' := [(6, .int ((Int32.ofInt 0))), (5, .int z7), (3, .long a.toInt64), (0, .ref 0), (1, .int a), (2, .int b)]) (st' := []) rfl ?_
  have key13 : ∀ (n13 : Nat) (σ12 : SG) (y9 : Int64) (y10 : Int32) (y11 : Int32), WT σ12 → Fr [] σ0 σ12 → (σ12 0)[9]? = some (.ref p) → (σ12 p)[1]? = some (.int sg) → 0 ≤ y9.toInt → y9.toInt ≤ 2147483647 → 0 ≤ y11.toInt → y11.toInt ≤ 16 → -y11.toInt + 16 < (n13 : Int) → En 4 92 none mr_115 (P_115 σ0 a b p sg) 13 [(0, .ref 0), (1, .int a), (2, .int b), (3, .long y9), (5, .int y10), (6, .int y11)] [] σ12 := by
    intro n13
    induction n13 with
    | zero =>
      intro σ12 y9 y10 y11 h13 h14 h15 h16 h17 h18 h19 h20 h21
      first | exact (q_511f6d33ac h21 h20).elim | (exfalso; omega)
    | succ n13 ih13 =>
      intro σ12 y9 y10 y11 h13 h14 h15 h16 h17 h18 h19 h20 h21
      refine En_Ps 2 (pc' := 16) (lv' := [(0, .ref 0), (1, .int a), (2, .int b), (3, .long y9), (5, .int y10), (6, .int y11)]) (st' := [.ref 0, .int y11]) rfl ?_
      refine En_getK (j := 9) h15 rfl rfl rfl tgz_0 (by decide +kernel) ?_
      refine En_callV rfl rfl rfl rfl rfl rfl rfl rfl hp (by decide +kernel) rfl (c_51 σ12 h13 p hp sg h16 (by first | exact q_a555021d16 hp0 | omega)) (by decide) (by decide) (fun v23 σ24 h22 => ?_)
      obtain ⟨h25, h26, z28, rfl, h27⟩ := h22
      have h29 := Fr_trans h14 h26 (by decide +kernel)
      refine En_icGe _ rfl rfl rfl (fun h30 => ?_) (fun h30 => ?_)
      · refine En_Ps 1 (pc' := 82) (lv' := [(0, .ref 0), (1, .int a), (2, .int b), (3, .long y9), (5, .int y10), (6, .int y11)]) (st' := [.int y10]) rfl ?_
        exact En_ret (v := some (.int y10)) rfl rfl rfl ⟨h25, h29, y10, rfl, trivial⟩
      · refine En_Ps 3 (pc' := 30) (lv' := [(0, .ref 0), (1, .int a), (2, .int b), (3, .long y9), (5, .int y10), (6, .int y11)]) (st' := [.long ((((1103515245 : Int64)) * y9))]) rfl ?_
        refine En_topL (mulL (by decide : (1103515245 : Int64).toInt = 1103515245) rfl (Z := 1103515245 * y9.toInt) (by first | exact q_3838339b47 | omega) (by omega) (by omega)) (fun z31 h32 => ?_)
        refine En_Ps 2 (pc' := 34) (lv' := [(0, .ref 0), (1, .int a), (2, .int b), (3, .long y9), (5, .int y10), (6, .int y11)]) (st' := [.long ((z31 + ((12345 : Int64))))]) rfl ?_
        refine En_topL (addL rfl (by decide : (12345 : Int64).toInt = 12345) (by omega) (by omega)) (fun z33 h34 => ?_)
        refine En_Ps 1 (pc' := 37) (lv' := [(0, .ref 0), (1, .int a), (2, .int b), (3, .long y9), (5, .int y10), (6, .int y11)]) (st' := [.long ((2147483648 : Int64)), .long z33]) rfl ?_
        refine En_lrem (c := 2147483648) rfl rfl (by decide : (2147483648 : Int64).toInt = 2147483648) (by omega) (by decide) (fun z35 h36 => ?_)
        refine En_Ps 3 (pc' := 43) (lv' := [(3, .long z35), (0, .ref 0), (1, .int a), (2, .int b), (5, .int y10), (6, .int y11)]) (st' := [.long ((65536 : Int64)), .long z35]) rfl ?_
        refine En_ldiv (c := 65536) rfl rfl (by decide : (65536 : Int64).toInt = 65536) (by omega) (by decide) (fun z37 h38 => ?_)
        refine En_Ps 1 (pc' := 47) (lv' := [(3, .long z35), (0, .ref 0), (1, .int a), (2, .int b), (5, .int y10), (6, .int y11)]) (st' := [.long ((100 : Int64)), .long z37]) rfl ?_
        refine En_lrem (c := 100) rfl rfl (by decide : (100 : Int64).toInt = 100) (by omega) (by decide) (fun z39 h40 => ?_)
        refine En_Ps 1 (pc' := 49) (lv' := [(3, .long z35), (0, .ref 0), (1, .int a), (2, .int b), (5, .int y10), (6, .int y11)]) (st' := [.ref 0, .long z39]) rfl ?_
        refine En_getK (j := 9) ((h26 _ _ (inW tgz_0 (by decide +kernel))).trans h15) rfl rfl rfl tgz_0 (by decide +kernel) ?_
        refine En_getR (j := 4) (g' := 19) (u := 0) rfl rfl rfl hp (by decide +kernel) h25 (by decide +kernel) (fun a42 h41 ha42 => ?_)
        refine En_Ps 1 (pc' := 56) (lv' := [(3, .long z35), (0, .ref 0), (1, .int a), (2, .int b), (5, .int y10), (6, .int y11)]) (st' := [.int b, .ref a42, .long z39]) rfl ?_
        refine En_aald (g' := 28) (u := 0) rfl rfl ha42 (by decide +kernel) h25 (by first | exact q_58e6e51dcc hl_b | omega) (lnI (by decide +kernel : LN _ = 4) (by first | exact q_f3bb6f88f7 hu_b | omega)) (FTsgl (by decide +kernel)) (fun a44 h43 ha44 => ?_)
        refine En_getI (j := 2) (l := 0) (u := 50) rfl rfl rfl ha44 (by decide +kernel) h25 (by decide +kernel) (fun z46 h45 h47 h48 => ?_)
        refine En_Ps 2 (pc' := 62) (lv' := [(3, .long z35), (0, .ref 0), (1, .int a), (2, .int b), (5, .int y10), (6, .int y11)]) (st' := [.int (lg_cmp z39 z46.toInt64)]) rfl ?_
        refine En_lgGe _ rfl (i2lI rfl) rfl (fun h49 => ?_) (fun h49 => ?_)
        · refine En_Ps 1 (pc' := 77) (lv' := [(6, .int ((y11 + Int32.ofInt 1))), (3, .long z35), (0, .ref 0), (1, .int a), (2, .int b), (5, .int y10)]) (st' := []) rfl ?_
          refine En_lv1 (addI rfl (by decide : (Int32.ofInt 1).toInt = 1) (by first | exact q_465ab79ac1 h19 | omega) (by first | exact q_f3f8e04381 h20 | omega)) (fun z50 h51 => ?_)
          refine En_Ps 1 (pc' := 13) (lv' := [(6, .int z50), (3, .long z35), (0, .ref 0), (1, .int a), (2, .int b), (5, .int y10)]) (st' := []) rfl ?_
          refine En_lv (lv := [(0, .ref 0), (1, .int a), (2, .int b), (3, .long z35), (5, .int y10), (6, .int z50)]) ⟨rfl, rfl, rfl, rfl, rfl, rfl, trivial⟩ ?_
          exact ih13 σ24 z35 y10 z50 h25 h29 ((h26 _ _ (inW tgz_0 (by decide +kernel))).trans h15) ((h26 _ _ (inW hp (by decide +kernel))).trans h16) (by first | exact q_00a0d70a93 h36 | omega) (by first | exact q_2e44a78811 h36 | omega) (by first | exact q_35104ce9d3 h51 h19 | omega) (by first | exact q_34dc714687 h51 h30 h27.2 | omega) (by first | exact q_c5d740bdff h51 h21 | omega)
        · refine En_Ps 4 (pc' := 71) (lv' := [(3, .long z35), (0, .ref 0), (1, .int a), (2, .int b), (5, .int y10), (6, .int y11)]) (st' := [.int ((((Int32.ofInt 1)) <<< (y11 &&& 31))), .int y10]) rfl ?_
          refine En_rng (shl1_p 15 rfl (by omega) (by omega) (by decide)) (fun z52 h53 h54 => ?_)
          refine En_Ps 1 (pc' := 72) (lv' := [(3, .long z35), (0, .ref 0), (1, .int a), (2, .int b), (5, .int y10), (6, .int y11)]) (st' := [.int ((y10 ^^^ z52))]) rfl ?_
          refine En_hav (fun z55 => ?_)
          refine En_Ps 2 (pc' := 77) (lv' := [(6, .int ((y11 + Int32.ofInt 1))), (5, .int z55), (3, .long z35), (0, .ref 0), (1, .int a), (2, .int b)]) (st' := []) rfl ?_
          refine En_lv1 (addI rfl (by decide : (Int32.ofInt 1).toInt = 1) (by first | exact q_465ab79ac1 h19 | omega) (by first | exact q_f3f8e04381 h20 | omega)) (fun z56 h57 => ?_)
          refine En_Ps 1 (pc' := 13) (lv' := [(6, .int z56), (5, .int z55), (3, .long z35), (0, .ref 0), (1, .int a), (2, .int b)]) (st' := []) rfl ?_
          refine En_lv (lv := [(0, .ref 0), (1, .int a), (2, .int b), (3, .long z35), (5, .int z55), (6, .int z56)]) ⟨rfl, rfl, rfl, rfl, rfl, rfl, trivial⟩ ?_
          exact ih13 σ24 z35 z55 z56 h25 h29 ((h26 _ _ (inW tgz_0 (by decide +kernel))).trans h15) ((h26 _ _ (inW hp (by decide +kernel))).trans h16) (by first | exact q_00a0d70a93 h36 | omega) (by first | exact q_2e44a78811 h36 | omega) (by first | exact q_35104ce9d3 h57 h19 | omega) (by first | exact q_34dc714687 h57 h30 h27.2 | omega) (by first | exact q_c5d740bdff h57 h21 | omega)
  have : a.toInt64.toInt = a.toInt := (i2lI rfl)
  have := (by decide : (Int32.ofInt 0).toInt = 0)
  refine En_lv (lv := [(0, .ref 0), (1, .int a), (2, .int b), (3, .long a.toInt64), (5, .int z7), (6, .int ((Int32.ofInt 0)))]) ⟨rfl, rfl, rfl, rfl, rfl, rfl, trivial⟩ ?_
  exact key13 (Int.toNat (16) + 1) σ3 a.toInt64 z7 ((Int32.ofInt 0)) h4 h8 ((h5 _ _ (inW tgz_0 (by decide +kernel))).trans h_p) ((h5 _ _ (inW hp (by decide +kernel))).trans h_sg) (by omega) (by omega) (by decide) (by decide) (by first | exact toN_lt _ | omega)

