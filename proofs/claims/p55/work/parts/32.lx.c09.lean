/-! 32.lx.c09 -/
section
/-- DoorSchool.amiss(II)I -/
abbrev P_102 (σ0 : SG) (a : Int32) (b : Int32) (p : Nat) (sg : Int32) : PO := fun v σ => WT σ ∧ Fr [] σ0 σ ∧ ∃ ret : Int32, v = some (Value.int ret) ∧ -ret.toInt - 2 ≤ 0 ∧ ret.toInt - 63 ≤ 0
set_option maxRecDepth 10000 in
set_option maxHeartbeats 4000000 in
theorem c_102 (σ0 : SG) (hσ0 : WT σ0) (a : Int32) (b : Int32) (p : Nat) (hp : TG p = 18) (h_p : (σ0 0)[9]? = some (Value.ref p)) (sg : Int32) (h_sg : (σ0 p)[1]? = some (Value.int sg)) (hp0 : -sg.toInt ≤ 0) : En 4 92 none mr_102 (P_102 σ0 a b p sg) 0 [(0, .ref 0), (1, .int a), (2, .int b)] [] σ0 := by
  obtain ⟨hl_sg, hu_sg⟩ := WT_int hσ0 (g := 18) hp (by decide +kernel) (l := (-1)) (u := 4) (by decide +kernel) h_sg
  have hF0 : Fr [] σ0 σ0 := Fr_rfl
  refine En_Ps 1 (pc' := 1) (lv' := [(0, .ref 0), (1, .int a), (2, .int b)]) (st' := [.ref 0]) rfl ?_
  refine En_getK (j := 9) h_p rfl rfl rfl tgz_0 (by decide +kernel) ?_
  refine En_Ps 1 (pc' := 5) (lv' := [(0, .ref 0), (1, .int a), (2, .int b)]) (st' := [.int a, .ref p]) rfl ?_
  refine En_callV rfl rfl rfl rfl rfl rfl rfl rfl hp (by decide +kernel) rfl (c_47 σ0 hσ0 p hp a) (by decide) (by decide) (fun v2 σ3 h1 => ?_)
  obtain ⟨h4, h5, z7, rfl, h6⟩ := h1
  have h8 := Fr_trans hF0 h5 (by decide +kernel)
  refine En_iEq _ rfl rfl (fun h9 => ?_) (fun h9 => ?_)
  · refine En_Ps 1 (pc' := 24) (lv' := [(0, .ref 0), (1, .int a), (2, .int b)]) (st' := [.int (((Int8.ofInt (-2)).toInt32))]) rfl ?_
    refine En_top (by decide : ((Int8.ofInt (-2)).toInt32).toInt = -2) (fun z10 h11 => ?_)
    exact En_ret (v := some (Value.int z10)) rfl rfl rfl ⟨h4, h8, z10, rfl, ⟨by first | exact q_f35c5d346c h11 | omega, by first | exact q_443ead751f h11 | omega⟩⟩
  · refine En_Ps 1 (pc' := 12) (lv' := [(0, .ref 0), (1, .int a), (2, .int b)]) (st' := [.ref 0]) rfl ?_
    refine En_getK (j := 9) ((h5 _ _ (inW tgz_0 (by decide +kernel))).trans h_p) rfl rfl rfl tgz_0 (by decide +kernel) ?_
    refine En_Ps 1 (pc' := 16) (lv' := [(0, .ref 0), (1, .int a), (2, .int b)]) (st' := [.int b, .ref p]) rfl ?_
    refine En_callV rfl rfl rfl rfl rfl rfl rfl rfl hp (by decide +kernel) rfl (c_48 σ3 h4 p hp b) (by decide) (by decide) (fun v13 σ14 h12 => ?_)
    obtain ⟨h15, h16, z18, rfl, h17⟩ := h12
    have h19 := Fr_trans h8 h16 (by decide +kernel)
    refine En_iNe _ rfl rfl (fun h20 => ?_) (fun h20 => ?_)
    · refine En_Ps 2 (pc' := 27) (lv' := [(0, .ref 0), (1, .int a), (2, .int b)]) (st' := [.int a, .ref 0]) rfl ?_
      refine En_callV rfl rfl rfl rfl rfl rfl rfl rfl tgz_0 (by decide +kernel) rfl (c_114 σ14 h15 a (geI rfl (by omega)) (leI rfl (by omega)) p hp ((h16 _ _ (inW tgz_0 (by decide +kernel))).trans ((h5 _ _ (inW tgz_0 (by decide +kernel))).trans h_p)) sg ((h16 _ _ (inW hp (by decide +kernel))).trans ((h5 _ _ (inW hp (by decide +kernel))).trans h_sg)) (by first | exact q_a555021d16 hp0 | omega)) (by decide) (by decide) (fun v22 σ23 h21 => ?_)
      obtain ⟨h24, h25, z27, rfl, h26⟩ := h21
      have h28 := Fr_trans h19 h25 (by decide +kernel)
      refine En_Ps 2 (pc' := 32) (lv' := [(0, .ref 0), (1, .int a), (2, .int b)]) (st' := [.int b, .ref 0, .int z27]) rfl ?_
      refine En_callV rfl rfl rfl rfl rfl rfl rfl rfl tgz_0 (by decide +kernel) rfl (c_139 σ23 h24 b (geI rfl (by omega)) (leI rfl (by omega)) p hp ((h25 _ _ (inW tgz_0 (by decide +kernel))).trans ((h16 _ _ (inW tgz_0 (by decide +kernel))).trans ((h5 _ _ (inW tgz_0 (by decide +kernel))).trans h_p))) sg ((h25 _ _ (inW hp (by decide +kernel))).trans ((h16 _ _ (inW hp (by decide +kernel))).trans ((h5 _ _ (inW hp (by decide +kernel))).trans h_sg))) (by first | exact q_a555021d16 hp0 | omega)) (by decide) (by decide) (fun v30 σ31 h29 => ?_)
      obtain ⟨h32, h33, z35, rfl, h34⟩ := h29
      have h36 := Fr_trans h28 h33 (by decide +kernel)
      refine En_Ps 1 (pc' := 36) (lv' := [(0, .ref 0), (1, .int a), (2, .int b)]) (st' := [.int ((z27 ^^^ z35))]) rfl ?_
      refine En_hav (fun z37 => ?_)
      refine En_callS rfl rfl rfl rfl rfl rfl rfl rfl rfl (c_7 σ31 h32 z37) (by decide) (by decide) (fun v39 σ40 h38 => ?_)
      obtain ⟨h41, h42, z44, rfl, h43⟩ := h38
      have h45 := Fr_trans h36 h42 (by decide +kernel)
      exact En_ret (v := some (Value.int z44)) rfl rfl rfl ⟨h41, h45, z44, rfl, ⟨by first | exact q_70a249c7f8 h43.1 | omega, by first | exact q_4b9206e141 h43.2 | omega⟩⟩
    · refine En_Ps 1 (pc' := 24) (lv' := [(0, .ref 0), (1, .int a), (2, .int b)]) (st' := [.int (((Int8.ofInt (-2)).toInt32))]) rfl ?_
      refine En_top (by decide : ((Int8.ofInt (-2)).toInt32).toInt = -2) (fun z46 h47 => ?_)
      exact En_ret (v := some (Value.int z46)) rfl rfl rfl ⟨h15, h19, z46, rfl, ⟨by first | exact q_f35c5d346c h47 | omega, by first | exact q_443ead751f h47 | omega⟩⟩
/-- DoorSchool.isSlot(I)Z -/
abbrev P_147 (σ0 : SG) (a : Int32) : PO := fun v σ => WT σ ∧ Fr [] σ0 σ ∧ ∃ ret : Int32, v = some (Value.int ret) ∧ -ret.toInt ≤ 0 ∧ ret.toInt - 1 ≤ 0 ∧ (ret.toInt - 1 ≤ 0 ∧ -ret.toInt + 1 ≤ 0 → -a.toInt ≤ 0 ∧ a.toInt - 3 ≤ 0) ∧ (-a.toInt ≤ 0 ∧ a.toInt - 3 ≤ 0 → ret.toInt - 1 ≤ 0 ∧ -ret.toInt + 1 ≤ 0)
set_option maxRecDepth 10000 in
set_option maxHeartbeats 4000000 in
theorem c_147 (σ0 : SG) (hσ0 : WT σ0) (a : Int32) : En 0 0 none mr_147 (P_147 σ0 a) 0 [(0, .int a)] [] σ0 := by
  have hF0 : Fr [] σ0 σ0 := Fr_rfl
  refine En_Ps 1 (pc' := 1) (lv' := [(0, .int a)]) (st' := [.int a]) rfl ?_
  refine En_iLt _ rfl rfl (fun h1 => ?_) (fun h1 => ?_)
  · refine En_Ps 1 (pc' := 14) (lv' := [(0, .int a)]) (st' := [.int ((Int32.ofInt 0))]) rfl ?_
    refine En_top (by decide : (Int32.ofInt 0).toInt = 0) (fun z2 h3 => ?_)
    exact En_ret (v := some (Value.int z2)) rfl rfl (retZ rfl rfl (by first | exact q_55451d0a83 h3 | omega) (by first | exact q_87849c3859 h3 | omega)) ⟨hσ0, hF0, z2, rfl, ⟨by first | exact q_097a37c2ae h3 | omega, by first | exact q_e269517bee h3 | omega, fun _ => by omega, fun _ => by omega⟩⟩
  · refine En_Ps 2 (pc' := 6) (lv' := [(0, .int a)]) (st' := [.int ((Int32.ofInt 4)), .int a]) rfl ?_
    refine En_icGe _ rfl (by decide : (Int32.ofInt 4).toInt = 4) rfl (fun h4 => ?_) (fun h4 => ?_)
    · refine En_Ps 1 (pc' := 14) (lv' := [(0, .int a)]) (st' := [.int ((Int32.ofInt 0))]) rfl ?_
      refine En_top (by decide : (Int32.ofInt 0).toInt = 0) (fun z5 h6 => ?_)
      exact En_ret (v := some (Value.int z5)) rfl rfl (retZ rfl rfl (by first | exact q_55451d0a83 h6 | omega) (by first | exact q_87849c3859 h6 | omega)) ⟨hσ0, hF0, z5, rfl, ⟨by first | exact q_097a37c2ae h6 | omega, by first | exact q_e269517bee h6 | omega, fun _ => by omega, fun _ => by omega⟩⟩
    · refine En_Ps 2 (pc' := 14) (lv' := [(0, .int a)]) (st' := [.int ((Int32.ofInt 1))]) rfl ?_
      refine En_top (by decide : (Int32.ofInt 1).toInt = 1) (fun z7 h8 => ?_)
      exact En_ret (v := some (Value.int z7)) rfl rfl (retZ rfl rfl (by first | exact q_2b07c97645 h8 | omega) (by first | exact q_d9e7cbb253 h8 | omega)) ⟨hσ0, hF0, z7, rfl, ⟨by first | exact q_ad3eee31ca h8 | omega, by first | exact q_81cf297dc4 h8 | omega, fun _ => by omega, fun _ => by omega⟩⟩
/-- DoorSchool.troubleWith(I)I -/
abbrev P_180 (σ0 : SG) (a : Int32) (p : Nat) (sg : Int32) : PO := fun v σ => WT σ ∧ Fr [] σ0 σ ∧ ∃ ret : Int32, v = some (Value.int ret) ∧ -ret.toInt - 6 ≤ 0 ∧ ret.toInt ≤ 0 ∧ (ret.toInt ≤ 0 ∧ -ret.toInt ≤ 0 → -a.toInt ≤ 0 ∧ a.toInt - 3 ≤ 0)
set_option maxRecDepth 10000 in
set_option maxHeartbeats 4000000 in
theorem c_180 (σ0 : SG) (hσ0 : WT σ0) (a : Int32) (p : Nat) (hp : TG p = 18) (h_p : (σ0 0)[9]? = some (Value.ref p)) (sg : Int32) (h_sg : (σ0 p)[1]? = some (Value.int sg)) (hp0 : -sg.toInt ≤ 0) : En 1 26 none mr_180 (P_180 σ0 a p sg) 0 [(0, .ref 0), (1, .int a)] [] σ0 := by
  obtain ⟨hl_sg, hu_sg⟩ := WT_int hσ0 (g := 18) hp (by decide +kernel) (l := (-1)) (u := 4) (by decide +kernel) h_sg
  have hF0 : Fr [] σ0 σ0 := Fr_rfl
  refine En_Ps 1 (pc' := 1) (lv' := [(0, .ref 0), (1, .int a)]) (st' := [.int a]) rfl ?_
  refine En_callS rfl rfl rfl rfl rfl rfl rfl rfl rfl (c_147 σ0 hσ0 a) (by decide) (by decide) (fun v2 σ3 h1 => ?_)
  obtain ⟨h4, h5, z7, rfl, h6⟩ := h1
  have h8 := Fr_trans hF0 h5 (by decide +kernel)
  refine En_iEq _ rfl rfl (fun h9 => ?_) (fun h9 => ?_)
  · refine En_Ps 1 (pc' := 19) (lv' := [(0, .ref 0), (1, .int a)]) (st' := [.int (((Int8.ofInt (-2)).toInt32))]) rfl ?_
    refine En_top (by decide : ((Int8.ofInt (-2)).toInt32).toInt = -2) (fun z10 h11 => ?_)
    exact En_ret (v := some (Value.int z10)) rfl rfl rfl ⟨h4, h8, z10, rfl, ⟨by first | exact q_2583522324 h11 | omega, by first | exact q_bbb39ffa1e h11 | omega, fun _ => by omega⟩⟩
  · refine En_Ps 1 (pc' := 8) (lv' := [(0, .ref 0), (1, .int a)]) (st' := [.ref 0]) rfl ?_
    refine En_getK (j := 9) ((h5 _ _ (inW tgz_0 (by decide +kernel))).trans h_p) rfl rfl rfl tgz_0 (by decide +kernel) ?_
    refine En_callV rfl rfl rfl rfl rfl rfl rfl rfl hp (by decide +kernel) rfl (c_43 σ3 h4 p hp) (by decide) (by decide) (fun v13 σ14 h12 => ?_)
    obtain ⟨h15, h16, z18, rfl, h17⟩ := h12
    have h19 := Fr_trans h8 h16 (by decide +kernel)
    refine En_iNe _ rfl rfl (fun h20 => ?_) (fun h20 => ?_)
    · refine En_Ps 1 (pc' := 21) (lv' := [(0, .ref 0), (1, .int a)]) (st' := [.ref 0]) rfl ?_
      refine En_getU (j := 6) (u := 150) (g' := 32) (q := 0) rfl rfl rfl tgz_0 (by decide +kernel) h15 (by decide +kernel) un_32_150 (fun h21 => ?_)
      refine En_Ps 1 (pc' := 25) (lv' := [(0, .ref 0), (1, .int a)]) (st' := [.int a, .ref 150]) rfl ?_
      refine En_aald (g' := 33) (u := 0) rfl rfl tgz_150 (by decide +kernel) h15 (by omega) (lnI (by decide +kernel : LN _ = 4) (by omega)) (FTsgl (by decide +kernel)) (fun a24 h23 ha24 => ?_)
      refine En_getI (j := 1) (l := 0) (u := 1) rfl rfl rfl ha24 (by decide +kernel) h15 (by decide +kernel) (fun z26 h25 h27 h28 => ?_)
      refine En_iNe _ rfl rfl (fun h29 => ?_) (fun h29 => ?_)
      · refine En_Ps 1 (pc' := 36) (lv' := [(0, .ref 0), (1, .int a)]) (st' := [.ref 0]) rfl ?_
        refine En_getK (j := 6) h21 rfl rfl rfl tgz_0 (by decide +kernel) ?_
        refine En_Ps 1 (pc' := 40) (lv' := [(0, .ref 0), (1, .int a)]) (st' := [.int a, .ref 150]) rfl ?_
        refine En_aald (g' := 33) (u := 0) rfl rfl tgz_150 (by decide +kernel) h15 (by omega) (lnI (by decide +kernel : LN _ = 4) (by omega)) (FTsgl (by decide +kernel)) (fun a31 h30 ha31 => ?_)
        refine En_Ps 1 (pc' := 42) (lv' := [(0, .ref 0), (1, .int a)]) (st' := [.ref 0, .ref a31]) rfl ?_
        refine En_getK (j := 9) ((h16 _ _ (inW tgz_0 (by decide +kernel))).trans ((h5 _ _ (inW tgz_0 (by decide +kernel))).trans h_p)) rfl rfl rfl tgz_0 (by decide +kernel) ?_
        refine En_callV rfl rfl rfl rfl rfl rfl rfl rfl hp (by decide +kernel) rfl (c_51 σ14 h15 p hp sg ((h16 _ _ (inW hp (by decide +kernel))).trans ((h5 _ _ (inW hp (by decide +kernel))).trans h_sg)) (by first | exact q_a555021d16 hp0 | omega)) (by decide) (by decide) (fun v33 σ34 h32 => ?_)
        obtain ⟨h35, h36, z38, rfl, h37⟩ := h32
        have h39 := Fr_trans h19 h36 (by decide +kernel)
        refine En_callV rfl rfl rfl rfl rfl rfl rfl rfl ha31 (by decide +kernel) rfl (c_87 σ34 h35 a31 ha31 z38) (by decide) (by decide) (fun v41 σ42 h40 => ?_)
        obtain ⟨h43, h44, z46, rfl, h45⟩ := h40
        have h47 := Fr_trans h39 h44 (by decide +kernel)
        refine En_iEq _ rfl rfl (fun h48 => ?_) (fun h48 => ?_)
        · refine En_Ps 1 (pc' := 60) (lv' := [(0, .ref 0), (1, .int a)]) (st' := [.int (((Int8.ofInt (-2)).toInt32))]) rfl ?_
          refine En_top (by decide : ((Int8.ofInt (-2)).toInt32).toInt = -2) (fun z49 h50 => ?_)
          exact En_ret (v := some (Value.int z49)) rfl rfl rfl ⟨h43, h47, z49, rfl, ⟨by first | exact q_2583522324 h50 | omega, by first | exact q_bbb39ffa1e h50 | omega, fun _ => by omega⟩⟩
        · refine En_Ps 2 (pc' := 60) (lv' := [(0, .ref 0), (1, .int a)]) (st' := [.int ((Int32.ofInt 0))]) rfl ?_
          refine En_top (by decide : (Int32.ofInt 0).toInt = 0) (fun z51 h52 => ?_)
          exact En_ret (v := some (Value.int z51)) rfl rfl rfl ⟨h43, h47, z51, rfl, ⟨by first | exact q_49fb6350c2 h52 | omega, by first | exact q_c5d285f1b9 h52 | omega, fun _ => by omega⟩⟩
      · refine En_Ps 1 (pc' := 34) (lv' := [(0, .ref 0), (1, .int a)]) (st' := [.int (((Int8.ofInt (-6)).toInt32))]) rfl ?_
        refine En_top (by decide : ((Int8.ofInt (-6)).toInt32).toInt = -6) (fun z53 h54 => ?_)
        exact En_ret (v := some (Value.int z53)) rfl rfl rfl ⟨h15, h19, z53, rfl, ⟨by first | exact q_597c727cce h54 | omega, by first | exact q_9bcb887de1 h54 | omega, fun _ => by omega⟩⟩
    · refine En_Ps 1 (pc' := 19) (lv' := [(0, .ref 0), (1, .int a)]) (st' := [.int (((Int8.ofInt (-2)).toInt32))]) rfl ?_
      refine En_top (by decide : ((Int8.ofInt (-2)).toInt32).toInt = -2) (fun z55 h56 => ?_)
      exact En_ret (v := some (Value.int z55)) rfl rfl rfl ⟨h15, h19, z55, rfl, ⟨by first | exact q_2583522324 h56 | omega, by first | exact q_bbb39ffa1e h56 | omega, fun _ => by omega⟩⟩
/-- DoorSchool.leftAtWorst(LDoorSchool$Slot;I)I -/
abbrev P_153 (σ0 : SG) (a : Nat) (b : Int32) (p : Nat) (sg : Int32) : PO := fun v σ => WT σ ∧ Fr [] σ0 σ ∧ ∃ ret : Int32, v = some (Value.int ret) ∧ -ret.toInt ≤ 0 ∧ ret.toInt - 81 ≤ 0
set_option maxRecDepth 10000 in
set_option maxHeartbeats 4000000 in
theorem c_153 (σ0 : SG) (hσ0 : WT σ0) (a : Nat) (ha : TG a = 33) (b : Int32) (p : Nat) (hp : TG p = 18) (h_p : (σ0 0)[9]? = some (Value.ref p)) (sg : Int32) (h_sg : (σ0 p)[1]? = some (Value.int sg)) (hp0 : -sg.toInt ≤ 0) : En 2 46 none mr_153 (P_153 σ0 a b p sg) 0 [(0, .ref 0), (1, .ref a), (2, .int b)] [] σ0 := by
  obtain ⟨hl_sg, hu_sg⟩ := WT_int hσ0 (g := 18) hp (by decide +kernel) (l := (-1)) (u := 4) (by decide +kernel) h_sg
  have hF0 : Fr [] σ0 σ0 := Fr_rfl
  refine En_Ps 2 (pc' := 2) (lv' := [(0, .ref 0), (1, .ref a), (2, .int b)]) (st' := [.int ((Int32.ofInt 1)), .ref a]) rfl ?_
  have := (by decide : ((Int32.ofInt 1)).toInt = 1)
  refine En_callV rfl rfl rfl rfl rfl rfl rfl rfl ha (by decide +kernel) rfl (c_89 σ0 hσ0 a ha ((Int32.ofInt 1))) (by decide) (by decide) (fun v2 σ3 h1 => ?_)
  obtain ⟨h4, h5, z7, rfl, h6⟩ := h1
  have h8 := Fr_trans hF0 h5 (by decide +kernel)
  refine En_Ps 3 (pc' := 8) (lv' := [(3, .int z7), (0, .ref 0), (1, .ref a), (2, .int b)]) (st' := [.int ((Int32.ofInt 0)), .ref a]) rfl ?_
  have := (by decide : ((Int32.ofInt 0)).toInt = 0)
  refine En_callV rfl rfl rfl rfl rfl rfl rfl rfl ha (by decide +kernel) rfl (c_89 σ3 h4 a ha ((Int32.ofInt 0))) (by decide) (by decide) (fun v10 σ11 h9 => ?_)
  obtain ⟨h12, h13, z15, rfl, h14⟩ := h9
  have h16 := Fr_trans h8 h13 (by decide +kernel)
  refine En_Ps 4 (pc' := 16) (lv' := [(4, .int z15), (3, .int z7), (0, .ref 0), (1, .ref a), (2, .int b)]) (st' := [.int ((((Int32.ofInt 1)) <<< (b &&& 31)))]) rfl ?_
  refine En_hav (fun z17 => ?_)
  refine En_Ps 2 (pc' := 19) (lv' := [(5, .int z17), (4, .int z15), (3, .int z7), (0, .ref 0), (1, .ref a), (2, .int b)]) (st' := [.ref 0]) rfl ?_
  refine En_getU (j := 2) (u := 4) (g' := 4) (q := 0) rfl rfl rfl tgz_0 (by decide +kernel) h12 (by decide +kernel) un_4_4 (fun h18 => ?_)
  refine En_Ps 3 (pc' := 26) (lv' := [(5, .int z17), (4, .int z15), (3, .int z7), (0, .ref 0), (1, .ref a), (2, .int b)]) (st' := [.int ((z7 ||| z17)), .ref 4]) rfl ?_
  refine En_hav (fun z20 => ?_)
  refine En_Ps 1 (pc' := 28) (lv' := [(5, .int z17), (4, .int z15), (3, .int z7), (0, .ref 0), (1, .ref a), (2, .int b)]) (st' := [.int z15, .int z20, .ref 4]) rfl ?_
  refine En_callV rfl rfl rfl rfl rfl rfl rfl rfl tgz_4 (by decide +kernel) rfl (c_79 σ11 h12 z20 z15) (by decide) (by decide) (fun v22 σ23 h21 => ?_)
  obtain ⟨h24, h25, z27, rfl, h26⟩ := h21
  have h28 := Fr_trans h16 h25 (by decide +kernel)
  refine En_Ps 1 (pc' := 32) (lv' := [(5, .int z17), (4, .int z15), (3, .int z7), (0, .ref 0), (1, .ref a), (2, .int b)]) (st' := [.ref 0, .int z27]) rfl ?_
  refine En_getK (j := 2) ((h25 _ _ (inW tgz_0 (by decide +kernel))).trans h18) rfl rfl rfl tgz_0 (by decide +kernel) ?_
  refine En_Ps 4 (pc' := 41) (lv' := [(5, .int z17), (4, .int z15), (3, .int z7), (0, .ref 0), (1, .ref a), (2, .int b)]) (st' := [.int ((z15 ||| z17)), .int z7, .ref 4, .int z27]) rfl ?_
  refine En_hav (fun z29 => ?_)
  refine En_callV rfl rfl rfl rfl rfl rfl rfl rfl tgz_4 (by decide +kernel) rfl (c_79 σ23 h24 z7 z29) (by decide) (by decide) (fun v31 σ32 h30 => ?_)
  obtain ⟨h33, h34, z36, rfl, h35⟩ := h30
  have h37 := Fr_trans h28 h34 (by decide +kernel)
  refine En_callS rfl rfl rfl rfl rfl rfl rfl rfl rfl (c_10 σ32 h33 z27 z36) (by decide) (by decide) (fun v39 σ40 h38 => ?_)
  obtain ⟨h41, h42, z44, rfl, h43⟩ := h38
  have h45 := Fr_trans h37 h42 (by decide +kernel)
  exact En_ret (v := some (Value.int z44)) rfl rfl rfl ⟨h41, h45, z44, rfl, ⟨by first | exact q_817530b61c h43.1 h26.1 | omega, by omega⟩⟩
/-- DoorSchool.askedOf(LDoorSchool$Slot;)I -/
abbrev P_104 (σ0 : SG) (a : Nat) (p : Nat) (sg : Int32) : PO := fun v σ => WT σ ∧ Fr [] σ0 σ ∧ ∃ ret : Int32, v = some (Value.int ret) ∧ -ret.toInt - 1 ≤ 0 ∧ ret.toInt - 15 ≤ 0
set_option maxRecDepth 10000 in
set_option maxHeartbeats 4000000 in
theorem c_104 (σ0 : SG) (hσ0 : WT σ0) (a : Nat) (ha : TG a = 33) (p : Nat) (hp : TG p = 18) (h_p : (σ0 0)[9]? = some (Value.ref p)) (sg : Int32) (h_sg : (σ0 p)[1]? = some (Value.int sg)) (hp0 : -sg.toInt ≤ 0) : En 3 71 none mr_104 (P_104 σ0 a p sg) 0 [(0, .ref 0), (1, .ref a)] [] σ0 := by
  obtain ⟨hl_sg, hu_sg⟩ := WT_int hσ0 (g := 18) hp (by decide +kernel) (l := (-1)) (u := 4) (by decide +kernel) h_sg
  have hF0 : Fr [] σ0 σ0 := Fr_rfl
  refine En_Ps 3 (pc' := 3) (lv' := [(2, .int ((Int32.ofInt (-1)))), (0, .ref 0), (1, .ref a)]) (st' := [.ref 0]) rfl ?_
  refine En_getU (j := 2) (u := 4) (g' := 4) (q := 0) rfl rfl rfl tgz_0 (by decide +kernel) hσ0 (by decide +kernel) un_4_4 (fun h1 => ?_)
  refine En_Ps 2 (pc' := 8) (lv' := [(2, .int ((Int32.ofInt (-1)))), (0, .ref 0), (1, .ref a)]) (st' := [.int ((Int32.ofInt 1)), .ref a, .ref 4]) rfl ?_
  have := (by decide : ((Int32.ofInt 1)).toInt = 1)
  refine En_callV rfl rfl rfl rfl rfl rfl rfl rfl ha (by decide +kernel) rfl (c_89 σ0 hσ0 a ha ((Int32.ofInt 1))) (by decide) (by decide) (fun v4 σ5 h3 => ?_)
  obtain ⟨h6, h7, z9, rfl, h8⟩ := h3
  have h10 := Fr_trans hF0 h7 (by decide +kernel)
  refine En_Ps 2 (pc' := 13) (lv' := [(2, .int ((Int32.ofInt (-1)))), (0, .ref 0), (1, .ref a)]) (st' := [.int ((Int32.ofInt 0)), .ref a, .int z9, .ref 4]) rfl ?_
  have := (by decide : ((Int32.ofInt 0)).toInt = 0)
  refine En_callV rfl rfl rfl rfl rfl rfl rfl rfl ha (by decide +kernel) rfl (c_89 σ5 h6 a ha ((Int32.ofInt 0))) (by decide) (by decide) (fun v12 σ13 h11 => ?_)
  obtain ⟨h14, h15, z17, rfl, h16⟩ := h11
  have h18 := Fr_trans h10 h15 (by decide +kernel)
  refine En_callV rfl rfl rfl rfl rfl rfl rfl rfl tgz_4 (by decide +kernel) rfl (c_79 σ13 h14 z9 z17) (by decide) (by decide) (fun v20 σ21 h19 => ?_)
  obtain ⟨h22, h23, z25, rfl, h24⟩ := h19
  have h26 := Fr_trans h18 h23 (by decide +kernel)
  refine En_Ps 3 (pc' := 23) (lv' := [(4, .int ((Int32.ofInt 0))), (3, .int z25), (2, .int ((Int32.ofInt (-1)))), (0, .ref 0), (1, .ref a)]) (st' := []) rfl ?_
  have key23 : ∀ (n23 : Nat) (σ30 : SG) (y27 : Int32) (y28 : Int32) (y29 : Int32), WT σ30 → Fr [] σ0 σ30 → (σ30 0)[9]? = some (Value.ref p) → (σ30 p)[1]? = some (Value.int sg) → (σ30 0)[2]? = some (Value.ref 4) → (-1) ≤ y27.toInt → y27.toInt ≤ 15 → 0 ≤ y28.toInt → y28.toInt ≤ 81 → 0 ≤ y29.toInt → y29.toInt ≤ 16 → y27.toInt - y29.toInt + 1 ≤ 0 → -y29.toInt + 16 < (n23 : Int) → En 3 71 none mr_104 (P_104 σ0 a p sg) 23 [(0, .ref 0), (1, .ref a), (2, .int y27), (3, .int y28), (4, .int y29)] [] σ30 := by
    intro n23
    induction n23 with
    | zero =>
      intro σ30 y27 y28 y29 h31 h32 h33 h34 h35 h36 h37 h38 h39 h40 h41 h42 h43
      first | exact (q_511f6d33ac h43 h41).elim | (exfalso; omega)
    | succ n23 ih23 =>
      intro σ30 y27 y28 y29 h31 h32 h33 h34 h35 h36 h37 h38 h39 h40 h41 h42 h43
      refine En_Ps 2 (pc' := 26) (lv' := [(0, .ref 0), (1, .ref a), (2, .int y27), (3, .int y28), (4, .int y29)]) (st' := [.ref 0, .int y29]) rfl ?_
      refine En_getK (j := 9) h33 rfl rfl rfl tgz_0 (by decide +kernel) ?_
      refine En_callV rfl rfl rfl rfl rfl rfl rfl rfl hp (by decide +kernel) rfl (c_51 σ30 h31 p hp sg h34 (by first | exact q_a555021d16 hp0 | omega)) (by decide) (by decide) (fun v45 σ46 h44 => ?_)
      obtain ⟨h47, h48, z50, rfl, h49⟩ := h44
      have h51 := Fr_trans h32 h48 (by decide +kernel)
      refine En_icGe _ rfl rfl rfl (fun h52 => ?_) (fun h52 => ?_)
      · refine En_Ps 1 (pc' := 63) (lv' := [(0, .ref 0), (1, .ref a), (2, .int y27), (3, .int y28), (4, .int y29)]) (st' := [.int y27]) rfl ?_
        exact En_ret (v := some (Value.int y27)) rfl rfl rfl ⟨h47, h51, y27, rfl, ⟨by first | exact q_909eef6c0e h36 | omega, by first | exact q_867a9ac627 h37 | omega⟩⟩
      · refine En_Ps 3 (pc' := 39) (lv' := [(0, .ref 0), (1, .ref a), (2, .int y27), (3, .int y28), (4, .int y29)]) (st' := [.int y29, .ref a, .ref 0]) rfl ?_
        refine En_callV rfl rfl rfl rfl rfl rfl rfl rfl tgz_0 (by decide +kernel) rfl (c_153 σ46 h47 a ha y29 p hp ((h48 _ _ (inW tgz_0 (by decide +kernel))).trans h33) sg ((h48 _ _ (inW hp (by decide +kernel))).trans h34) (by first | exact q_a555021d16 hp0 | omega)) (by decide) (by decide) (fun v54 σ55 h53 => ?_)
        obtain ⟨h56, h57, z59, rfl, h58⟩ := h53
        have h60 := Fr_trans h51 h57 (by decide +kernel)
        refine En_Ps 3 (pc' := 47) (lv' := [(5, .int z59), (0, .ref 0), (1, .ref a), (2, .int y27), (3, .int y28), (4, .int y29)]) (st' := [.int y28, .int z59]) rfl ?_
        refine En_icGe _ rfl rfl rfl (fun h61 => ?_) (fun h61 => ?_)
        · refine En_Ps 1 (pc' := 59) (lv' := [(4, .int ((y29 + Int32.ofInt 1))), (5, .int z59), (0, .ref 0), (1, .ref a), (2, .int y27), (3, .int y28)]) (st' := []) rfl ?_
          refine En_lv1 (addI rfl (by decide : (Int32.ofInt 1).toInt = 1) (by first | exact q_465ab79ac1 h40 | omega) (by first | exact q_f3f8e04381 h41 | omega)) (fun z62 h63 => ?_)
          refine En_Ps 1 (pc' := 23) (lv' := [(4, .int z62), (5, .int z59), (0, .ref 0), (1, .ref a), (2, .int y27), (3, .int y28)]) (st' := []) rfl ?_
          refine En_lv (lv := [(0, .ref 0), (1, .ref a), (2, .int y27), (3, .int y28), (4, .int z62)]) ⟨rfl, rfl, rfl, rfl, rfl, trivial⟩ ?_
          exact ih23 σ55 y27 y28 z62 h56 h60 ((h57 _ _ (inW tgz_0 (by decide +kernel))).trans ((h48 _ _ (inW tgz_0 (by decide +kernel))).trans h33)) ((h57 _ _ (inW hp (by decide +kernel))).trans ((h48 _ _ (inW hp (by decide +kernel))).trans h34)) ((h57 _ _ (inW tgz_0 (by decide +kernel))).trans ((h48 _ _ (inW tgz_0 (by decide +kernel))).trans h35)) (by first | exact q_77b189e83d h36 | omega) (by first | exact q_5a4d8a7e08 h37 | omega) (by first | exact q_58e6e51dcc h38 | omega) (by first | exact q_938d18a0b8 h39 | omega) (by first | exact q_35104ce9d3 h63 h40 | omega) (by first | exact q_34dc714687 h63 h52 h49.2 | omega) (by first | exact q_6591527e3e h42 h63 | omega) (by first | exact q_c5d740bdff h63 h43 | omega)
        · refine En_Ps 5 (pc' := 59) (lv' := [(4, .int ((y29 + Int32.ofInt 1))), (2, .int y29), (3, .int z59), (5, .int z59), (0, .ref 0), (1, .ref a)]) (st' := []) rfl ?_
          refine En_lv1 (addI rfl (by decide : (Int32.ofInt 1).toInt = 1) (by first | exact q_465ab79ac1 h40 | omega) (by first | exact q_f3f8e04381 h41 | omega)) (fun z64 h65 => ?_)
          refine En_Ps 1 (pc' := 23) (lv' := [(4, .int z64), (2, .int y29), (3, .int z59), (5, .int z59), (0, .ref 0), (1, .ref a)]) (st' := []) rfl ?_
          refine En_lv (lv := [(0, .ref 0), (1, .ref a), (2, .int y29), (3, .int z59), (4, .int z64)]) ⟨rfl, rfl, rfl, rfl, rfl, trivial⟩ ?_
          exact ih23 σ55 y29 z59 z64 h56 h60 ((h57 _ _ (inW tgz_0 (by decide +kernel))).trans ((h48 _ _ (inW tgz_0 (by decide +kernel))).trans h33)) ((h57 _ _ (inW hp (by decide +kernel))).trans ((h48 _ _ (inW hp (by decide +kernel))).trans h34)) ((h57 _ _ (inW tgz_0 (by decide +kernel))).trans ((h48 _ _ (inW tgz_0 (by decide +kernel))).trans h35)) (by first | exact q_5b439548fc h40 | omega) (by first | exact q_c15b485600 h52 h49.2 | omega) (by first | exact q_ef1e8e38bf h58.1 | omega) (by first | exact q_e0af57759e h58.2 | omega) (by first | exact q_35104ce9d3 h65 h40 | omega) (by first | exact q_34dc714687 h65 h52 h49.2 | omega) (by first | exact q_2fedec469a h65 | omega) (by first | exact q_c5d740bdff h65 h43 | omega)
  have := (by decide : (Int32.ofInt (-1)).toInt = -1)
  have := (by decide : (Int32.ofInt 0).toInt = 0)
  refine En_lv (lv := [(0, .ref 0), (1, .ref a), (2, .int ((Int32.ofInt (-1)))), (3, .int z25), (4, .int ((Int32.ofInt 0)))]) ⟨rfl, rfl, rfl, rfl, rfl, trivial⟩ ?_
  exact key23 (Int.toNat (16) + 1) σ21 ((Int32.ofInt (-1))) z25 ((Int32.ofInt 0)) h22 h26 ((h23 _ _ (inW tgz_0 (by decide +kernel))).trans ((h15 _ _ (inW tgz_0 (by decide +kernel))).trans ((h7 _ _ (inW tgz_0 (by decide +kernel))).trans h_p))) ((h23 _ _ (inW hp (by decide +kernel))).trans ((h15 _ _ (inW hp (by decide +kernel))).trans ((h7 _ _ (inW hp (by decide +kernel))).trans h_sg))) ((h23 _ _ (inW tgz_0 (by decide +kernel))).trans ((h15 _ _ (inW tgz_0 (by decide +kernel))).trans ((h7 _ _ (inW tgz_0 (by decide +kernel))).trans h1))) (by decide) (by decide) (by first | exact q_ef1e8e38bf h24.1 | omega) (by first | exact q_e0af57759e h24.2 | omega) (by decide) (by decide) (by omega) (by first | exact toN_lt _ | omega)
/-- DoorSchool.ask(I)I -/
abbrev P_103 (σ0 : SG) (a : Int32) (p : Nat) (sg : Int32) : PO := fun v σ => WT σ ∧ Fr [] σ0 σ ∧ ∃ ret : Int32, v = some (Value.int ret) ∧ -ret.toInt - 6 ≤ 0 ∧ ret.toInt - 15 ≤ 0
set_option maxRecDepth 10000 in
set_option maxHeartbeats 4000000 in
theorem c_103 (σ0 : SG) (hσ0 : WT σ0) (a : Int32) (p : Nat) (hp : TG p = 18) (h_p : (σ0 0)[9]? = some (Value.ref p)) (sg : Int32) (h_sg : (σ0 p)[1]? = some (Value.int sg)) (hp0 : -sg.toInt ≤ 0) : En 4 96 none mr_103 (P_103 σ0 a p sg) 0 [(0, .ref 0), (1, .int a)] [] σ0 := by
  obtain ⟨hl_sg, hu_sg⟩ := WT_int hσ0 (g := 18) hp (by decide +kernel) (l := (-1)) (u := 4) (by decide +kernel) h_sg
  have hF0 : Fr [] σ0 σ0 := Fr_rfl
  refine En_Ps 2 (pc' := 2) (lv' := [(0, .ref 0), (1, .int a)]) (st' := [.int a, .ref 0]) rfl ?_
  refine En_callV rfl rfl rfl rfl rfl rfl rfl rfl tgz_0 (by decide +kernel) rfl (c_180 σ0 hσ0 a p hp h_p sg h_sg (by first | exact q_a555021d16 hp0 | omega)) (by decide) (by decide) (fun v2 σ3 h1 => ?_)
  obtain ⟨h4, h5, z7, rfl, h6⟩ := h1
  have h8 := Fr_trans hF0 h5 (by decide +kernel)
  refine En_Ps 2 (pc' := 7) (lv' := [(2, .int z7), (0, .ref 0), (1, .int a)]) (st' := [.int z7]) rfl ?_
  refine En_iEq _ rfl rfl (fun h9 => ?_) (fun h9 => ?_)
  · refine En_Ps 2 (pc' := 16) (lv' := [(2, .int z7), (0, .ref 0), (1, .int a)]) (st' := [.ref 0, .ref 0]) rfl ?_
    refine En_getU (j := 6) (u := 150) (g' := 32) (q := 0) rfl rfl rfl tgz_0 (by decide +kernel) h4 (by decide +kernel) un_32_150 (fun h10 => ?_)
    refine En_Ps 1 (pc' := 20) (lv' := [(2, .int z7), (0, .ref 0), (1, .int a)]) (st' := [.int a, .ref 150, .ref 0]) rfl ?_
    refine En_aald (g' := 33) (u := 0) rfl rfl tgz_150 (by decide +kernel) h4 (by omega) (lnI (by decide +kernel : LN _ = 4) (by omega)) (FTsgl (by decide +kernel)) (fun a13 h12 ha13 => ?_)
    refine En_callV rfl rfl rfl rfl rfl rfl rfl rfl tgz_0 (by decide +kernel) rfl (c_104 σ3 h4 a13 ha13 p hp ((h5 _ _ (inW tgz_0 (by decide +kernel))).trans h_p) sg ((h5 _ _ (inW hp (by decide +kernel))).trans h_sg) (by first | exact q_a555021d16 hp0 | omega)) (by decide) (by decide) (fun v15 σ16 h14 => ?_)
    obtain ⟨h17, h18, z20, rfl, h19⟩ := h14
    have h21 := Fr_trans h8 h18 (by decide +kernel)
    exact En_ret (v := some (Value.int z20)) rfl rfl rfl ⟨h17, h21, z20, rfl, ⟨by first | exact q_1d41d4b205 h19.1 | omega, by first | exact q_cc7dfeacf0 h19.2 | omega⟩⟩
  · refine En_Ps 2 (pc' := 24) (lv' := [(2, .int z7), (0, .ref 0), (1, .int a)]) (st' := [.int z7]) rfl ?_
    exact En_ret (v := some (Value.int z7)) rfl rfl rfl ⟨h4, h8, z7, rfl, ⟨by first | exact q_629d629181 h6.1 | omega, by first | exact q_c633bca181 h9 h6.2.1 | omega⟩⟩
/-- DoorSchool.marksFor(I)I -/
abbrev P_156 (σ0 : SG) (a : Int32) (p : Nat) (sg : Int32) : PO := fun v σ => WT σ ∧ Fr [] σ0 σ ∧ ∃ ret : Int32, v = some (Value.int ret) ∧ -ret.toInt ≤ 0 ∧ ret.toInt - 63 ≤ 0
set_option maxRecDepth 10000 in
set_option maxHeartbeats 4000000 in
theorem c_156 (σ0 : SG) (hσ0 : WT σ0) (a : Int32) (p : Nat) (hp : TG p = 18) (h_p : (σ0 0)[9]? = some (Value.ref p)) (sg : Int32) (h_sg : (σ0 p)[1]? = some (Value.int sg)) (hp0 : -sg.toInt ≤ 0) : En 2 44 none mr_156 (P_156 σ0 a p sg) 0 [(0, .ref 0), (1, .int a)] [] σ0 := by
  obtain ⟨hl_sg, hu_sg⟩ := WT_int hσ0 (g := 18) hp (by decide +kernel) (l := (-1)) (u := 4) (by decide +kernel) h_sg
  have hF0 : Fr [] σ0 σ0 := Fr_rfl
  refine En_Ps 1 (pc' := 1) (lv' := [(0, .ref 0), (1, .int a)]) (st' := [.ref 0]) rfl ?_
  refine En_getK (j := 9) h_p rfl rfl rfl tgz_0 (by decide +kernel) ?_
  refine En_getR (j := 5) (g' := 20) (u := 0) rfl rfl rfl hp (by decide +kernel) hσ0 (by decide +kernel) (fun a2 h1 ha2 => ?_)
  refine En_Ps 1 (pc' := 8) (lv' := [(0, .ref 0), (1, .int a)]) (st' := [.int a, .ref a2]) rfl ?_
  refine En_callV rfl rfl rfl rfl rfl rfl rfl rfl ha2 (by decide +kernel) rfl (c_32 σ0 hσ0 a2 ha2 a) (by decide) (by decide) (fun v4 σ5 h3 => ?_)
  obtain ⟨h6, h7, z9, rfl, h8⟩ := h3
  have h10 := Fr_trans hF0 h7 (by decide +kernel)
  refine En_callS rfl rfl rfl rfl rfl rfl rfl rfl rfl (c_7 σ5 h6 z9) (by decide) (by decide) (fun v12 σ13 h11 => ?_)
  obtain ⟨h14, h15, z17, rfl, h16⟩ := h11
  have h18 := Fr_trans h10 h15 (by decide +kernel)
  exact En_ret (v := some (Value.int z17)) rfl rfl rfl ⟨h14, h18, z17, rfl, ⟨by first | exact q_a555021d16 h16.1 | omega, by first | exact q_4b9206e141 h16.2 | omega⟩⟩
/-- DoorSchool.best()I -/
abbrev P_107 (σ0 : SG) (p : Nat) (sg : Int32) : PO := fun v σ => WT σ ∧ Fr [] σ0 σ ∧ ∃ ret : Int32, v = some (Value.int ret) ∧ -ret.toInt - 2 ≤ 0 ∧ ret.toInt - 3 ≤ 0
set_option maxRecDepth 10000 in
set_option maxHeartbeats 4000000 in
theorem c_107 (σ0 : SG) (hσ0 : WT σ0) (p : Nat) (hp : TG p = 18) (h_p : (σ0 0)[9]? = some (Value.ref p)) (sg : Int32) (h_sg : (σ0 p)[1]? = some (Value.int sg)) (hp0 : -sg.toInt ≤ 0) : En 4 92 none mr_107 (P_107 σ0 p sg) 0 [(0, .ref 0)] [] σ0 := by
  obtain ⟨hl_sg, hu_sg⟩ := WT_int hσ0 (g := 18) hp (by decide +kernel) (l := (-1)) (u := 4) (by decide +kernel) h_sg
  have hF0 : Fr [] σ0 σ0 := Fr_rfl
  refine En_Ps 1 (pc' := 1) (lv' := [(0, .ref 0)]) (st' := [.ref 0]) rfl ?_
  refine En_getK (j := 9) h_p rfl rfl rfl tgz_0 (by decide +kernel) ?_
  refine En_callV rfl rfl rfl rfl rfl rfl rfl rfl hp (by decide +kernel) rfl (c_43 σ0 hσ0 p hp) (by decide) (by decide) (fun v2 σ3 h1 => ?_)
  obtain ⟨h4, h5, z7, rfl, h6⟩ := h1
  have h8 := Fr_trans hF0 h5 (by decide +kernel)
  refine En_iNe _ rfl rfl (fun h9 => ?_) (fun h9 => ?_)
  · refine En_Ps 6 (pc' := 19) (lv' := [(3, .int ((Int32.ofInt 0))), (2, .int ((Int32.ofInt (-1)))), (1, .int ((Int32.ofInt (-1)))), (0, .ref 0)]) (st' := []) rfl ?_
    have key19 : ∀ (n19 : Nat) (σ13 : SG) (y10 : Int32) (y11 : Int32) (y12 : Int32), WT σ13 → Fr [] σ0 σ13 → (σ13 0)[9]? = some (Value.ref p) → (σ13 p)[1]? = some (Value.int sg) → (-1) ≤ y10.toInt → y10.toInt ≤ 3 → (-1) ≤ y11.toInt → y11.toInt ≤ 63 → 0 ≤ y12.toInt → y12.toInt ≤ 4 → y10.toInt - y12.toInt + 1 ≤ 0 → -y12.toInt + 4 < (n19 : Int) → En 4 92 none mr_107 (P_107 σ0 p sg) 19 [(0, .ref 0), (1, .int y10), (2, .int y11), (3, .int y12)] [] σ13 := by
      intro n19
      induction n19 with
      | zero =>
        intro σ13 y10 y11 y12 h14 h15 h16 h17 h18 h19 h20 h21 h22 h23 h24 h25
        first | exact (q_20d6385c6f h25 h23).elim | (exfalso; omega)
      | succ n19 ih19 =>
        intro σ13 y10 y11 y12 h14 h15 h16 h17 h18 h19 h20 h21 h22 h23 h24 h25
        refine En_Ps 2 (pc' := 21) (lv' := [(0, .ref 0), (1, .int y10), (2, .int y11), (3, .int y12)]) (st' := [.ref 0, .int y12]) rfl ?_
        refine En_getK (j := 9) h16 rfl rfl rfl tgz_0 (by decide +kernel) ?_
        refine En_getI (j := 3) (l := 0) (u := 4) rfl rfl rfl hp (by decide +kernel) h14 (by decide +kernel) (fun z27 h26 h28 h29 => ?_)
        refine En_icGe _ rfl rfl rfl (fun h30 => ?_) (fun h30 => ?_)
        · refine En_Ps 1 (pc' := 59) (lv' := [(0, .ref 0), (1, .int y10), (2, .int y11), (3, .int y12)]) (st' := [.int y10]) rfl ?_
          exact En_ret (v := some (Value.int y10)) rfl rfl rfl ⟨h14, h15, y10, rfl, ⟨by first | exact q_fe58cd40d0 h18 | omega, by first | exact q_e9a8eec0c4 h19 | omega⟩⟩
        · refine En_Ps 3 (pc' := 33) (lv' := [(0, .ref 0), (1, .int y10), (2, .int y11), (3, .int y12)]) (st' := [.int y12, .ref 0, .ref 0]) rfl ?_
          refine En_callV rfl rfl rfl rfl rfl rfl rfl rfl tgz_0 (by decide +kernel) rfl (c_114 σ13 h14 y12 (geI rfl (by first | exact q_58e6e51dcc h22 | omega)) (leI rfl (by first | exact q_5ab2e90ecc h30 h29 | omega)) p hp h16 sg h17 (by first | exact q_a555021d16 hp0 | omega)) (by decide) (by decide) (fun v32 σ33 h31 => ?_)
          obtain ⟨h34, h35, z37, rfl, h36⟩ := h31
          have h38 := Fr_trans h15 h35 (by decide +kernel)
          refine En_callV rfl rfl rfl rfl rfl rfl rfl rfl tgz_0 (by decide +kernel) rfl (c_156 σ33 h34 z37 p hp ((h35 _ _ (inW tgz_0 (by decide +kernel))).trans h16) sg ((h35 _ _ (inW hp (by decide +kernel))).trans h17) (by first | exact q_a555021d16 hp0 | omega)) (by decide) (by decide) (fun v40 σ41 h39 => ?_)
          obtain ⟨h42, h43, z45, rfl, h44⟩ := h39
          have h46 := Fr_trans h38 h43 (by decide +kernel)
          refine En_Ps 3 (pc' := 44) (lv' := [(4, .int z45), (0, .ref 0), (1, .int y10), (2, .int y11), (3, .int y12)]) (st' := [.int y11, .int z45]) rfl ?_
          refine En_icLe _ rfl rfl rfl (fun h47 => ?_) (fun h47 => ?_)
          · refine En_Ps 1 (pc' := 55) (lv' := [(3, .int ((y12 + Int32.ofInt 1))), (4, .int z45), (0, .ref 0), (1, .int y10), (2, .int y11)]) (st' := []) rfl ?_
            refine En_lv1 (addI rfl (by decide : (Int32.ofInt 1).toInt = 1) (by first | exact q_465ab79ac1 h22 | omega) (by first | exact q_f7282962fd h23 | omega)) (fun z48 h49 => ?_)
            refine En_Ps 1 (pc' := 19) (lv' := [(3, .int z48), (4, .int z45), (0, .ref 0), (1, .int y10), (2, .int y11)]) (st' := []) rfl ?_
            refine En_lv (lv := [(0, .ref 0), (1, .int y10), (2, .int y11), (3, .int z48)]) ⟨rfl, rfl, rfl, rfl, trivial⟩ ?_
            exact ih19 σ41 y10 y11 z48 h42 h46 ((h43 _ _ (inW tgz_0 (by decide +kernel))).trans ((h35 _ _ (inW tgz_0 (by decide +kernel))).trans h16)) ((h43 _ _ (inW hp (by decide +kernel))).trans ((h35 _ _ (inW hp (by decide +kernel))).trans h17)) (by first | exact q_77b189e83d h18 | omega) (by first | exact q_da5e9b976f h19 | omega) (by first | exact q_77b189e83d h20 | omega) (by first | exact q_8bf848900a h21 | omega) (by first | exact q_35104ce9d3 h49 h22 | omega) (by first | exact q_de42116b63 h49 h30 h29 | omega) (by first | exact q_6591527e3e h24 h49 | omega) (by first | exact q_3d8d70ace2 h49 h25 | omega)
          · refine En_Ps 5 (pc' := 55) (lv' := [(3, .int ((y12 + Int32.ofInt 1))), (1, .int y12), (2, .int z45), (4, .int z45), (0, .ref 0)]) (st' := []) rfl ?_
            refine En_lv1 (addI rfl (by decide : (Int32.ofInt 1).toInt = 1) (by first | exact q_465ab79ac1 h22 | omega) (by first | exact q_f7282962fd h23 | omega)) (fun z50 h51 => ?_)
            refine En_Ps 1 (pc' := 19) (lv' := [(3, .int z50), (1, .int y12), (2, .int z45), (4, .int z45), (0, .ref 0)]) (st' := []) rfl ?_
            refine En_lv (lv := [(0, .ref 0), (1, .int y12), (2, .int z45), (3, .int z50)]) ⟨rfl, rfl, rfl, rfl, trivial⟩ ?_
            exact ih19 σ41 y12 z45 z50 h42 h46 ((h43 _ _ (inW tgz_0 (by decide +kernel))).trans ((h35 _ _ (inW tgz_0 (by decide +kernel))).trans h16)) ((h43 _ _ (inW hp (by decide +kernel))).trans ((h35 _ _ (inW hp (by decide +kernel))).trans h17)) (by first | exact q_5b439548fc h22 | omega) (by first | exact q_5ab2e90ecc h30 h29 | omega) (by first | exact q_1ab37740a2 h44.1 | omega) (by first | exact q_3ea7e55eca h44.2 | omega) (by first | exact q_35104ce9d3 h51 h22 | omega) (by first | exact q_de42116b63 h51 h30 h29 | omega) (by first | exact q_2fedec469a h51 | omega) (by first | exact q_3d8d70ace2 h51 h25 | omega)
    have := (by decide : (Int32.ofInt (-1)).toInt = -1)
    have := (by decide : (Int32.ofInt (-1)).toInt = -1)
    have := (by decide : (Int32.ofInt 0).toInt = 0)
    refine En_lv (lv := [(0, .ref 0), (1, .int ((Int32.ofInt (-1)))), (2, .int ((Int32.ofInt (-1)))), (3, .int ((Int32.ofInt 0)))]) ⟨rfl, rfl, rfl, rfl, trivial⟩ ?_
    exact key19 (Int.toNat (4) + 1) σ3 ((Int32.ofInt (-1))) ((Int32.ofInt (-1))) ((Int32.ofInt 0)) h4 h8 ((h5 _ _ (inW tgz_0 (by decide +kernel))).trans h_p) ((h5 _ _ (inW hp (by decide +kernel))).trans h_sg) (by decide) (by decide) (by decide) (by decide) (by decide) (by decide) (by omega) (by first | exact toN_lt _ | omega)
  · refine En_Ps 1 (pc' := 12) (lv' := [(0, .ref 0)]) (st' := [.int (((Int8.ofInt (-2)).toInt32))]) rfl ?_
    refine En_top (by decide : ((Int8.ofInt (-2)).toInt32).toInt = -2) (fun z52 h53 => ?_)
    exact En_ret (v := some (Value.int z52)) rfl rfl rfl ⟨h4, h8, z52, rfl, ⟨by first | exact q_f35c5d346c h53 | omega, by first | exact q_09eb541a79 h53 | omega⟩⟩
/-- DoorSchool.fullSlots()I -/
abbrev P_128 (σ0 : SG) (p : Nat) (sg : Int32) : PO := fun v σ => WT σ ∧ Fr [] σ0 σ ∧ ∃ ret : Int32, v = some (Value.int ret) ∧ -ret.toInt ≤ 0 ∧ ret.toInt - 4 ≤ 0
set_option maxRecDepth 10000 in
set_option maxHeartbeats 4000000 in
theorem c_128 (σ0 : SG) (hσ0 : WT σ0) (p : Nat) (hp : TG p = 18) (h_p : (σ0 0)[9]? = some (Value.ref p)) (sg : Int32) (h_sg : (σ0 p)[1]? = some (Value.int sg)) (hp0 : -sg.toInt ≤ 0) : En 0 0 none mr_128 (P_128 σ0 p sg) 0 [(0, .ref 0)] [] σ0 := by
  obtain ⟨hl_sg, hu_sg⟩ := WT_int hσ0 (g := 18) hp (by decide +kernel) (l := (-1)) (u := 4) (by decide +kernel) h_sg
  have hF0 : Fr [] σ0 σ0 := Fr_rfl
  refine En_Ps 4 (pc' := 4) (lv' := [(2, .int ((Int32.ofInt 0))), (1, .int ((Int32.ofInt 0))), (0, .ref 0)]) (st' := []) rfl ?_
  have key4 : ∀ (n4 : Nat) (σ3 : SG) (y1 : Int32) (y2 : Int32), WT σ3 → Fr [] σ0 σ3 → (σ3 0)[9]? = some (Value.ref p) → (σ3 p)[1]? = some (Value.int sg) → 0 ≤ y1.toInt → y1.toInt ≤ 4 → 0 ≤ y2.toInt → y2.toInt ≤ 4 → y1.toInt - y2.toInt ≤ 0 → -y2.toInt + 4 < (n4 : Int) → En 0 0 none mr_128 (P_128 σ0 p sg) 4 [(0, .ref 0), (1, .int y1), (2, .int y2)] [] σ3 := by
    intro n4
    induction n4 with
    | zero =>
      intro σ3 y1 y2 h4 h5 h6 h7 h8 h9 h10 h11 h12 h13
      first | exact (q_20d6385c6f h13 h11).elim | (exfalso; omega)
    | succ n4 ih4 =>
      intro σ3 y1 y2 h4 h5 h6 h7 h8 h9 h10 h11 h12 h13
      refine En_Ps 2 (pc' := 6) (lv' := [(0, .ref 0), (1, .int y1), (2, .int y2)]) (st' := [.int ((Int32.ofInt 4)), .int y2]) rfl ?_
      refine En_icGe _ rfl (by decide : (Int32.ofInt 4).toInt = 4) rfl (fun h14 => ?_) (fun h14 => ?_)
      · refine En_Ps 1 (pc' := 31) (lv' := [(0, .ref 0), (1, .int y1), (2, .int y2)]) (st' := [.int y1]) rfl ?_
        exact En_ret (v := some (Value.int y1)) rfl rfl rfl ⟨h4, h5, y1, rfl, ⟨by first | exact q_c803b490ef h8 | omega, by first | exact q_3919a0a4ce h9 | omega⟩⟩
      · refine En_Ps 1 (pc' := 10) (lv' := [(0, .ref 0), (1, .int y1), (2, .int y2)]) (st' := [.ref 0]) rfl ?_
        refine En_getU (j := 6) (u := 150) (g' := 32) (q := 0) rfl rfl rfl tgz_0 (by decide +kernel) h4 (by decide +kernel) un_32_150 (fun h15 => ?_)
        refine En_Ps 1 (pc' := 14) (lv' := [(0, .ref 0), (1, .int y1), (2, .int y2)]) (st' := [.int y2, .ref 150]) rfl ?_
        refine En_aald (g' := 33) (u := 0) rfl rfl tgz_150 (by decide +kernel) h4 (by first | exact q_58e6e51dcc h10 | omega) (lnI (by decide +kernel : LN _ = 4) (by first | exact q_074a8b422d h14 | omega)) (FTsgl (by decide +kernel)) (fun a18 h17 ha18 => ?_)
        refine En_getI (j := 1) (l := 0) (u := 1) rfl rfl rfl ha18 (by decide +kernel) h4 (by decide +kernel) (fun z20 h19 h21 h22 => ?_)
        refine En_iEq _ rfl rfl (fun h23 => ?_) (fun h23 => ?_)
        · refine En_Ps 1 (pc' := 27) (lv' := [(2, .int ((y2 + Int32.ofInt 1))), (0, .ref 0), (1, .int y1)]) (st' := []) rfl ?_
          refine En_lv1 (addI rfl (by decide : (Int32.ofInt 1).toInt = 1) (by first | exact q_465ab79ac1 h10 | omega) (by first | exact q_d8bf7f475a h14 | omega)) (fun z24 h25 => ?_)
          refine En_Ps 1 (pc' := 4) (lv' := [(2, .int z24), (0, .ref 0), (1, .int y1)]) (st' := []) rfl ?_
          refine En_lv (lv := [(0, .ref 0), (1, .int y1), (2, .int z24)]) ⟨rfl, rfl, rfl, trivial⟩ ?_
          exact ih4 σ3 y1 z24 h4 h5 h6 h7 (by first | exact q_58e6e51dcc h8 | omega) (by first | exact q_c82ed93a8c h9 | omega) (by first | exact q_35104ce9d3 h25 h10 | omega) (by first | exact q_ddc5c16a68 h25 h14 | omega) (by first | exact q_3a5e225620 h12 h25 | omega) (by first | exact q_3d8d70ace2 h25 h13 | omega)
        · refine En_Ps 1 (pc' := 24) (lv' := [(1, .int ((y1 + Int32.ofInt 1))), (0, .ref 0), (2, .int y2)]) (st' := []) rfl ?_
          refine En_lv1 (addI rfl (by decide : (Int32.ofInt 1).toInt = 1) (by first | exact q_465ab79ac1 h8 | omega) (by first | exact q_f7282962fd h9 | omega)) (fun z26 h27 => ?_)
          refine En_Ps 1 (pc' := 27) (lv' := [(2, .int ((y2 + Int32.ofInt 1))), (1, .int z26), (0, .ref 0)]) (st' := []) rfl ?_
          refine En_lv1 (addI rfl (by decide : (Int32.ofInt 1).toInt = 1) (by first | exact q_465ab79ac1 h10 | omega) (by first | exact q_d8bf7f475a h14 | omega)) (fun z28 h29 => ?_)
          refine En_Ps 1 (pc' := 4) (lv' := [(2, .int z28), (1, .int z26), (0, .ref 0)]) (st' := []) rfl ?_
          refine En_lv (lv := [(0, .ref 0), (1, .int z26), (2, .int z28)]) ⟨rfl, rfl, rfl, trivial⟩ ?_
          exact ih4 σ3 z26 z28 h4 h5 h6 h7 (by first | exact q_35104ce9d3 h27 h8 | omega) (by first | exact q_3198f66952 h27 h12 h14 | omega) (by first | exact q_35104ce9d3 h29 h10 | omega) (by first | exact q_ddc5c16a68 h29 h14 | omega) (by first | exact q_1ff421e7a2 h27 h29 h12 | omega) (by first | exact q_3d8d70ace2 h29 h13 | omega)
  have := (by decide : (Int32.ofInt 0).toInt = 0)
  have := (by decide : (Int32.ofInt 0).toInt = 0)
  refine En_lv (lv := [(0, .ref 0), (1, .int ((Int32.ofInt 0))), (2, .int ((Int32.ofInt 0)))]) ⟨rfl, rfl, rfl, trivial⟩ ?_
  exact key4 (Int.toNat (4) + 1) σ0 ((Int32.ofInt 0)) ((Int32.ofInt 0)) hσ0 hF0 h_p h_sg (by decide) (by decide) (by decide) (by decide) (by omega) (by first | exact toN_lt _ | omega)
/-- DoorSchool.count(I)I -/
abbrev P_110 (σ0 : SG) (a : Int32) (p : Nat) (sg : Int32) : PO := fun v σ => WT σ ∧ Fr [] σ0 σ ∧ ∃ ret : Int32, v = some (Value.int ret) ∧ -ret.toInt - 1 ≤ 0 ∧ ret.toInt - 1601 ≤ 0
set_option maxRecDepth 10000 in
set_option maxHeartbeats 4000000 in
theorem c_110 (σ0 : SG) (hσ0 : WT σ0) (a : Int32) (p : Nat) (hp : TG p = 18) (h_p : (σ0 0)[9]? = some (Value.ref p)) (sg : Int32) (h_sg : (σ0 p)[1]? = some (Value.int sg)) (hp0 : -sg.toInt ≤ 0) : En 1 22 none mr_110 (P_110 σ0 a p sg) 0 [(0, .ref 0), (1, .int a)] [] σ0 := by
  obtain ⟨hl_sg, hu_sg⟩ := WT_int hσ0 (g := 18) hp (by decide +kernel) (l := (-1)) (u := 4) (by decide +kernel) h_sg
  have hF0 : Fr [] σ0 σ0 := Fr_rfl
  refine En_Ps 1 (pc' := 1) (lv' := [(0, .ref 0), (1, .int a)]) (st' := [.int a]) rfl ?_
  rcases (show a.toInt = 0 ∨ a.toInt = 1 ∨ a.toInt = 2 ∨ a.toInt = 3 ∨ a.toInt = 4 ∨ a.toInt = 5 ∨ a.toInt = 6 ∨ a.toInt = 7 ∨ a.toInt = 8 ∨ a.toInt = 9 ∨ a.toInt < 0 ∨ 9 < a.toInt by omega) with h1 | h1 | h1 | h1 | h1 | h1 | h1 | h1 | h1 | h1 | h1 | h1
  · refine En_swI (t := 56) (n := 0) rfl h1 rfl (by decide +kernel) ?_
    refine En_Ps 1 (pc' := 57) (lv' := [(0, .ref 0), (1, .int a)]) (st' := [.ref 0]) rfl ?_
    refine En_getK (j := 9) h_p rfl rfl rfl tgz_0 (by decide +kernel) ?_
    refine En_getK (j := 1) h_sg rfl rfl rfl hp (by decide +kernel) ?_
    exact En_ret (v := some (Value.int sg)) rfl rfl rfl ⟨hσ0, hF0, sg, rfl, ⟨by first | exact q_dcc8f4d087 hp0 | omega, by first | exact q_d10cfc905e hu_sg | omega⟩⟩
  · refine En_swI (t := 64) (n := 1) rfl h1 rfl (by decide +kernel) ?_
    refine En_Ps 1 (pc' := 65) (lv' := [(0, .ref 0), (1, .int a)]) (st' := [.ref 0]) rfl ?_
    refine En_getK (j := 9) h_p rfl rfl rfl tgz_0 (by decide +kernel) ?_
    refine En_getI (j := 2) (l := (-1)) (u := 3) rfl rfl rfl hp (by decide +kernel) hσ0 (by decide +kernel) (fun z3 h2 h4 h5 => ?_)
    exact En_ret (v := some (Value.int z3)) rfl rfl rfl ⟨hσ0, hF0, z3, rfl, ⟨by first | exact q_909eef6c0e h4 | omega, by first | exact q_4fc6d69e6c h5 | omega⟩⟩
  · refine En_swI (t := 72) (n := 2) rfl h1 rfl (by decide +kernel) ?_
    refine En_Ps 1 (pc' := 73) (lv' := [(0, .ref 0), (1, .int a)]) (st' := [.ref 0]) rfl ?_
    refine En_getK (j := 9) h_p rfl rfl rfl tgz_0 (by decide +kernel) ?_
    refine En_getI (j := 3) (l := 0) (u := 4) rfl rfl rfl hp (by decide +kernel) hσ0 (by decide +kernel) (fun z7 h6 h8 h9 => ?_)
    exact En_ret (v := some (Value.int z7)) rfl rfl rfl ⟨hσ0, hF0, z7, rfl, ⟨by first | exact q_565e7b05df h8 | omega, by first | exact q_d10cfc905e h9 | omega⟩⟩
  · refine En_swI (t := 80) (n := 3) rfl h1 rfl (by decide +kernel) ?_
    refine En_Ps 1 (pc' := 81) (lv' := [(0, .ref 0), (1, .int a)]) (st' := [.ref 0]) rfl ?_
    refine En_getK (j := 9) h_p rfl rfl rfl tgz_0 (by decide +kernel) ?_
    refine En_getR (j := 5) (g' := 20) (u := 0) rfl rfl rfl hp (by decide +kernel) hσ0 (by decide +kernel) (fun a11 h10 ha11 => ?_)
    refine En_getI (j := 2) (l := 0) (u := 13) rfl rfl rfl ha11 (by decide +kernel) hσ0 (by decide +kernel) (fun z13 h12 h14 h15 => ?_)
    exact En_ret (v := some (Value.int z13)) rfl rfl rfl ⟨hσ0, hF0, z13, rfl, ⟨by first | exact q_565e7b05df h14 | omega, by first | exact q_32c43a042e h15 | omega⟩⟩
  · refine En_swI (t := 91) (n := 4) rfl h1 rfl (by decide +kernel) ?_
    refine En_Ps 1 (pc' := 92) (lv' := [(0, .ref 0), (1, .int a)]) (st' := [.ref 0]) rfl ?_
    refine En_getK (j := 9) h_p rfl rfl rfl tgz_0 (by decide +kernel) ?_
    refine En_getI (j := 8) (l := 0) (u := 4) rfl rfl rfl hp (by decide +kernel) hσ0 (by decide +kernel) (fun z17 h16 h18 h19 => ?_)
    exact En_ret (v := some (Value.int z17)) rfl rfl rfl ⟨hσ0, hF0, z17, rfl, ⟨by first | exact q_565e7b05df h18 | omega, by first | exact q_d10cfc905e h19 | omega⟩⟩
  · refine En_swI (t := 99) (n := 5) rfl h1 rfl (by decide +kernel) ?_
    refine En_Ps 1 (pc' := 100) (lv' := [(0, .ref 0), (1, .int a)]) (st' := [.ref 0]) rfl ?_
    refine En_getK (j := 9) h_p rfl rfl rfl tgz_0 (by decide +kernel) ?_
    refine En_getI (j := 11) (l := 0) (u := 6) rfl rfl rfl hp (by decide +kernel) hσ0 (by decide +kernel) (fun z21 h20 h22 h23 => ?_)
    exact En_ret (v := some (Value.int z21)) rfl rfl rfl ⟨hσ0, hF0, z21, rfl, ⟨by first | exact q_565e7b05df h22 | omega, by first | exact q_088ee88ec2 h23 | omega⟩⟩
  · refine En_swI (t := 107) (n := 6) rfl h1 rfl (by decide +kernel) ?_
    refine En_Ps 1 (pc' := 108) (lv' := [(0, .ref 0), (1, .int a)]) (st' := [.ref 0]) rfl ?_
    refine En_getK (j := 9) h_p rfl rfl rfl tgz_0 (by decide +kernel) ?_
    refine En_getI (j := 14) (l := 0) (u := 60) rfl rfl rfl hp (by decide +kernel) hσ0 (by decide +kernel) (fun z25 h24 h26 h27 => ?_)
    exact En_ret (v := some (Value.int z25)) rfl rfl rfl ⟨hσ0, hF0, z25, rfl, ⟨by first | exact q_565e7b05df h26 | omega, by first | exact q_48bc463a5c h27 | omega⟩⟩
  · refine En_swI (t := 115) (n := 7) rfl h1 rfl (by decide +kernel) ?_
    refine En_Ps 1 (pc' := 116) (lv' := [(0, .ref 0), (1, .int a)]) (st' := [.ref 0]) rfl ?_
    refine En_getK (j := 9) h_p rfl rfl rfl tgz_0 (by decide +kernel) ?_
    refine En_getI (j := 0) (l := 0) (u := 1601) rfl rfl rfl hp (by decide +kernel) hσ0 (by decide +kernel) (fun z29 h28 h30 h31 => ?_)
    exact En_ret (v := some (Value.int z29)) rfl rfl rfl ⟨hσ0, hF0, z29, rfl, ⟨by first | exact q_565e7b05df h30 | omega, by first | exact q_04500c548f h31 | omega⟩⟩
  · refine En_swI (t := 123) (n := 8) rfl h1 rfl (by decide +kernel) ?_
    refine En_Ps 1 (pc' := 124) (lv' := [(0, .ref 0), (1, .int a)]) (st' := [.ref 0]) rfl ?_
    refine En_getU (j := 0) (u := 1) (g' := 1) (q := 0) rfl rfl rfl tgz_0 (by decide +kernel) hσ0 (by decide +kernel) un_1_1 (fun h32 => ?_)
    refine En_getI (j := 1) (l := 0) (u := 1600) rfl rfl rfl tgz_1 (by decide +kernel) hσ0 (by decide +kernel) (fun z35 h34 h36 h37 => ?_)
    exact En_ret (v := some (Value.int z35)) rfl rfl rfl ⟨hσ0, hF0, z35, rfl, ⟨by first | exact q_565e7b05df h36 | omega, by first | exact q_ee2013b4bb h37 | omega⟩⟩
  · refine En_swI (t := 131) (n := 9) rfl h1 rfl (by decide +kernel) ?_
    refine En_Ps 1 (pc' := 132) (lv' := [(0, .ref 0), (1, .int a)]) (st' := [.ref 0]) rfl ?_
    refine En_callV rfl rfl rfl rfl rfl rfl rfl rfl tgz_0 (by decide +kernel) rfl (c_128 σ0 hσ0 p hp h_p sg h_sg (by first | exact q_a555021d16 hp0 | omega)) (by decide) (by decide) (fun v39 σ40 h38 => ?_)
    obtain ⟨h41, h42, z44, rfl, h43⟩ := h38
    have h45 := Fr_trans hF0 h42 (by decide +kernel)
    exact En_ret (v := some (Value.int z44)) rfl rfl rfl ⟨h41, h45, z44, rfl, ⟨by first | exact q_dcc8f4d087 h43.1 | omega, by first | exact q_60feebed2c h43.2 | omega⟩⟩
  · refine En_swO (t := 136) rfl (by omega) rfl (by decide +kernel) ?_
    refine En_Ps 1 (pc' := 137) (lv' := [(0, .ref 0), (1, .int a)]) (st' := [.int ((Int32.ofInt (-1)))]) rfl ?_
    refine En_top (by decide : (Int32.ofInt (-1)).toInt = -1) (fun z46 h47 => ?_)
    exact En_ret (v := some (Value.int z46)) rfl rfl rfl ⟨hσ0, hF0, z46, rfl, ⟨by first | exact q_6ba54b61e9 h47 | omega, by first | exact q_699dfd9ce1 h47 | omega⟩⟩
  · refine En_swO (t := 136) rfl (by omega) rfl (by decide +kernel) ?_
    refine En_Ps 1 (pc' := 137) (lv' := [(0, .ref 0), (1, .int a)]) (st' := [.int ((Int32.ofInt (-1)))]) rfl ?_
    refine En_top (by decide : (Int32.ofInt (-1)).toInt = -1) (fun z48 h49 => ?_)
    exact En_ret (v := some (Value.int z48)) rfl rfl rfl ⟨hσ0, hF0, z48, rfl, ⟨by first | exact q_6ba54b61e9 h49 | omega, by first | exact q_699dfd9ce1 h49 | omega⟩⟩
/-- DoorSchool.isWay(I)Z -/
abbrev P_148 (σ0 : SG) (a : Int32) : PO := fun v σ => WT σ ∧ Fr [] σ0 σ ∧ ∃ ret : Int32, v = some (Value.int ret) ∧ -ret.toInt ≤ 0 ∧ ret.toInt - 1 ≤ 0 ∧ (ret.toInt - 1 ≤ 0 ∧ -ret.toInt + 1 ≤ 0 → -a.toInt ≤ 0 ∧ a.toInt - 2 ≤ 0) ∧ (-a.toInt ≤ 0 ∧ a.toInt - 2 ≤ 0 → ret.toInt - 1 ≤ 0 ∧ -ret.toInt + 1 ≤ 0)
set_option maxRecDepth 10000 in
set_option maxHeartbeats 4000000 in
theorem c_148 (σ0 : SG) (hσ0 : WT σ0) (a : Int32) : En 0 0 none mr_148 (P_148 σ0 a) 0 [(0, .int a)] [] σ0 := by
  have hF0 : Fr [] σ0 σ0 := Fr_rfl
  refine En_Ps 1 (pc' := 1) (lv' := [(0, .int a)]) (st' := [.int a]) rfl ?_
  refine En_iLt _ rfl rfl (fun h1 => ?_) (fun h1 => ?_)
  · refine En_Ps 1 (pc' := 14) (lv' := [(0, .int a)]) (st' := [.int ((Int32.ofInt 0))]) rfl ?_
    refine En_top (by decide : (Int32.ofInt 0).toInt = 0) (fun z2 h3 => ?_)
    exact En_ret (v := some (Value.int z2)) rfl rfl (retZ rfl rfl (by first | exact q_55451d0a83 h3 | omega) (by first | exact q_87849c3859 h3 | omega)) ⟨hσ0, hF0, z2, rfl, ⟨by first | exact q_097a37c2ae h3 | omega, by first | exact q_e269517bee h3 | omega, fun _ => by omega, fun _ => by omega⟩⟩
  · refine En_Ps 2 (pc' := 6) (lv' := [(0, .int a)]) (st' := [.int ((Int32.ofInt 3)), .int a]) rfl ?_
    refine En_icGe _ rfl (by decide : (Int32.ofInt 3).toInt = 3) rfl (fun h4 => ?_) (fun h4 => ?_)
    · refine En_Ps 1 (pc' := 14) (lv' := [(0, .int a)]) (st' := [.int ((Int32.ofInt 0))]) rfl ?_
      refine En_top (by decide : (Int32.ofInt 0).toInt = 0) (fun z5 h6 => ?_)
      exact En_ret (v := some (Value.int z5)) rfl rfl (retZ rfl rfl (by first | exact q_55451d0a83 h6 | omega) (by first | exact q_87849c3859 h6 | omega)) ⟨hσ0, hF0, z5, rfl, ⟨by first | exact q_097a37c2ae h6 | omega, by first | exact q_e269517bee h6 | omega, fun _ => by omega, fun _ => by omega⟩⟩
    · refine En_Ps 2 (pc' := 14) (lv' := [(0, .int a)]) (st' := [.int ((Int32.ofInt 1))]) rfl ?_
      refine En_top (by decide : (Int32.ofInt 1).toInt = 1) (fun z7 h8 => ?_)
      exact En_ret (v := some (Value.int z7)) rfl rfl (retZ rfl rfl (by first | exact q_2b07c97645 h8 | omega) (by first | exact q_d9e7cbb253 h8 | omega)) ⟨hσ0, hF0, z7, rfl, ⟨by first | exact q_ad3eee31ca h8 | omega, by first | exact q_81cf297dc4 h8 | omega, fun _ => by omega, fun _ => by omega⟩⟩
/-- DoorSchool.course(II)I -/
abbrev P_111 (σ0 : SG) (a : Int32) (b : Int32) (p : Nat) (sg : Int32) : PO := fun v σ => WT σ ∧ Fr [] σ0 σ ∧ ∃ ret : Int32, v = some (Value.int ret) ∧ ret.toInt - 65535 ≤ 0
set_option maxRecDepth 10000 in
set_option maxHeartbeats 4000000 in
theorem c_111 (σ0 : SG) (hσ0 : WT σ0) (a : Int32) (b : Int32) (p : Nat) (hp : TG p = 18) (h_p : (σ0 0)[9]? = some (Value.ref p)) (sg : Int32) (h_sg : (σ0 p)[1]? = some (Value.int sg)) (hp0 : -sg.toInt ≤ 0) : En 6 144 none mr_111 (P_111 σ0 a b p sg) 0 [(0, .ref 0), (1, .int a), (2, .int b)] [] σ0 := by
  obtain ⟨hl_sg, hu_sg⟩ := WT_int hσ0 (g := 18) hp (by decide +kernel) (l := (-1)) (u := 4) (by decide +kernel) h_sg
  have hF0 : Fr [] σ0 σ0 := Fr_rfl
  refine En_Ps 1 (pc' := 1) (lv' := [(0, .ref 0), (1, .int a), (2, .int b)]) (st' := [.int a]) rfl ?_
  refine En_callS rfl rfl rfl rfl rfl rfl rfl rfl rfl (c_148 σ0 hσ0 a) (by decide) (by decide) (fun v2 σ3 h1 => ?_)
  obtain ⟨h4, h5, z7, rfl, h6⟩ := h1
  have h8 := Fr_trans hF0 h5 (by decide +kernel)
  refine En_iEq _ rfl rfl (fun h9 => ?_) (fun h9 => ?_)
  · refine En_Ps 1 (pc' := 32) (lv' := [(0, .ref 0), (1, .int a), (2, .int b)]) (st' := [.int (((Int8.ofInt (-2)).toInt32))]) rfl ?_
    refine En_top (by decide : ((Int8.ofInt (-2)).toInt32).toInt = -2) (fun z10 h11 => ?_)
    exact En_ret (v := some (Value.int z10)) rfl rfl rfl ⟨h4, h8, z10, rfl, (by first | exact q_7aab8371ca h11 | omega)⟩
  · refine En_Ps 1 (pc' := 8) (lv' := [(0, .ref 0), (1, .int a), (2, .int b)]) (st' := [.ref 0]) rfl ?_
    refine En_getK (j := 9) ((h5 _ _ (inW tgz_0 (by decide +kernel))).trans h_p) rfl rfl rfl tgz_0 (by decide +kernel) ?_
    refine En_Ps 1 (pc' := 12) (lv' := [(0, .ref 0), (1, .int a), (2, .int b)]) (st' := [.int b, .ref p]) rfl ?_
    refine En_callV rfl rfl rfl rfl rfl rfl rfl rfl hp (by decide +kernel) rfl (c_46 σ3 h4 p hp b sg ((h5 _ _ (inW hp (by decide +kernel))).trans h_sg) (by first | exact q_a555021d16 hp0 | omega)) (by decide) (by decide) (fun v13 σ14 h12 => ?_)
    obtain ⟨h15, h16, z18, rfl, h17⟩ := h12
    have h19 := Fr_trans h8 h16 (by decide +kernel)
    refine En_iEq _ rfl rfl (fun h20 => ?_) (fun h20 => ?_)
    · refine En_Ps 1 (pc' := 32) (lv' := [(0, .ref 0), (1, .int a), (2, .int b)]) (st' := [.int (((Int8.ofInt (-2)).toInt32))]) rfl ?_
      refine En_top (by decide : ((Int8.ofInt (-2)).toInt32).toInt = -2) (fun z21 h22 => ?_)
      exact En_ret (v := some (Value.int z21)) rfl rfl rfl ⟨h15, h19, z21, rfl, (by first | exact q_7aab8371ca h22 | omega)⟩
    · refine En_Ps 1 (pc' := 19) (lv' := [(0, .ref 0), (1, .int a), (2, .int b)]) (st' := [.ref 0]) rfl ?_
      refine En_getU (j := 3) (u := 8) (g' := 8) (q := 0) rfl rfl rfl tgz_0 (by decide +kernel) h15 (by decide +kernel) un_8_8 (fun h23 => ?_)
      refine En_Ps 2 (pc' := 24) (lv' := [(0, .ref 0), (1, .int a), (2, .int b)]) (st' := [.int b, .int a, .ref 8]) rfl ?_
      refine En_callV rfl rfl rfl rfl rfl rfl rfl rfl tgz_8 (by decide +kernel) rfl (c_25 σ14 h15 a b) (by decide) (by decide) (fun v26 σ27 h25 => ?_)
      obtain ⟨h28, h29, z31, rfl, h30⟩ := h25
      have h32 := Fr_trans h19 h29 (by decide +kernel)
      refine En_Ps 1 (pc' := 32) (lv' := [(0, .ref 0), (1, .int a), (2, .int b)]) (st' := [.int z31]) rfl ?_
      exact En_ret (v := some (Value.int z31)) rfl rfl rfl ⟨h28, h32, z31, rfl, (by first | exact q_ef123ba13c h30 | omega)⟩
/-- DoorSchool.deeds(I)I -/
abbrev P_112 (σ0 : SG) (a : Int32) (p : Nat) (sg : Int32) : PO := fun v σ => WT σ ∧ Fr [] σ0 σ ∧ ∃ ret : Int32, v = some (Value.int ret) ∧ True
set_option maxRecDepth 10000 in
set_option maxHeartbeats 4000000 in
theorem c_112 (σ0 : SG) (hσ0 : WT σ0) (a : Int32) (p : Nat) (hp : TG p = 18) (h_p : (σ0 0)[9]? = some (Value.ref p)) (sg : Int32) (h_sg : (σ0 p)[1]? = some (Value.int sg)) (hp0 : -sg.toInt ≤ 0) : En 4 92 none mr_112 (P_112 σ0 a p sg) 0 [(0, .ref 0), (1, .int a)] [] σ0 := by
  obtain ⟨hl_sg, hu_sg⟩ := WT_int hσ0 (g := 18) hp (by decide +kernel) (l := (-1)) (u := 4) (by decide +kernel) h_sg
  have hF0 : Fr [] σ0 σ0 := Fr_rfl
  refine En_Ps 1 (pc' := 1) (lv' := [(0, .ref 0), (1, .int a)]) (st' := [.ref 0]) rfl ?_
  refine En_getK (j := 9) h_p rfl rfl rfl tgz_0 (by decide +kernel) ?_
  refine En_Ps 1 (pc' := 5) (lv' := [(0, .ref 0), (1, .int a)]) (st' := [.int a, .ref p]) rfl ?_
  refine En_callV rfl rfl rfl rfl rfl rfl rfl rfl hp (by decide +kernel) rfl (c_47 σ0 hσ0 p hp a) (by decide) (by decide) (fun v2 σ3 h1 => ?_)
  obtain ⟨h4, h5, z7, rfl, h6⟩ := h1
  have h8 := Fr_trans hF0 h5 (by decide +kernel)
  refine En_iEq _ rfl rfl (fun h9 => ?_) (fun h9 => ?_)
  · refine En_Ps 1 (pc' := 21) (lv' := [(0, .ref 0), (1, .int a)]) (st' := [.int (((Int8.ofInt (-2)).toInt32))]) rfl ?_
    refine En_top (by decide : ((Int8.ofInt (-2)).toInt32).toInt = -2) (fun z10 h11 => ?_)
    exact En_ret (v := some (Value.int z10)) rfl rfl rfl ⟨h4, h8, z10, rfl, trivial⟩
  · refine En_Ps 2 (pc' := 13) (lv' := [(0, .ref 0), (1, .int a)]) (st' := [.int a, .ref 0]) rfl ?_
    refine En_callV rfl rfl rfl rfl rfl rfl rfl rfl tgz_0 (by decide +kernel) rfl (c_114 σ3 h4 a (geI rfl (by omega)) (leI rfl (by omega)) p hp ((h5 _ _ (inW tgz_0 (by decide +kernel))).trans h_p) sg ((h5 _ _ (inW hp (by decide +kernel))).trans h_sg) (by first | exact q_a555021d16 hp0 | omega)) (by decide) (by decide) (fun v13 σ14 h12 => ?_)
    obtain ⟨h15, h16, z18, rfl, h17⟩ := h12
    have h19 := Fr_trans h8 h16 (by decide +kernel)
    refine En_Ps 1 (pc' := 21) (lv' := [(0, .ref 0), (1, .int a)]) (st' := [.int z18]) rfl ?_
    exact En_ret (v := some (Value.int z18)) rfl rfl rfl ⟨h15, h19, z18, rfl, trivial⟩
/-- DoorSchool.does(II)I -/
abbrev P_113 (σ0 : SG) (a : Int32) (b : Int32) (p : Nat) (sg : Int32) : PO := fun v σ => WT σ ∧ Fr [] σ0 σ ∧ ∃ ret : Int32, v = some (Value.int ret) ∧ -ret.toInt - 2 ≤ 0 ∧ ret.toInt - 65535 ≤ 0
set_option maxRecDepth 10000 in
set_option maxHeartbeats 4000000 in
theorem c_113 (σ0 : SG) (hσ0 : WT σ0) (a : Int32) (b : Int32) (p : Nat) (hp : TG p = 18) (h_p : (σ0 0)[9]? = some (Value.ref p)) (sg : Int32) (h_sg : (σ0 p)[1]? = some (Value.int sg)) (hp0 : -sg.toInt ≤ 0) : En 3 63 none mr_113 (P_113 σ0 a b p sg) 0 [(0, .ref 0), (1, .int a), (2, .int b)] [] σ0 := by
  obtain ⟨hl_sg, hu_sg⟩ := WT_int hσ0 (g := 18) hp (by decide +kernel) (l := (-1)) (u := 4) (by decide +kernel) h_sg
  have hF0 : Fr [] σ0 σ0 := Fr_rfl
  refine En_Ps 1 (pc' := 1) (lv' := [(0, .ref 0), (1, .int a), (2, .int b)]) (st' := [.ref 0]) rfl ?_
  refine En_getK (j := 9) h_p rfl rfl rfl tgz_0 (by decide +kernel) ?_
  refine En_Ps 2 (pc' := 6) (lv' := [(0, .ref 0), (1, .int a), (2, .int b)]) (st' := [.int b, .int a, .ref p]) rfl ?_
  refine En_callV rfl rfl rfl rfl rfl rfl rfl rfl hp (by decide +kernel) rfl (c_50 σ0 hσ0 p hp a b sg h_sg (by first | exact q_a555021d16 hp0 | omega)) (by decide) (by decide) (fun v2 σ3 h1 => ?_)
  obtain ⟨h4, h5, z7, rfl, h6⟩ := h1
  have h8 := Fr_trans hF0 h5 (by decide +kernel)
  refine En_iEq _ rfl rfl (fun h9 => ?_) (fun h9 => ?_)
  · refine En_Ps 1 (pc' := 26) (lv' := [(0, .ref 0), (1, .int a), (2, .int b)]) (st' := [.int (((Int8.ofInt (-2)).toInt32))]) rfl ?_
    refine En_top (by decide : ((Int8.ofInt (-2)).toInt32).toInt = -2) (fun z10 h11 => ?_)
    exact En_ret (v := some (Value.int z10)) rfl rfl rfl ⟨h4, h8, z10, rfl, ⟨by first | exact q_f35c5d346c h11 | omega, by first | exact q_7aab8371ca h11 | omega⟩⟩
  · refine En_Ps 1 (pc' := 13) (lv' := [(0, .ref 0), (1, .int a), (2, .int b)]) (st' := [.ref 0]) rfl ?_
    refine En_getU (j := 2) (u := 4) (g' := 4) (q := 0) rfl rfl rfl tgz_0 (by decide +kernel) h4 (by decide +kernel) un_4_4 (fun h12 => ?_)
    refine En_Ps 2 (pc' := 18) (lv' := [(0, .ref 0), (1, .int a), (2, .int b)]) (st' := [.int b, .int a, .ref 4]) rfl ?_
    refine En_callV rfl rfl rfl rfl rfl rfl rfl rfl tgz_4 (by decide +kernel) rfl (c_77 σ3 h4 a b) (by decide) (by decide) (fun v15 σ16 h14 => ?_)
    obtain ⟨h17, h18, z20, rfl, h19⟩ := h14
    have h21 := Fr_trans h8 h18 (by decide +kernel)
    refine En_Ps 1 (pc' := 26) (lv' := [(0, .ref 0), (1, .int a), (2, .int b)]) (st' := [.int z20]) rfl ?_
    exact En_ret (v := some (Value.int z20)) rfl rfl rfl ⟨h17, h21, z20, rfl, ⟨by first | exact q_70a249c7f8 h19.1 | omega, by first | exact q_ef123ba13c h19.2 | omega⟩⟩
/-- DoorSchool.doneInStorm(II)I -/
abbrev P_115 (σ0 : SG) (a : Int32) (b : Int32) (p : Nat) (sg : Int32) : PO := fun v σ => WT σ ∧ Fr [] σ0 σ ∧ ∃ ret : Int32, v = some (Value.int ret) ∧ True
set_option maxRecDepth 10000 in
set_option maxHeartbeats 4000000 in
theorem c_115 (σ0 : SG) (hσ0 : WT σ0) (a : Int32) (b : Int32) (hl_a : 0 ≤ a.toInt) (hu_a : a.toInt ≤ 2147483647) (hl_b : 0 ≤ b.toInt) (hu_b : b.toInt ≤ 3) (p : Nat) (hp : TG p = 18) (h_p : (σ0 0)[9]? = some (Value.ref p)) (sg : Int32) (h_sg : (σ0 p)[1]? = some (Value.int sg)) (hp0 : -sg.toInt ≤ 0) : En 4 92 none mr_115 (P_115 σ0 a b p sg) 0 [(0, .ref 0), (1, .int a), (2, .int b)] [] σ0 := by
  obtain ⟨hl_sg, hu_sg⟩ := WT_int hσ0 (g := 18) hp (by decide +kernel) (l := (-1)) (u := 4) (by decide +kernel) h_sg
  have hF0 : Fr [] σ0 σ0 := Fr_rfl
  refine En_Ps 5 (pc' := 5) (lv' := [(3, .long a.toInt64), (0, .ref 0), (1, .int a), (2, .int b)]) (st' := [.int b, .ref 0]) rfl ?_
  refine En_callV rfl rfl rfl rfl rfl rfl rfl rfl tgz_0 (by decide +kernel) rfl (c_114 σ0 hσ0 b (geI rfl (by first | exact q_58e6e51dcc hl_b | omega)) (leI rfl (by first | exact q_da5e9b976f hu_b | omega)) p hp h_p sg h_sg (by first | exact q_a555021d16 hp0 | omega)) (by decide) (by decide) (fun v2 σ3 h1 => ?_)
  obtain ⟨h4, h5, z7, rfl, h6⟩ := h1
  have h8 := Fr_trans hF0 h5 (by decide +kernel)
  refine En_Ps 3 (pc' := 13) (lv' := [(6, .int ((Int32.ofInt 0))), (5, .int z7), (3, .long a.toInt64), (0, .ref 0), (1, .int a), (2, .int b)]) (st' := []) rfl ?_
  have key13 : ∀ (n13 : Nat) (σ12 : SG) (y9 : Int64) (y10 : Int32) (y11 : Int32), WT σ12 → Fr [] σ0 σ12 → (σ12 0)[9]? = some (Value.ref p) → (σ12 p)[1]? = some (Value.int sg) → 0 ≤ y9.toInt → y9.toInt ≤ 2147483647 → 0 ≤ y11.toInt → y11.toInt ≤ 16 → -y11.toInt + 16 < (n13 : Int) → En 4 92 none mr_115 (P_115 σ0 a b p sg) 13 [(0, .ref 0), (1, .int a), (2, .int b), (3, .long y9), (5, .int y10), (6, .int y11)] [] σ12 := by
    intro n13
    induction n13 with
    | zero =>
      intro σ12 y9 y10 y11 h13 h14 h15 h16 h17 h18 h19 h20 h21
      first | exact (q_511f6d33ac h21 h20).elim | (exfalso; omega)
    | succ n13 ih13 =>
      intro σ12 y9 y10 y11 h13 h14 h15 h16 h17 h18 h19 h20 h21
      refine En_Ps 2 (pc' := 16) (lv' := [(0, .ref 0), (1, .int a), (2, .int b), (3, .long y9), (5, .int y10), (6, .int y11)]) (st' := [.ref 0, .int y11]) rfl ?_
      refine En_getK (j := 9) h15 rfl rfl rfl tgz_0 (by decide +kernel) ?_
      refine En_callV rfl rfl rfl rfl rfl rfl rfl rfl hp (by decide +kernel) rfl (c_51 σ12 h13 p hp sg h16 (by first | exact q_a555021d16 hp0 | omega)) (by decide) (by decide) (fun v23 σ24 h22 => ?_)
      obtain ⟨h25, h26, z28, rfl, h27⟩ := h22
      have h29 := Fr_trans h14 h26 (by decide +kernel)
      refine En_icGe _ rfl rfl rfl (fun h30 => ?_) (fun h30 => ?_)
      · refine En_Ps 1 (pc' := 82) (lv' := [(0, .ref 0), (1, .int a), (2, .int b), (3, .long y9), (5, .int y10), (6, .int y11)]) (st' := [.int y10]) rfl ?_
        exact En_ret (v := some (Value.int y10)) rfl rfl rfl ⟨h25, h29, y10, rfl, trivial⟩
      · refine En_Ps 3 (pc' := 30) (lv' := [(0, .ref 0), (1, .int a), (2, .int b), (3, .long y9), (5, .int y10), (6, .int y11)]) (st' := [.long ((((1103515245 : Int64)) * y9))]) rfl ?_
        refine En_topL (mulL (by decide : (1103515245 : Int64).toInt = 1103515245) rfl (Z := 1103515245 * y9.toInt) (by first | exact q_3838339b47 | omega) (by omega) (by omega)) (fun z31 h32 => ?_)
        refine En_Ps 2 (pc' := 34) (lv' := [(0, .ref 0), (1, .int a), (2, .int b), (3, .long y9), (5, .int y10), (6, .int y11)]) (st' := [.long ((z31 + ((12345 : Int64))))]) rfl ?_
        refine En_topL (addL rfl (by decide : (12345 : Int64).toInt = 12345) (by omega) (by omega)) (fun z33 h34 => ?_)
        refine En_Ps 1 (pc' := 37) (lv' := [(0, .ref 0), (1, .int a), (2, .int b), (3, .long y9), (5, .int y10), (6, .int y11)]) (st' := [.long ((2147483648 : Int64)), .long z33]) rfl ?_
        refine En_lrem (c := 2147483648) rfl rfl (by decide : (2147483648 : Int64).toInt = 2147483648) (by omega) (by decide) (fun z35 h36 => ?_)
        refine En_Ps 3 (pc' := 43) (lv' := [(3, .long z35), (0, .ref 0), (1, .int a), (2, .int b), (5, .int y10), (6, .int y11)]) (st' := [.long ((65536 : Int64)), .long z35]) rfl ?_
        refine En_ldiv (c := 65536) rfl rfl (by decide : (65536 : Int64).toInt = 65536) (by omega) (by decide) (fun z37 h38 => ?_)
        refine En_Ps 1 (pc' := 47) (lv' := [(3, .long z35), (0, .ref 0), (1, .int a), (2, .int b), (5, .int y10), (6, .int y11)]) (st' := [.long ((100 : Int64)), .long z37]) rfl ?_
        refine En_lrem (c := 100) rfl rfl (by decide : (100 : Int64).toInt = 100) (by omega) (by decide) (fun z39 h40 => ?_)
        refine En_Ps 1 (pc' := 49) (lv' := [(3, .long z35), (0, .ref 0), (1, .int a), (2, .int b), (5, .int y10), (6, .int y11)]) (st' := [.ref 0, .long z39]) rfl ?_
        refine En_getK (j := 9) ((h26 _ _ (inW tgz_0 (by decide +kernel))).trans h15) rfl rfl rfl tgz_0 (by decide +kernel) ?_
        refine En_getR (j := 4) (g' := 19) (u := 0) rfl rfl rfl hp (by decide +kernel) h25 (by decide +kernel) (fun a42 h41 ha42 => ?_)
        refine En_Ps 1 (pc' := 56) (lv' := [(3, .long z35), (0, .ref 0), (1, .int a), (2, .int b), (5, .int y10), (6, .int y11)]) (st' := [.int b, .ref a42, .long z39]) rfl ?_
        refine En_aald (g' := 28) (u := 0) rfl rfl ha42 (by decide +kernel) h25 (by first | exact q_58e6e51dcc hl_b | omega) (lnI (by decide +kernel : LN _ = 4) (by first | exact q_f3bb6f88f7 hu_b | omega)) (FTsgl (by decide +kernel)) (fun a44 h43 ha44 => ?_)
        refine En_getI (j := 2) (l := 0) (u := 50) rfl rfl rfl ha44 (by decide +kernel) h25 (by decide +kernel) (fun z46 h45 h47 h48 => ?_)
        refine En_Ps 2 (pc' := 62) (lv' := [(3, .long z35), (0, .ref 0), (1, .int a), (2, .int b), (5, .int y10), (6, .int y11)]) (st' := [.int (lg_cmp z39 z46.toInt64)]) rfl ?_
        refine En_lgGe _ rfl (i2lI rfl) rfl (fun h49 => ?_) (fun h49 => ?_)
        · refine En_Ps 1 (pc' := 77) (lv' := [(6, .int ((y11 + Int32.ofInt 1))), (3, .long z35), (0, .ref 0), (1, .int a), (2, .int b), (5, .int y10)]) (st' := []) rfl ?_
          refine En_lv1 (addI rfl (by decide : (Int32.ofInt 1).toInt = 1) (by first | exact q_465ab79ac1 h19 | omega) (by first | exact q_f3f8e04381 h20 | omega)) (fun z50 h51 => ?_)
          refine En_Ps 1 (pc' := 13) (lv' := [(6, .int z50), (3, .long z35), (0, .ref 0), (1, .int a), (2, .int b), (5, .int y10)]) (st' := []) rfl ?_
          refine En_lv (lv := [(0, .ref 0), (1, .int a), (2, .int b), (3, .long z35), (5, .int y10), (6, .int z50)]) ⟨rfl, rfl, rfl, rfl, rfl, rfl, trivial⟩ ?_
          exact ih13 σ24 z35 y10 z50 h25 h29 ((h26 _ _ (inW tgz_0 (by decide +kernel))).trans h15) ((h26 _ _ (inW hp (by decide +kernel))).trans h16) (by first | exact q_00a0d70a93 h36 | omega) (by first | exact q_2e44a78811 h36 | omega) (by first | exact q_35104ce9d3 h51 h19 | omega) (by first | exact q_34dc714687 h51 h30 h27.2 | omega) (by first | exact q_c5d740bdff h51 h21 | omega)
        · refine En_Ps 4 (pc' := 71) (lv' := [(3, .long z35), (0, .ref 0), (1, .int a), (2, .int b), (5, .int y10), (6, .int y11)]) (st' := [.int ((((Int32.ofInt 1)) <<< (y11 &&& 31))), .int y10]) rfl ?_
          refine En_rng (shl1_p 15 rfl (by omega) (by omega) (by decide)) (fun z52 h53 h54 => ?_)
          refine En_Ps 1 (pc' := 72) (lv' := [(3, .long z35), (0, .ref 0), (1, .int a), (2, .int b), (5, .int y10), (6, .int y11)]) (st' := [.int ((y10 ^^^ z52))]) rfl ?_
          refine En_hav (fun z55 => ?_)
          refine En_Ps 2 (pc' := 77) (lv' := [(6, .int ((y11 + Int32.ofInt 1))), (5, .int z55), (3, .long z35), (0, .ref 0), (1, .int a), (2, .int b)]) (st' := []) rfl ?_
          refine En_lv1 (addI rfl (by decide : (Int32.ofInt 1).toInt = 1) (by first | exact q_465ab79ac1 h19 | omega) (by first | exact q_f3f8e04381 h20 | omega)) (fun z56 h57 => ?_)
          refine En_Ps 1 (pc' := 13) (lv' := [(6, .int z56), (5, .int z55), (3, .long z35), (0, .ref 0), (1, .int a), (2, .int b)]) (st' := []) rfl ?_
          refine En_lv (lv := [(0, .ref 0), (1, .int a), (2, .int b), (3, .long z35), (5, .int z55), (6, .int z56)]) ⟨rfl, rfl, rfl, rfl, rfl, rfl, trivial⟩ ?_
          exact ih13 σ24 z35 z55 z56 h25 h29 ((h26 _ _ (inW tgz_0 (by decide +kernel))).trans h15) ((h26 _ _ (inW hp (by decide +kernel))).trans h16) (by first | exact q_00a0d70a93 h36 | omega) (by first | exact q_2e44a78811 h36 | omega) (by first | exact q_35104ce9d3 h57 h19 | omega) (by first | exact q_34dc714687 h57 h30 h27.2 | omega) (by first | exact q_c5d740bdff h57 h21 | omega)
  have : a.toInt64.toInt = a.toInt := (i2lI rfl)
  have := (by decide : (Int32.ofInt 0).toInt = 0)
  refine En_lv (lv := [(0, .ref 0), (1, .int a), (2, .int b), (3, .long a.toInt64), (5, .int z7), (6, .int ((Int32.ofInt 0)))]) ⟨rfl, rfl, rfl, rfl, rfl, rfl, trivial⟩ ?_
  exact key13 (Int.toNat (16) + 1) σ3 a.toInt64 z7 ((Int32.ofInt 0)) h4 h8 ((h5 _ _ (inW tgz_0 (by decide +kernel))).trans h_p) ((h5 _ _ (inW hp (by decide +kernel))).trans h_sg) (by omega) (by omega) (by decide) (by decide) (by first | exact toN_lt _ | omega)
end
/-! 32.lx.c10 -/
section
/-- DoorSchool.door(II)I -/
abbrev P_116 (σ0 : SG) (a : Int32) (b : Int32) (p : Nat) (sg : Int32) : PO := fun v σ => WT σ ∧ Fr [] σ0 σ ∧ ∃ ret : Int32, v = some (Value.int ret) ∧ -ret.toInt - 2 ≤ 0 ∧ ret.toInt - 50 ≤ 0
set_option maxRecDepth 10000 in
set_option maxHeartbeats 4000000 in
theorem c_116 (σ0 : SG) (hσ0 : WT σ0) (a : Int32) (b : Int32) (p : Nat) (hp : TG p = 18) (h_p : (σ0 0)[9]? = some (Value.ref p)) (sg : Int32) (h_sg : (σ0 p)[1]? = some (Value.int sg)) (hp0 : -sg.toInt ≤ 0) : En 1 21 none mr_116 (P_116 σ0 a b p sg) 0 [(0, .ref 0), (1, .int a), (2, .int b)] [] σ0 := by
  obtain ⟨hl_sg, hu_sg⟩ := WT_int hσ0 (g := 18) hp (by decide +kernel) (l := (-1)) (u := 4) (by decide +kernel) h_sg
  have hF0 : Fr [] σ0 σ0 := Fr_rfl
  refine En_Ps 1 (pc' := 1) (lv' := [(0, .ref 0), (1, .int a), (2, .int b)]) (st' := [.ref 0]) rfl ?_
  refine En_getK (j := 9) h_p rfl rfl rfl tgz_0 (by decide +kernel) ?_
  refine En_Ps 1 (pc' := 5) (lv' := [(0, .ref 0), (1, .int a), (2, .int b)]) (st' := [.int a, .ref p]) rfl ?_
  refine En_callV rfl rfl rfl rfl rfl rfl rfl rfl hp (by decide +kernel) rfl (c_47 σ0 hσ0 p hp a) (by decide) (by decide) (fun v2 σ3 h1 => ?_)
  obtain ⟨h4, h5, z7, rfl, h6⟩ := h1
  have h8 := Fr_trans hF0 h5 (by decide +kernel)
  refine En_iNe _ rfl rfl (fun h9 => ?_) (fun h9 => ?_)
  · refine En_Ps 1 (pc' := 15) (lv' := [(0, .ref 0), (1, .int a), (2, .int b)]) (st' := [.ref 0]) rfl ?_
    refine En_getK (j := 9) ((h5 _ _ (inW tgz_0 (by decide +kernel))).trans h_p) rfl rfl rfl tgz_0 (by decide +kernel) ?_
    refine En_getR (j := 4) (g' := 19) (u := 0) rfl rfl rfl hp (by decide +kernel) h4 (by decide +kernel) (fun a11 h10 ha11 => ?_)
    refine En_Ps 1 (pc' := 22) (lv' := [(0, .ref 0), (1, .int a), (2, .int b)]) (st' := [.int a, .ref a11]) rfl ?_
    refine En_aald (g' := 28) (u := 0) rfl rfl ha11 (by decide +kernel) h4 (by omega) (lnI (by decide +kernel : LN _ = 4) (by omega)) (FTsgl (by decide +kernel)) (fun a13 h12 ha13 => ?_)
    refine En_Ps 2 (pc' := 25) (lv' := [(3, .ref a13), (0, .ref 0), (1, .int a), (2, .int b)]) (st' := [.int b]) rfl ?_
    rcases (show b.toInt = 0 ∨ b.toInt = 1 ∨ b.toInt = 2 ∨ b.toInt = 3 ∨ b.toInt < 0 ∨ 3 < b.toInt by omega) with h14 | h14 | h14 | h14 | h14 | h14
    · refine En_swI (t := 56) (n := 0) rfl h14 rfl (by decide +kernel) ?_
      refine En_Ps 1 (pc' := 57) (lv' := [(3, .ref a13), (0, .ref 0), (1, .int a), (2, .int b)]) (st' := [.ref a13]) rfl ?_
      refine En_getI (j := 1) (l := 0) (u := 2) rfl rfl rfl ha13 (by decide +kernel) h4 (by decide +kernel) (fun z16 h15 h17 h18 => ?_)
      exact En_ret (v := some (Value.int z16)) rfl rfl rfl ⟨h4, h8, z16, rfl, ⟨by first | exact q_ea7f0ffdb1 h17 | omega, by first | exact q_ab791a917f h18 | omega⟩⟩
    · refine En_swI (t := 61) (n := 1) rfl h14 rfl (by decide +kernel) ?_
      refine En_Ps 1 (pc' := 62) (lv' := [(3, .ref a13), (0, .ref 0), (1, .int a), (2, .int b)]) (st' := [.ref a13]) rfl ?_
      refine En_getI (j := 2) (l := 0) (u := 50) rfl rfl rfl ha13 (by decide +kernel) h4 (by decide +kernel) (fun z20 h19 h21 h22 => ?_)
      exact En_ret (v := some (Value.int z20)) rfl rfl rfl ⟨h4, h8, z20, rfl, ⟨by first | exact q_ea7f0ffdb1 h21 | omega, by first | exact q_1608b91b28 h22 | omega⟩⟩
    · refine En_swI (t := 66) (n := 2) rfl h14 rfl (by decide +kernel) ?_
      refine En_Ps 1 (pc' := 67) (lv' := [(3, .ref a13), (0, .ref 0), (1, .int a), (2, .int b)]) (st' := [.ref a13]) rfl ?_
      refine En_getR (j := 0) (g' := 20) (u := 0) rfl rfl rfl ha13 (by decide +kernel) h4 (by decide +kernel) (fun a24 h23 ha24 => ?_)
      refine En_getI (j := 2) (l := 0) (u := 13) rfl rfl rfl ha24 (by decide +kernel) h4 (by decide +kernel) (fun z26 h25 h27 h28 => ?_)
      exact En_ret (v := some (Value.int z26)) rfl rfl rfl ⟨h4, h8, z26, rfl, ⟨by first | exact q_ea7f0ffdb1 h27 | omega, by first | exact q_40e7a490d5 h28 | omega⟩⟩
    · refine En_swI (t := 74) (n := 3) rfl h14 rfl (by decide +kernel) ?_
      refine En_Ps 1 (pc' := 75) (lv' := [(3, .ref a13), (0, .ref 0), (1, .int a), (2, .int b)]) (st' := [.ref a13]) rfl ?_
      refine En_getI (j := 3) (l := (-1)) (u := 3) rfl rfl rfl ha13 (by decide +kernel) h4 (by decide +kernel) (fun z30 h29 h31 h32 => ?_)
      exact En_ret (v := some (Value.int z30)) rfl rfl rfl ⟨h4, h8, z30, rfl, ⟨by first | exact q_fe58cd40d0 h31 | omega, by first | exact q_dc79e997ce h32 | omega⟩⟩
    · refine En_swO (t := 79) rfl (by omega) rfl (by decide +kernel) ?_
      refine En_Ps 1 (pc' := 81) (lv' := [(3, .ref a13), (0, .ref 0), (1, .int a), (2, .int b)]) (st' := [.int (((Int8.ofInt (-2)).toInt32))]) rfl ?_
      refine En_top (by decide : ((Int8.ofInt (-2)).toInt32).toInt = -2) (fun z33 h34 => ?_)
      exact En_ret (v := some (Value.int z33)) rfl rfl rfl ⟨h4, h8, z33, rfl, ⟨by first | exact q_f35c5d346c h34 | omega, by first | exact q_307520f238 h34 | omega⟩⟩
    · refine En_swO (t := 79) rfl (by omega) rfl (by decide +kernel) ?_
      refine En_Ps 1 (pc' := 81) (lv' := [(3, .ref a13), (0, .ref 0), (1, .int a), (2, .int b)]) (st' := [.int (((Int8.ofInt (-2)).toInt32))]) rfl ?_
      refine En_top (by decide : ((Int8.ofInt (-2)).toInt32).toInt = -2) (fun z35 h36 => ?_)
      exact En_ret (v := some (Value.int z35)) rfl rfl rfl ⟨h4, h8, z35, rfl, ⟨by first | exact q_f35c5d346c h36 | omega, by first | exact q_307520f238 h36 | omega⟩⟩
  · refine En_Ps 1 (pc' := 13) (lv' := [(0, .ref 0), (1, .int a), (2, .int b)]) (st' := [.int (((Int8.ofInt (-2)).toInt32))]) rfl ?_
    refine En_top (by decide : ((Int8.ofInt (-2)).toInt32).toInt = -2) (fun z37 h38 => ?_)
    exact En_ret (v := some (Value.int z37)) rfl rfl rfl ⟨h4, h8, z37, rfl, ⟨by first | exact q_f35c5d346c h38 | omega, by first | exact q_307520f238 h38 | omega⟩⟩
/-- DoorSchool.easiest(I)I -/
abbrev P_117 (σ0 : SG) (a : Int32) (p : Nat) (sg : Int32) : PO := fun v σ => WT σ ∧ Fr [] σ0 σ ∧ ∃ ret : Int32, v = some (Value.int ret) ∧ -ret.toInt - 2 ≤ 0 ∧ ret.toInt - 2 ≤ 0
set_option maxRecDepth 10000 in
set_option maxHeartbeats 4000000 in
theorem c_117 (σ0 : SG) (hσ0 : WT σ0) (a : Int32) (p : Nat) (hp : TG p = 18) (h_p : (σ0 0)[9]? = some (Value.ref p)) (sg : Int32) (h_sg : (σ0 p)[1]? = some (Value.int sg)) (hp0 : -sg.toInt ≤ 0) : En 6 144 none mr_117 (P_117 σ0 a p sg) 0 [(0, .ref 0), (1, .int a)] [] σ0 := by
  obtain ⟨hl_sg, hu_sg⟩ := WT_int hσ0 (g := 18) hp (by decide +kernel) (l := (-1)) (u := 4) (by decide +kernel) h_sg
  have hF0 : Fr [] σ0 σ0 := Fr_rfl
  refine En_Ps 1 (pc' := 1) (lv' := [(0, .ref 0), (1, .int a)]) (st' := [.ref 0]) rfl ?_
  refine En_getK (j := 9) h_p rfl rfl rfl tgz_0 (by decide +kernel) ?_
  refine En_Ps 1 (pc' := 5) (lv' := [(0, .ref 0), (1, .int a)]) (st' := [.int a, .ref p]) rfl ?_
  refine En_callV rfl rfl rfl rfl rfl rfl rfl rfl hp (by decide +kernel) rfl (c_46 σ0 hσ0 p hp a sg h_sg (by first | exact q_a555021d16 hp0 | omega)) (by decide) (by decide) (fun v2 σ3 h1 => ?_)
  obtain ⟨h4, h5, z7, rfl, h6⟩ := h1
  have h8 := Fr_trans hF0 h5 (by decide +kernel)
  refine En_iNe _ rfl rfl (fun h9 => ?_) (fun h9 => ?_)
  · refine En_Ps 6 (pc' := 22) (lv' := [(4, .int ((Int32.ofInt 0))), (3, .int (((Int8.ofInt 17).toInt32))), (2, .int ((Int32.ofInt (-1)))), (0, .ref 0), (1, .int a)]) (st' := []) rfl ?_
    have key22 : ∀ (n22 : Nat) (σ13 : SG) (y10 : Int32) (y11 : Int32) (y12 : Int32), WT σ13 → Fr [] σ0 σ13 → (σ13 0)[9]? = some (Value.ref p) → (σ13 p)[1]? = some (Value.int sg) → (-1) ≤ y10.toInt → y10.toInt ≤ 2 → 0 ≤ y11.toInt → y11.toInt ≤ 63 → 0 ≤ y12.toInt → y12.toInt ≤ 3 → y10.toInt - y12.toInt + 1 ≤ 0 → -y12.toInt + 3 < (n22 : Int) → En 6 144 none mr_117 (P_117 σ0 a p sg) 22 [(0, .ref 0), (1, .int a), (2, .int y10), (3, .int y11), (4, .int y12)] [] σ13 := by
      intro n22
      induction n22 with
      | zero =>
        intro σ13 y10 y11 y12 h14 h15 h16 h17 h18 h19 h20 h21 h22 h23 h24 h25
        first | exact (q_9f1e7068c9 h25 h23).elim | (exfalso; omega)
      | succ n22 ih22 =>
        intro σ13 y10 y11 y12 h14 h15 h16 h17 h18 h19 h20 h21 h22 h23 h24 h25
        refine En_Ps 2 (pc' := 25) (lv' := [(0, .ref 0), (1, .int a), (2, .int y10), (3, .int y11), (4, .int y12)]) (st' := [.int ((Int32.ofInt 3)), .int y12]) rfl ?_
        refine En_icGe _ rfl (by decide : (Int32.ofInt 3).toInt = 3) rfl (fun h26 => ?_) (fun h26 => ?_)
        · refine En_Ps 1 (pc' := 71) (lv' := [(0, .ref 0), (1, .int a), (2, .int y10), (3, .int y11), (4, .int y12)]) (st' := [.int y10]) rfl ?_
          exact En_ret (v := some (Value.int y10)) rfl rfl rfl ⟨h14, h15, y10, rfl, ⟨by first | exact q_fe58cd40d0 h18 | omega, by first | exact q_316dab1512 h19 | omega⟩⟩
        · refine En_Ps 1 (pc' := 29) (lv' := [(0, .ref 0), (1, .int a), (2, .int y10), (3, .int y11), (4, .int y12)]) (st' := [.ref 0]) rfl ?_
          refine En_getU (j := 3) (u := 8) (g' := 8) (q := 0) rfl rfl rfl tgz_0 (by decide +kernel) h14 (by decide +kernel) un_8_8 (fun h27 => ?_)
          refine En_Ps 2 (pc' := 35) (lv' := [(0, .ref 0), (1, .int a), (2, .int y10), (3, .int y11), (4, .int y12)]) (st' := [.int a, .int y12, .ref 8]) rfl ?_
          refine En_callV rfl rfl rfl rfl rfl rfl rfl rfl tgz_8 (by decide +kernel) rfl (c_25 σ13 h14 y12 a) (by decide) (by decide) (fun v30 σ31 h29 => ?_)
          obtain ⟨h32, h33, z35, rfl, h34⟩ := h29
          have h36 := Fr_trans h15 h33 (by decide +kernel)
          refine En_Ps 3 (pc' := 43) (lv' := [(5, .int z35), (0, .ref 0), (1, .int a), (2, .int y10), (3, .int y11), (4, .int y12)]) (st' := [.int ((Int32.ofInt (-1))), .int z35]) rfl ?_
          refine En_icEq _ rfl (by decide : (Int32.ofInt (-1)).toInt = -1) rfl (fun h37 => ?_) (fun h37 => ?_)
          · refine En_Ps 1 (pc' := 67) (lv' := [(4, .int ((y12 + Int32.ofInt 1))), (5, .int z35), (0, .ref 0), (1, .int a), (2, .int y10), (3, .int y11)]) (st' := []) rfl ?_
            refine En_lv1 (addI rfl (by decide : (Int32.ofInt 1).toInt = 1) (by first | exact q_465ab79ac1 h22 | omega) (by first | exact q_6ae830b01d h26 | omega)) (fun z38 h39 => ?_)
            refine En_Ps 1 (pc' := 22) (lv' := [(4, .int z38), (5, .int z35), (0, .ref 0), (1, .int a), (2, .int y10), (3, .int y11)]) (st' := []) rfl ?_
            refine En_lv (lv := [(0, .ref 0), (1, .int a), (2, .int y10), (3, .int y11), (4, .int z38)]) ⟨rfl, rfl, rfl, rfl, rfl, trivial⟩ ?_
            exact ih22 σ31 y10 y11 z38 h32 h36 ((h33 _ _ (inW tgz_0 (by decide +kernel))).trans h16) ((h33 _ _ (inW hp (by decide +kernel))).trans h17) (by first | exact q_77b189e83d h18 | omega) (by first | exact q_a85463bd0d h19 | omega) (by first | exact q_58e6e51dcc h20 | omega) (by first | exact q_8bf848900a h21 | omega) (by first | exact q_35104ce9d3 h39 h22 | omega) (by first | exact q_84805d5d8e h39 h26 | omega) (by first | exact q_6591527e3e h24 h39 | omega) (by first | exact q_6272716eb4 h39 h25 | omega)
          · refine En_Ps 1 (pc' := 48) (lv' := [(5, .int z35), (0, .ref 0), (1, .int a), (2, .int y10), (3, .int y11), (4, .int y12)]) (st' := [.int z35]) rfl ?_
            refine En_callS rfl rfl rfl rfl rfl rfl rfl rfl rfl (c_7 σ31 h32 z35) (by decide) (by decide) (fun v41 σ42 h40 => ?_)
            obtain ⟨h43, h44, z46, rfl, h45⟩ := h40
            have h47 := Fr_trans h36 h44 (by decide +kernel)
            refine En_Ps 1 (pc' := 52) (lv' := [(5, .int z35), (0, .ref 0), (1, .int a), (2, .int y10), (3, .int y11), (4, .int y12)]) (st' := [.int y11, .int z46]) rfl ?_
            refine En_icGe _ rfl rfl rfl (fun h48 => ?_) (fun h48 => ?_)
            · refine En_Ps 1 (pc' := 67) (lv' := [(4, .int ((y12 + Int32.ofInt 1))), (5, .int z35), (0, .ref 0), (1, .int a), (2, .int y10), (3, .int y11)]) (st' := []) rfl ?_
              refine En_lv1 (addI rfl (by decide : (Int32.ofInt 1).toInt = 1) (by first | exact q_465ab79ac1 h22 | omega) (by first | exact q_6ae830b01d h26 | omega)) (fun z49 h50 => ?_)
              refine En_Ps 1 (pc' := 22) (lv' := [(4, .int z49), (5, .int z35), (0, .ref 0), (1, .int a), (2, .int y10), (3, .int y11)]) (st' := []) rfl ?_
              refine En_lv (lv := [(0, .ref 0), (1, .int a), (2, .int y10), (3, .int y11), (4, .int z49)]) ⟨rfl, rfl, rfl, rfl, rfl, trivial⟩ ?_
              exact ih22 σ42 y10 y11 z49 h43 h47 ((h44 _ _ (inW tgz_0 (by decide +kernel))).trans ((h33 _ _ (inW tgz_0 (by decide +kernel))).trans h16)) ((h44 _ _ (inW hp (by decide +kernel))).trans ((h33 _ _ (inW hp (by decide +kernel))).trans h17)) (by first | exact q_77b189e83d h18 | omega) (by first | exact q_a85463bd0d h19 | omega) (by first | exact q_58e6e51dcc h20 | omega) (by first | exact q_8bf848900a h21 | omega) (by first | exact q_35104ce9d3 h50 h22 | omega) (by first | exact q_84805d5d8e h50 h26 | omega) (by first | exact q_6591527e3e h24 h50 | omega) (by first | exact q_6272716eb4 h50 h25 | omega)
            · refine En_Ps 1 (pc' := 57) (lv' := [(5, .int z35), (0, .ref 0), (1, .int a), (2, .int y10), (3, .int y11), (4, .int y12)]) (st' := [.int z35]) rfl ?_
              refine En_callS rfl rfl rfl rfl rfl rfl rfl rfl rfl (c_7 σ42 h43 z35) (by decide) (by decide) (fun v52 σ53 h51 => ?_)
              obtain ⟨h54, h55, z57, rfl, h56⟩ := h51
              have h58 := Fr_trans h47 h55 (by decide +kernel)
              refine En_Ps 4 (pc' := 67) (lv' := [(4, .int ((y12 + Int32.ofInt 1))), (2, .int y12), (3, .int z57), (5, .int z35), (0, .ref 0), (1, .int a)]) (st' := []) rfl ?_
              refine En_lv1 (addI rfl (by decide : (Int32.ofInt 1).toInt = 1) (by first | exact q_465ab79ac1 h22 | omega) (by first | exact q_6ae830b01d h26 | omega)) (fun z59 h60 => ?_)
              refine En_Ps 1 (pc' := 22) (lv' := [(4, .int z59), (2, .int y12), (3, .int z57), (5, .int z35), (0, .ref 0), (1, .int a)]) (st' := []) rfl ?_
              refine En_lv (lv := [(0, .ref 0), (1, .int a), (2, .int y12), (3, .int z57), (4, .int z59)]) ⟨rfl, rfl, rfl, rfl, rfl, trivial⟩ ?_
              exact ih22 σ53 y12 z57 z59 h54 h58 ((h55 _ _ (inW tgz_0 (by decide +kernel))).trans ((h44 _ _ (inW tgz_0 (by decide +kernel))).trans ((h33 _ _ (inW tgz_0 (by decide +kernel))).trans h16))) ((h55 _ _ (inW hp (by decide +kernel))).trans ((h44 _ _ (inW hp (by decide +kernel))).trans ((h33 _ _ (inW hp (by decide +kernel))).trans h17))) (by first | exact q_5b439548fc h22 | omega) (by first | exact q_f1519f12c0 h26 | omega) (by first | exact q_ef1e8e38bf h56.1 | omega) (by first | exact q_3ea7e55eca h56.2 | omega) (by first | exact q_35104ce9d3 h60 h22 | omega) (by first | exact q_84805d5d8e h60 h26 | omega) (by first | exact q_2fedec469a h60 | omega) (by first | exact q_6272716eb4 h60 h25 | omega)
    have := (by decide : (Int32.ofInt (-1)).toInt = -1)
    have := (by decide : ((Int8.ofInt 17).toInt32).toInt = 17)
    have := (by decide : (Int32.ofInt 0).toInt = 0)
    refine En_lv (lv := [(0, .ref 0), (1, .int a), (2, .int ((Int32.ofInt (-1)))), (3, .int (((Int8.ofInt 17).toInt32))), (4, .int ((Int32.ofInt 0)))]) ⟨rfl, rfl, rfl, rfl, rfl, trivial⟩ ?_
    exact key22 (Int.toNat (3) + 1) σ3 ((Int32.ofInt (-1))) (((Int8.ofInt 17).toInt32)) ((Int32.ofInt 0)) h4 h8 ((h5 _ _ (inW tgz_0 (by decide +kernel))).trans h_p) ((h5 _ _ (inW hp (by decide +kernel))).trans h_sg) (by decide) (by decide) (by decide) (by decide) (by decide) (by decide) (by omega) (by first | exact toN_lt _ | omega)
  · refine En_Ps 1 (pc' := 13) (lv' := [(0, .ref 0), (1, .int a)]) (st' := [.int (((Int8.ofInt (-2)).toInt32))]) rfl ?_
    refine En_top (by decide : ((Int8.ofInt (-2)).toInt32).toInt = -2) (fun z61 h62 => ?_)
    exact En_ret (v := some (Value.int z61)) rfl rfl rfl ⟨h4, h8, z61, rfl, ⟨by first | exact q_f35c5d346c h62 | omega, by first | exact q_53fa448498 h62 | omega⟩⟩
/-- DoorSchool.errors(II)I -/
abbrev P_119 (σ0 : SG) (a : Int32) (b : Int32) (p : Nat) (sg : Int32) : PO := fun v σ => WT σ ∧ Fr [] σ0 σ ∧ ∃ ret : Int32, v = some (Value.int ret) ∧ True
set_option maxRecDepth 10000 in
set_option maxHeartbeats 4000000 in
theorem c_119 (σ0 : SG) (hσ0 : WT σ0) (a : Int32) (b : Int32) (p : Nat) (hp : TG p = 18) (h_p : (σ0 0)[9]? = some (Value.ref p)) (sg : Int32) (h_sg : (σ0 p)[1]? = some (Value.int sg)) (hp0 : -sg.toInt ≤ 0) : En 4 94 none mr_119 (P_119 σ0 a b p sg) 0 [(0, .ref 0), (1, .int a), (2, .int b)] [] σ0 := by
  obtain ⟨hl_sg, hu_sg⟩ := WT_int hσ0 (g := 18) hp (by decide +kernel) (l := (-1)) (u := 4) (by decide +kernel) h_sg
  have hF0 : Fr [] σ0 σ0 := Fr_rfl
  refine En_Ps 1 (pc' := 1) (lv' := [(0, .ref 0), (1, .int a), (2, .int b)]) (st' := [.int a]) rfl ?_
  refine En_callS rfl rfl rfl rfl rfl rfl rfl rfl rfl (c_148 σ0 hσ0 a) (by decide) (by decide) (fun v2 σ3 h1 => ?_)
  obtain ⟨h4, h5, z7, rfl, h6⟩ := h1
  have h8 := Fr_trans hF0 h5 (by decide +kernel)
  refine En_iEq _ rfl rfl (fun h9 => ?_) (fun h9 => ?_)
  · refine En_Ps 1 (pc' := 32) (lv' := [(0, .ref 0), (1, .int a), (2, .int b)]) (st' := [.int (((Int8.ofInt (-2)).toInt32))]) rfl ?_
    refine En_top (by decide : ((Int8.ofInt (-2)).toInt32).toInt = -2) (fun z10 h11 => ?_)
    exact En_ret (v := some (Value.int z10)) rfl rfl rfl ⟨h4, h8, z10, rfl, trivial⟩
  · refine En_Ps 1 (pc' := 8) (lv' := [(0, .ref 0), (1, .int a), (2, .int b)]) (st' := [.ref 0]) rfl ?_
    refine En_getK (j := 9) ((h5 _ _ (inW tgz_0 (by decide +kernel))).trans h_p) rfl rfl rfl tgz_0 (by decide +kernel) ?_
    refine En_Ps 1 (pc' := 12) (lv' := [(0, .ref 0), (1, .int a), (2, .int b)]) (st' := [.int b, .ref p]) rfl ?_
    refine En_callV rfl rfl rfl rfl rfl rfl rfl rfl hp (by decide +kernel) rfl (c_46 σ3 h4 p hp b sg ((h5 _ _ (inW hp (by decide +kernel))).trans h_sg) (by first | exact q_a555021d16 hp0 | omega)) (by decide) (by decide) (fun v13 σ14 h12 => ?_)
    obtain ⟨h15, h16, z18, rfl, h17⟩ := h12
    have h19 := Fr_trans h8 h16 (by decide +kernel)
    refine En_iEq _ rfl rfl (fun h20 => ?_) (fun h20 => ?_)
    · refine En_Ps 1 (pc' := 32) (lv' := [(0, .ref 0), (1, .int a), (2, .int b)]) (st' := [.int (((Int8.ofInt (-2)).toInt32))]) rfl ?_
      refine En_top (by decide : ((Int8.ofInt (-2)).toInt32).toInt = -2) (fun z21 h22 => ?_)
      exact En_ret (v := some (Value.int z21)) rfl rfl rfl ⟨h15, h19, z21, rfl, trivial⟩
    · refine En_Ps 1 (pc' := 19) (lv' := [(0, .ref 0), (1, .int a), (2, .int b)]) (st' := [.ref 0]) rfl ?_
      refine En_getU (j := 3) (u := 8) (g' := 8) (q := 0) rfl rfl rfl tgz_0 (by decide +kernel) h15 (by decide +kernel) un_8_8 (fun h23 => ?_)
      refine En_Ps 2 (pc' := 24) (lv' := [(0, .ref 0), (1, .int a), (2, .int b)]) (st' := [.int b, .int a, .ref 8]) rfl ?_
      refine En_callV rfl rfl rfl rfl rfl rfl rfl rfl tgz_8 (by decide +kernel) rfl (c_20 σ14 h15 a b) (by decide) (by decide) (fun v26 σ27 h25 => ?_)
      obtain ⟨h28, h29, z31, rfl, h30⟩ := h25
      have h32 := Fr_trans h19 h29 (by decide +kernel)
      refine En_Ps 1 (pc' := 32) (lv' := [(0, .ref 0), (1, .int a), (2, .int b)]) (st' := [.int z31]) rfl ?_
      exact En_ret (v := some (Value.int z31)) rfl rfl rfl ⟨h28, h32, z31, rfl, trivial⟩
/-- DoorSchool.isZeroOrOne(I)Z -/
abbrev P_149 (σ0 : SG) (a : Int32) : PO := fun v σ => WT σ ∧ Fr [] σ0 σ ∧ ∃ ret : Int32, v = some (Value.int ret) ∧ -ret.toInt ≤ 0 ∧ ret.toInt - 1 ≤ 0 ∧ (ret.toInt - 1 ≤ 0 ∧ -ret.toInt + 1 ≤ 0 → -a.toInt ≤ 0 ∧ a.toInt - 1 ≤ 0)
set_option maxRecDepth 10000 in
set_option maxHeartbeats 4000000 in
theorem c_149 (σ0 : SG) (hσ0 : WT σ0) (a : Int32) : En 0 0 none mr_149 (P_149 σ0 a) 0 [(0, .int a)] [] σ0 := by
  have hF0 : Fr [] σ0 σ0 := Fr_rfl
  refine En_Ps 1 (pc' := 1) (lv' := [(0, .int a)]) (st' := [.int a]) rfl ?_
  refine En_iEq _ rfl rfl (fun h1 => ?_) (fun h1 => ?_)
  · refine En_Ps 2 (pc' := 14) (lv' := [(0, .int a)]) (st' := [.int ((Int32.ofInt 1))]) rfl ?_
    refine En_top (by decide : (Int32.ofInt 1).toInt = 1) (fun z2 h3 => ?_)
    exact En_ret (v := some (Value.int z2)) rfl rfl (retZ rfl rfl (by first | exact q_2b07c97645 h3 | omega) (by first | exact q_d9e7cbb253 h3 | omega)) ⟨hσ0, hF0, z2, rfl, ⟨by first | exact q_ad3eee31ca h3 | omega, by first | exact q_81cf297dc4 h3 | omega, fun _ => by omega⟩⟩
  · refine En_Ps 2 (pc' := 6) (lv' := [(0, .int a)]) (st' := [.int ((Int32.ofInt 1)), .int a]) rfl ?_
    refine En_icNe _ rfl (by decide : (Int32.ofInt 1).toInt = 1) rfl (fun h4 => ?_) (fun h4 => ?_)
    · refine En_Ps 1 (pc' := 14) (lv' := [(0, .int a)]) (st' := [.int ((Int32.ofInt 0))]) rfl ?_
      refine En_top (by decide : (Int32.ofInt 0).toInt = 0) (fun z5 h6 => ?_)
      exact En_ret (v := some (Value.int z5)) rfl rfl (retZ rfl rfl (by first | exact q_55451d0a83 h6 | omega) (by first | exact q_87849c3859 h6 | omega)) ⟨hσ0, hF0, z5, rfl, ⟨by first | exact q_097a37c2ae h6 | omega, by first | exact q_e269517bee h6 | omega, fun _ => by omega⟩⟩
    · refine En_Ps 2 (pc' := 14) (lv' := [(0, .int a)]) (st' := [.int ((Int32.ofInt 1))]) rfl ?_
      refine En_top (by decide : (Int32.ofInt 1).toInt = 1) (fun z7 h8 => ?_)
      exact En_ret (v := some (Value.int z7)) rfl rfl (retZ rfl rfl (by first | exact q_2b07c97645 h8 | omega) (by first | exact q_d9e7cbb253 h8 | omega)) ⟨hσ0, hF0, z7, rfl, ⟨by first | exact q_ad3eee31ca h8 | omega, by first | exact q_81cf297dc4 h8 | omega, fun _ => by omega⟩⟩
/-- DoorSchool.exam(II)I -/
abbrev P_120 (σ0 : SG) (a : Int32) (b : Int32) (p : Nat) (sg : Int32) : PO := fun v σ => WT σ ∧ Fr [] σ0 σ ∧ ∃ ret : Int32, v = some (Value.int ret) ∧ -ret.toInt - 2 ≤ 0 ∧ ret.toInt - 15 ≤ 0
set_option maxRecDepth 10000 in
set_option maxHeartbeats 4000000 in
theorem c_120 (σ0 : SG) (hσ0 : WT σ0) (a : Int32) (b : Int32) (p : Nat) (hp : TG p = 18) (h_p : (σ0 0)[9]? = some (Value.ref p)) (sg : Int32) (h_sg : (σ0 p)[1]? = some (Value.int sg)) (hp0 : -sg.toInt ≤ 0) : En 1 20 none mr_120 (P_120 σ0 a b p sg) 0 [(0, .ref 0), (1, .int a), (2, .int b)] [] σ0 := by
  obtain ⟨hl_sg, hu_sg⟩ := WT_int hσ0 (g := 18) hp (by decide +kernel) (l := (-1)) (u := 4) (by decide +kernel) h_sg
  have hF0 : Fr [] σ0 σ0 := Fr_rfl
  refine En_Ps 1 (pc' := 1) (lv' := [(0, .ref 0), (1, .int a), (2, .int b)]) (st' := [.int a]) rfl ?_
  refine En_iLt _ rfl rfl (fun h1 => ?_) (fun h1 => ?_)
  · refine En_Ps 1 (pc' := 27) (lv' := [(0, .ref 0), (1, .int a), (2, .int b)]) (st' := [.int (((Int8.ofInt (-2)).toInt32))]) rfl ?_
    refine En_top (by decide : ((Int8.ofInt (-2)).toInt32).toInt = -2) (fun z2 h3 => ?_)
    exact En_ret (v := some (Value.int z2)) rfl rfl rfl ⟨hσ0, hF0, z2, rfl, ⟨by first | exact q_f35c5d346c h3 | omega, by first | exact q_12a74e12a3 h3 | omega⟩⟩
  · refine En_Ps 2 (pc' := 6) (lv' := [(0, .ref 0), (1, .int a), (2, .int b)]) (st' := [.ref 0, .int a]) rfl ?_
    refine En_getK (j := 9) h_p rfl rfl rfl tgz_0 (by decide +kernel) ?_
    refine En_getR (j := 5) (g' := 20) (u := 0) rfl rfl rfl hp (by decide +kernel) hσ0 (by decide +kernel) (fun a5 h4 ha5 => ?_)
    refine En_getI (j := 2) (l := 0) (u := 13) rfl rfl rfl ha5 (by decide +kernel) hσ0 (by decide +kernel) (fun z7 h6 h8 h9 => ?_)
    refine En_icGe _ rfl rfl rfl (fun h10 => ?_) (fun h10 => ?_)
    · refine En_Ps 1 (pc' := 27) (lv' := [(0, .ref 0), (1, .int a), (2, .int b)]) (st' := [.int (((Int8.ofInt (-2)).toInt32))]) rfl ?_
      refine En_top (by decide : ((Int8.ofInt (-2)).toInt32).toInt = -2) (fun z11 h12 => ?_)
      exact En_ret (v := some (Value.int z11)) rfl rfl rfl ⟨hσ0, hF0, z11, rfl, ⟨by first | exact q_f35c5d346c h12 | omega, by first | exact q_12a74e12a3 h12 | omega⟩⟩
    · refine En_Ps 1 (pc' := 19) (lv' := [(0, .ref 0), (1, .int a), (2, .int b)]) (st' := [.int b]) rfl ?_
      refine En_callS rfl rfl rfl rfl rfl rfl rfl rfl rfl (c_149 σ0 hσ0 b) (by decide) (by decide) (fun v14 σ15 h13 => ?_)
      obtain ⟨h16, h17, z19, rfl, h18⟩ := h13
      have h20 := Fr_trans hF0 h17 (by decide +kernel)
      refine En_iNe _ rfl rfl (fun h21 => ?_) (fun h21 => ?_)
      · refine En_Ps 1 (pc' := 29) (lv' := [(0, .ref 0), (1, .int a), (2, .int b)]) (st' := [.int b]) rfl ?_
        refine En_iNe _ rfl rfl (fun h22 => ?_) (fun h22 => ?_)
        · refine En_Ps 1 (pc' := 48) (lv' := [(0, .ref 0), (1, .int a), (2, .int b)]) (st' := [.ref 0]) rfl ?_
          refine En_getK (j := 9) ((h17 _ _ (inW tgz_0 (by decide +kernel))).trans h_p) rfl rfl rfl tgz_0 (by decide +kernel) ?_
          refine En_getK (j := 5) ((h17 _ _ (inW hp (by decide +kernel))).trans h4) rfl rfl rfl hp (by decide +kernel) ?_
          refine En_getR (j := 1) (g' := 22) (u := 0) rfl rfl rfl ha5 (by decide +kernel) h16 (by decide +kernel) (fun a24 h23 ha24 => ?_)
          refine En_Ps 1 (pc' := 58) (lv' := [(0, .ref 0), (1, .int a), (2, .int b)]) (st' := [.int a, .ref a24]) rfl ?_
          refine En_iald (l := 0) (u := 1) rfl rfl ha24 (by decide +kernel) h16 (by first | exact q_58e6e51dcc h1 | omega) (lnI (by decide +kernel : LN _ = 13) (by first | exact q_314deb8953 h10 h9 | omega)) (FTsgl (by decide +kernel)) (fun z26 h25 h27 h28 => ?_)
          exact En_ret (v := some (Value.int z26)) rfl rfl rfl ⟨h16, h20, z26, rfl, ⟨by first | exact q_ea7f0ffdb1 h27 | omega, by first | exact q_31525ae3c9 h28 | omega⟩⟩
        · refine En_Ps 1 (pc' := 33) (lv' := [(0, .ref 0), (1, .int a), (2, .int b)]) (st' := [.ref 0]) rfl ?_
          refine En_getK (j := 9) ((h17 _ _ (inW tgz_0 (by decide +kernel))).trans h_p) rfl rfl rfl tgz_0 (by decide +kernel) ?_
          refine En_getK (j := 5) ((h17 _ _ (inW hp (by decide +kernel))).trans h4) rfl rfl rfl hp (by decide +kernel) ?_
          refine En_getR (j := 0) (g' := 21) (u := 0) rfl rfl rfl ha5 (by decide +kernel) h16 (by decide +kernel) (fun a30 h29 ha30 => ?_)
          refine En_Ps 1 (pc' := 43) (lv' := [(0, .ref 0), (1, .int a), (2, .int b)]) (st' := [.int a, .ref a30]) rfl ?_
          refine En_iald (l := 0) (u := 15) rfl rfl ha30 (by decide +kernel) h16 (by first | exact q_58e6e51dcc h1 | omega) (lnI (by decide +kernel : LN _ = 13) (by first | exact q_314deb8953 h10 h9 | omega)) (FTsgl (by decide +kernel)) (fun z32 h31 h33 h34 => ?_)
          refine En_Ps 1 (pc' := 59) (lv' := [(0, .ref 0), (1, .int a), (2, .int b)]) (st' := [.int z32]) rfl ?_
          exact En_ret (v := some (Value.int z32)) rfl rfl rfl ⟨h16, h20, z32, rfl, ⟨by first | exact q_ea7f0ffdb1 h33 | omega, by first | exact q_867a9ac627 h34 | omega⟩⟩
      · refine En_Ps 1 (pc' := 27) (lv' := [(0, .ref 0), (1, .int a), (2, .int b)]) (st' := [.int (((Int8.ofInt (-2)).toInt32))]) rfl ?_
        refine En_top (by decide : ((Int8.ofInt (-2)).toInt32).toInt = -2) (fun z35 h36 => ?_)
        exact En_ret (v := some (Value.int z35)) rfl rfl rfl ⟨h16, h20, z35, rfl, ⟨by first | exact q_f35c5d346c h36 | omega, by first | exact q_12a74e12a3 h36 | omega⟩⟩
/-- DoorSchool.fewest(II)I -/
abbrev P_123 (σ0 : SG) (a : Int32) (b : Int32) (p : Nat) (sg : Int32) : PO := fun v σ => WT σ ∧ Fr [] σ0 σ ∧ ∃ ret : Int32, v = some (Value.int ret) ∧ -ret.toInt - 2 ≤ 0 ∧ ret.toInt - 63 ≤ 0
set_option maxRecDepth 10000 in
set_option maxHeartbeats 4000000 in
theorem c_123 (σ0 : SG) (hσ0 : WT σ0) (a : Int32) (b : Int32) (p : Nat) (hp : TG p = 18) (h_p : (σ0 0)[9]? = some (Value.ref p)) (sg : Int32) (h_sg : (σ0 p)[1]? = some (Value.int sg)) (hp0 : -sg.toInt ≤ 0) : En 6 144 none mr_123 (P_123 σ0 a b p sg) 0 [(0, .ref 0), (1, .int a), (2, .int b)] [] σ0 := by
  obtain ⟨hl_sg, hu_sg⟩ := WT_int hσ0 (g := 18) hp (by decide +kernel) (l := (-1)) (u := 4) (by decide +kernel) h_sg
  have hF0 : Fr [] σ0 σ0 := Fr_rfl
  refine En_Ps 1 (pc' := 1) (lv' := [(0, .ref 0), (1, .int a), (2, .int b)]) (st' := [.int a]) rfl ?_
  refine En_callS rfl rfl rfl rfl rfl rfl rfl rfl rfl (c_148 σ0 hσ0 a) (by decide) (by decide) (fun v2 σ3 h1 => ?_)
  obtain ⟨h4, h5, z7, rfl, h6⟩ := h1
  have h8 := Fr_trans hF0 h5 (by decide +kernel)
  refine En_iEq _ rfl rfl (fun h9 => ?_) (fun h9 => ?_)
  · refine En_Ps 1 (pc' := 20) (lv' := [(0, .ref 0), (1, .int a), (2, .int b)]) (st' := [.int (((Int8.ofInt (-2)).toInt32))]) rfl ?_
    refine En_top (by decide : ((Int8.ofInt (-2)).toInt32).toInt = -2) (fun z10 h11 => ?_)
    exact En_ret (v := some (Value.int z10)) rfl rfl rfl ⟨h4, h8, z10, rfl, ⟨by first | exact q_f35c5d346c h11 | omega, by first | exact q_443ead751f h11 | omega⟩⟩
  · refine En_Ps 1 (pc' := 8) (lv' := [(0, .ref 0), (1, .int a), (2, .int b)]) (st' := [.ref 0]) rfl ?_
    refine En_getK (j := 9) ((h5 _ _ (inW tgz_0 (by decide +kernel))).trans h_p) rfl rfl rfl tgz_0 (by decide +kernel) ?_
    refine En_Ps 1 (pc' := 12) (lv' := [(0, .ref 0), (1, .int a), (2, .int b)]) (st' := [.int b, .ref p]) rfl ?_
    refine En_callV rfl rfl rfl rfl rfl rfl rfl rfl hp (by decide +kernel) rfl (c_46 σ3 h4 p hp b sg ((h5 _ _ (inW hp (by decide +kernel))).trans h_sg) (by first | exact q_a555021d16 hp0 | omega)) (by decide) (by decide) (fun v13 σ14 h12 => ?_)
    obtain ⟨h15, h16, z18, rfl, h17⟩ := h12
    have h19 := Fr_trans h8 h16 (by decide +kernel)
    refine En_iNe _ rfl rfl (fun h20 => ?_) (fun h20 => ?_)
    · refine En_Ps 1 (pc' := 22) (lv' := [(0, .ref 0), (1, .int a), (2, .int b)]) (st' := [.ref 0]) rfl ?_
      refine En_getU (j := 3) (u := 8) (g' := 8) (q := 0) rfl rfl rfl tgz_0 (by decide +kernel) h15 (by decide +kernel) un_8_8 (fun h21 => ?_)
      refine En_Ps 2 (pc' := 27) (lv' := [(0, .ref 0), (1, .int a), (2, .int b)]) (st' := [.int b, .int a, .ref 8]) rfl ?_
      refine En_callV rfl rfl rfl rfl rfl rfl rfl rfl tgz_8 (by decide +kernel) rfl (c_25 σ14 h15 a b) (by decide) (by decide) (fun v24 σ25 h23 => ?_)
      obtain ⟨h26, h27, z29, rfl, h28⟩ := h23
      have h30 := Fr_trans h19 h27 (by decide +kernel)
      refine En_Ps 3 (pc' := 33) (lv' := [(3, .int z29), (0, .ref 0), (1, .int a), (2, .int b)]) (st' := [.int ((Int32.ofInt (-1))), .int z29]) rfl ?_
      refine En_icNe _ rfl (by decide : (Int32.ofInt (-1)).toInt = -1) rfl (fun h31 => ?_) (fun h31 => ?_)
      · refine En_Ps 1 (pc' := 41) (lv' := [(3, .int z29), (0, .ref 0), (1, .int a), (2, .int b)]) (st' := [.int z29]) rfl ?_
        refine En_callS rfl rfl rfl rfl rfl rfl rfl rfl rfl (c_7 σ25 h26 z29) (by decide) (by decide) (fun v33 σ34 h32 => ?_)
        obtain ⟨h35, h36, z38, rfl, h37⟩ := h32
        have h39 := Fr_trans h30 h36 (by decide +kernel)
        exact En_ret (v := some (Value.int z38)) rfl rfl rfl ⟨h35, h39, z38, rfl, ⟨by first | exact q_70a249c7f8 h37.1 | omega, by first | exact q_4b9206e141 h37.2 | omega⟩⟩
      · refine En_Ps 2 (pc' := 44) (lv' := [(3, .int z29), (0, .ref 0), (1, .int a), (2, .int b)]) (st' := [.int ((Int32.ofInt (-1)))]) rfl ?_
        refine En_top (by decide : (Int32.ofInt (-1)).toInt = -1) (fun z40 h41 => ?_)
        exact En_ret (v := some (Value.int z40)) rfl rfl rfl ⟨h26, h30, z40, rfl, ⟨by first | exact q_e1de8c7867 h41 | omega, by first | exact q_c86a015a5d h41 | omega⟩⟩
    · refine En_Ps 1 (pc' := 20) (lv' := [(0, .ref 0), (1, .int a), (2, .int b)]) (st' := [.int (((Int8.ofInt (-2)).toInt32))]) rfl ?_
      refine En_top (by decide : ((Int8.ofInt (-2)).toInt32).toInt = -2) (fun z42 h43 => ?_)
      exact En_ret (v := some (Value.int z42)) rfl rfl rfl ⟨h15, h19, z42, rfl, ⟨by first | exact q_f35c5d346c h43 | omega, by first | exact q_443ead751f h43 | omega⟩⟩
/-- DoorSchool.fits(I)I -/
abbrev P_124 (σ0 : SG) (a : Int32) (p : Nat) (sg : Int32) : PO := fun v σ => WT σ ∧ Fr [] σ0 σ ∧ ∃ ret : Int32, v = some (Value.int ret) ∧ -ret.toInt - 6 ≤ 0 ∧ ret.toInt - 81 ≤ 0
set_option maxRecDepth 10000 in
set_option maxHeartbeats 4000000 in
theorem c_124 (σ0 : SG) (hσ0 : WT σ0) (a : Int32) (p : Nat) (hp : TG p = 18) (h_p : (σ0 0)[9]? = some (Value.ref p)) (sg : Int32) (h_sg : (σ0 p)[1]? = some (Value.int sg)) (hp0 : -sg.toInt ≤ 0) : En 2 47 none mr_124 (P_124 σ0 a p sg) 0 [(0, .ref 0), (1, .int a)] [] σ0 := by
  obtain ⟨hl_sg, hu_sg⟩ := WT_int hσ0 (g := 18) hp (by decide +kernel) (l := (-1)) (u := 4) (by decide +kernel) h_sg
  have hF0 : Fr [] σ0 σ0 := Fr_rfl
  refine En_Ps 2 (pc' := 2) (lv' := [(0, .ref 0), (1, .int a)]) (st' := [.int a, .ref 0]) rfl ?_
  refine En_callV rfl rfl rfl rfl rfl rfl rfl rfl tgz_0 (by decide +kernel) rfl (c_180 σ0 hσ0 a p hp h_p sg h_sg (by first | exact q_a555021d16 hp0 | omega)) (by decide) (by decide) (fun v2 σ3 h1 => ?_)
  obtain ⟨h4, h5, z7, rfl, h6⟩ := h1
  have h8 := Fr_trans hF0 h5 (by decide +kernel)
  refine En_Ps 2 (pc' := 7) (lv' := [(2, .int z7), (0, .ref 0), (1, .int a)]) (st' := [.int z7]) rfl ?_
  refine En_iEq _ rfl rfl (fun h9 => ?_) (fun h9 => ?_)
  · refine En_Ps 1 (pc' := 15) (lv' := [(2, .int z7), (0, .ref 0), (1, .int a)]) (st' := [.ref 0]) rfl ?_
    refine En_getU (j := 2) (u := 4) (g' := 4) (q := 0) rfl rfl rfl tgz_0 (by decide +kernel) h4 (by decide +kernel) un_4_4 (fun h10 => ?_)
    refine En_Ps 1 (pc' := 19) (lv' := [(2, .int z7), (0, .ref 0), (1, .int a)]) (st' := [.ref 0, .ref 4]) rfl ?_
    refine En_getU (j := 6) (u := 150) (g' := 32) (q := 0) rfl rfl rfl tgz_0 (by decide +kernel) h4 (by decide +kernel) un_32_150 (fun h12 => ?_)
    refine En_Ps 1 (pc' := 23) (lv' := [(2, .int z7), (0, .ref 0), (1, .int a)]) (st' := [.int a, .ref 150, .ref 4]) rfl ?_
    refine En_aald (g' := 33) (u := 0) rfl rfl tgz_150 (by decide +kernel) h4 (by omega) (lnI (by decide +kernel : LN _ = 4) (by omega)) (FTsgl (by decide +kernel)) (fun a15 h14 ha15 => ?_)
    refine En_Ps 1 (pc' := 25) (lv' := [(2, .int z7), (0, .ref 0), (1, .int a)]) (st' := [.int ((Int32.ofInt 1)), .ref a15, .ref 4]) rfl ?_
    have := (by decide : ((Int32.ofInt 1)).toInt = 1)
    refine En_callV rfl rfl rfl rfl rfl rfl rfl rfl ha15 (by decide +kernel) rfl (c_89 σ3 h4 a15 ha15 ((Int32.ofInt 1))) (by decide) (by decide) (fun v17 σ18 h16 => ?_)
    obtain ⟨h19, h20, z22, rfl, h21⟩ := h16
    have h23 := Fr_trans h8 h20 (by decide +kernel)
    refine En_Ps 1 (pc' := 29) (lv' := [(2, .int z7), (0, .ref 0), (1, .int a)]) (st' := [.ref 0, .int z22, .ref 4]) rfl ?_
    refine En_getK (j := 6) ((h20 _ _ (inW tgz_0 (by decide +kernel))).trans h12) rfl rfl rfl tgz_0 (by decide +kernel) ?_
    refine En_Ps 1 (pc' := 33) (lv' := [(2, .int z7), (0, .ref 0), (1, .int a)]) (st' := [.int a, .ref 150, .int z22, .ref 4]) rfl ?_
    refine En_aald (g' := 33) (u := 0) rfl rfl tgz_150 (by decide +kernel) h19 (by omega) (lnI (by decide +kernel : LN _ = 4) (by omega)) (FTsgl (by decide +kernel)) (fun a25 h24 ha25 => ?_)
    refine En_Ps 1 (pc' := 35) (lv' := [(2, .int z7), (0, .ref 0), (1, .int a)]) (st' := [.int ((Int32.ofInt 0)), .ref a25, .int z22, .ref 4]) rfl ?_
    have := (by decide : ((Int32.ofInt 0)).toInt = 0)
    refine En_callV rfl rfl rfl rfl rfl rfl rfl rfl ha25 (by decide +kernel) rfl (c_89 σ18 h19 a25 ha25 ((Int32.ofInt 0))) (by decide) (by decide) (fun v27 σ28 h26 => ?_)
    obtain ⟨h29, h30, z32, rfl, h31⟩ := h26
    have h33 := Fr_trans h23 h30 (by decide +kernel)
    refine En_callV rfl rfl rfl rfl rfl rfl rfl rfl tgz_4 (by decide +kernel) rfl (c_79 σ28 h29 z22 z32) (by decide) (by decide) (fun v35 σ36 h34 => ?_)
    obtain ⟨h37, h38, z40, rfl, h39⟩ := h34
    have h41 := Fr_trans h33 h38 (by decide +kernel)
    exact En_ret (v := some (Value.int z40)) rfl rfl rfl ⟨h37, h41, z40, rfl, ⟨by first | exact q_8061444f0d h39.1 | omega, by first | exact q_62172f5eca h39.2 | omega⟩⟩
  · refine En_Ps 2 (pc' := 41) (lv' := [(2, .int z7), (0, .ref 0), (1, .int a)]) (st' := [.int z7]) rfl ?_
    exact En_ret (v := some (Value.int z7)) rfl rfl rfl ⟨h4, h8, z7, rfl, ⟨by first | exact q_629d629181 h6.1 | omega, by first | exact q_debdfeb6c0 h9 h6.2.1 | omega⟩⟩
/-- DoorSchool.ownerDeeds()I -/
abbrev P_160 (σ0 : SG) (p : Nat) (sg : Int32) : PO := fun v σ => WT σ ∧ Fr [] σ0 σ ∧ ∃ ret : Int32, v = some (Value.int ret) ∧ -ret.toInt ≤ 0 ∧ ret.toInt - 65535 ≤ 0
set_option maxRecDepth 10000 in
set_option maxHeartbeats 4000000 in
theorem c_160 (σ0 : SG) (hσ0 : WT σ0) (p : Nat) (hp : TG p = 18) (h_p : (σ0 0)[9]? = some (Value.ref p)) (sg : Int32) (h_sg : (σ0 p)[1]? = some (Value.int sg)) (hp0 : -sg.toInt ≤ 0) : En 1 24 none mr_160 (P_160 σ0 p sg) 0 [(0, .ref 0)] [] σ0 := by
  obtain ⟨hl_sg, hu_sg⟩ := WT_int hσ0 (g := 18) hp (by decide +kernel) (l := (-1)) (u := 4) (by decide +kernel) h_sg
  have hF0 : Fr [] σ0 σ0 := Fr_rfl
  refine En_Ps 1 (pc' := 1) (lv' := [(0, .ref 0)]) (st' := [.ref 0]) rfl ?_
  refine En_getU (j := 2) (u := 4) (g' := 4) (q := 0) rfl rfl rfl tgz_0 (by decide +kernel) hσ0 (by decide +kernel) un_4_4 (fun h1 => ?_)
  refine En_Ps 1 (pc' := 5) (lv' := [(0, .ref 0)]) (st' := [.ref 0, .ref 4]) rfl ?_
  refine En_getK (j := 9) h_p rfl rfl rfl tgz_0 (by decide +kernel) ?_
  refine En_getI (j := 6) (l := 0) (u := 15) rfl rfl rfl hp (by decide +kernel) hσ0 (by decide +kernel) (fun z4 h3 h5 h6 => ?_)
  refine En_Ps 1 (pc' := 12) (lv' := [(0, .ref 0)]) (st' := [.ref 0, .int z4, .ref 4]) rfl ?_
  refine En_getK (j := 9) h_p rfl rfl rfl tgz_0 (by decide +kernel) ?_
  refine En_getI (j := 7) (l := 0) (u := 15) rfl rfl rfl hp (by decide +kernel) hσ0 (by decide +kernel) (fun z8 h7 h9 h10 => ?_)
  refine En_callV rfl rfl rfl rfl rfl rfl rfl rfl tgz_4 (by decide +kernel) rfl (c_77 σ0 hσ0 z4 z8) (by decide) (by decide) (fun v12 σ13 h11 => ?_)
  obtain ⟨h14, h15, z17, rfl, h16⟩ := h11
  have h18 := Fr_trans hF0 h15 (by decide +kernel)
  exact En_ret (v := some (Value.int z17)) rfl rfl rfl ⟨h14, h18, z17, rfl, ⟨by first | exact q_a555021d16 h16.1 | omega, by first | exact q_ef123ba13c h16.2 | omega⟩⟩
/-- DoorSchool.fooling(I)I -/
abbrev P_126 (σ0 : SG) (a : Int32) (p : Nat) (sg : Int32) : PO := fun v σ => WT σ ∧ Fr [] σ0 σ ∧ ∃ ret : Int32, v = some (Value.int ret) ∧ True
set_option maxRecDepth 10000 in
set_option maxHeartbeats 4000000 in
theorem c_126 (σ0 : SG) (hσ0 : WT σ0) (a : Int32) (hl_a : 0 ≤ a.toInt) (hu_a : a.toInt ≤ 3) (p : Nat) (hp : TG p = 18) (h_p : (σ0 0)[9]? = some (Value.ref p)) (sg : Int32) (h_sg : (σ0 p)[1]? = some (Value.int sg)) (hp0 : -sg.toInt ≤ 0) : En 4 92 none mr_126 (P_126 σ0 a p sg) 0 [(0, .ref 0), (1, .int a)] [] σ0 := by
  obtain ⟨hl_sg, hu_sg⟩ := WT_int hσ0 (g := 18) hp (by decide +kernel) (l := (-1)) (u := 4) (by decide +kernel) h_sg
  have hF0 : Fr [] σ0 σ0 := Fr_rfl
  refine En_Ps 2 (pc' := 2) (lv' := [(0, .ref 0), (1, .int a)]) (st' := [.int a, .ref 0]) rfl ?_
  refine En_callV rfl rfl rfl rfl rfl rfl rfl rfl tgz_0 (by decide +kernel) rfl (c_114 σ0 hσ0 a (geI rfl (by first | exact q_58e6e51dcc hl_a | omega)) (leI rfl (by first | exact q_da5e9b976f hu_a | omega)) p hp h_p sg h_sg (by first | exact q_a555021d16 hp0 | omega)) (by decide) (by decide) (fun v2 σ3 h1 => ?_)
  obtain ⟨h4, h5, z7, rfl, h6⟩ := h1
  have h8 := Fr_trans hF0 h5 (by decide +kernel)
  refine En_Ps 1 (pc' := 6) (lv' := [(0, .ref 0), (1, .int a)]) (st' := [.ref 0, .int z7]) rfl ?_
  refine En_callV rfl rfl rfl rfl rfl rfl rfl rfl tgz_0 (by decide +kernel) rfl (c_160 σ3 h4 p hp ((h5 _ _ (inW tgz_0 (by decide +kernel))).trans h_p) sg ((h5 _ _ (inW hp (by decide +kernel))).trans h_sg) (by first | exact q_a555021d16 hp0 | omega)) (by decide) (by decide) (fun v10 σ11 h9 => ?_)
  obtain ⟨h12, h13, z15, rfl, h14⟩ := h9
  have h16 := Fr_trans h8 h13 (by decide +kernel)
  refine En_Ps 2 (pc' := 11) (lv' := [(0, .ref 0), (1, .int a)]) (st' := [.int ((z15 ^^^ ((Int32.ofInt (-1))))), .int z7]) rfl ?_
  refine En_nam (fun z17 h18 => ?_)
  refine En_Ps 1 (pc' := 12) (lv' := [(0, .ref 0), (1, .int a)]) (st' := [.int ((z7 &&& z17))]) rfl ?_
  refine En_nam (fun z19 h20 => ?_)
  exact En_ret (v := some (Value.int z19)) rfl rfl rfl ⟨h12, h16, z19, rfl, trivial⟩
/-- DoorSchool.fooled(II)I -/
abbrev P_125 (σ0 : SG) (a : Int32) (b : Int32) (p : Nat) (sg : Int32) : PO := fun v σ => WT σ ∧ Fr [] σ0 σ ∧ ∃ ret : Int32, v = some (Value.int ret) ∧ True
set_option maxRecDepth 10000 in
set_option maxHeartbeats 4000000 in
theorem c_125 (σ0 : SG) (hσ0 : WT σ0) (a : Int32) (b : Int32) (p : Nat) (hp : TG p = 18) (h_p : (σ0 0)[9]? = some (Value.ref p)) (sg : Int32) (h_sg : (σ0 p)[1]? = some (Value.int sg)) (hp0 : -sg.toInt ≤ 0) : En 5 113 none mr_125 (P_125 σ0 a b p sg) 0 [(0, .ref 0), (1, .int a), (2, .int b)] [] σ0 := by
  obtain ⟨hl_sg, hu_sg⟩ := WT_int hσ0 (g := 18) hp (by decide +kernel) (l := (-1)) (u := 4) (by decide +kernel) h_sg
  have hF0 : Fr [] σ0 σ0 := Fr_rfl
  refine En_Ps 1 (pc' := 1) (lv' := [(0, .ref 0), (1, .int a), (2, .int b)]) (st' := [.ref 0]) rfl ?_
  refine En_getK (j := 9) h_p rfl rfl rfl tgz_0 (by decide +kernel) ?_
  refine En_Ps 1 (pc' := 5) (lv' := [(0, .ref 0), (1, .int a), (2, .int b)]) (st' := [.int a, .ref p]) rfl ?_
  refine En_callV rfl rfl rfl rfl rfl rfl rfl rfl hp (by decide +kernel) rfl (c_47 σ0 hσ0 p hp a) (by decide) (by decide) (fun v2 σ3 h1 => ?_)
  obtain ⟨h4, h5, z7, rfl, h6⟩ := h1
  have h8 := Fr_trans hF0 h5 (by decide +kernel)
  refine En_iEq _ rfl rfl (fun h9 => ?_) (fun h9 => ?_)
  · refine En_Ps 1 (pc' := 20) (lv' := [(0, .ref 0), (1, .int a), (2, .int b)]) (st' := [.int (((Int8.ofInt (-2)).toInt32))]) rfl ?_
    refine En_top (by decide : ((Int8.ofInt (-2)).toInt32).toInt = -2) (fun z10 h11 => ?_)
    exact En_ret (v := some (Value.int z10)) rfl rfl rfl ⟨h4, h8, z10, rfl, trivial⟩
  · refine En_Ps 1 (pc' := 12) (lv' := [(0, .ref 0), (1, .int a), (2, .int b)]) (st' := [.int b]) rfl ?_
    refine En_callS rfl rfl rfl rfl rfl rfl rfl rfl rfl (c_149 σ3 h4 b) (by decide) (by decide) (fun v13 σ14 h12 => ?_)
    obtain ⟨h15, h16, z18, rfl, h17⟩ := h12
    have h19 := Fr_trans h8 h16 (by decide +kernel)
    refine En_iNe _ rfl rfl (fun h20 => ?_) (fun h20 => ?_)
    · refine En_Ps 1 (pc' := 22) (lv' := [(0, .ref 0), (1, .int a), (2, .int b)]) (st' := [.int b]) rfl ?_
      refine En_iNe _ rfl rfl (fun h21 => ?_) (fun h21 => ?_)
      · refine En_Ps 1 (pc' := 34) (lv' := [(0, .ref 0), (1, .int a), (2, .int b)]) (st' := [.ref 0]) rfl ?_
        refine En_callV rfl rfl rfl rfl rfl rfl rfl rfl tgz_0 (by decide +kernel) rfl (c_160 σ14 h15 p hp ((h16 _ _ (inW tgz_0 (by decide +kernel))).trans ((h5 _ _ (inW tgz_0 (by decide +kernel))).trans h_p)) sg ((h16 _ _ (inW hp (by decide +kernel))).trans ((h5 _ _ (inW hp (by decide +kernel))).trans h_sg)) (by first | exact q_a555021d16 hp0 | omega)) (by decide) (by decide) (fun v23 σ24 h22 => ?_)
        obtain ⟨h25, h26, z28, rfl, h27⟩ := h22
        have h29 := Fr_trans h19 h26 (by decide +kernel)
        refine En_Ps 2 (pc' := 39) (lv' := [(0, .ref 0), (1, .int a), (2, .int b)]) (st' := [.int a, .ref 0, .int z28]) rfl ?_
        refine En_callV rfl rfl rfl rfl rfl rfl rfl rfl tgz_0 (by decide +kernel) rfl (c_114 σ24 h25 a (geI rfl (by omega)) (leI rfl (by omega)) p hp ((h26 _ _ (inW tgz_0 (by decide +kernel))).trans ((h16 _ _ (inW tgz_0 (by decide +kernel))).trans ((h5 _ _ (inW tgz_0 (by decide +kernel))).trans h_p))) sg ((h26 _ _ (inW hp (by decide +kernel))).trans ((h16 _ _ (inW hp (by decide +kernel))).trans ((h5 _ _ (inW hp (by decide +kernel))).trans h_sg))) (by first | exact q_a555021d16 hp0 | omega)) (by decide) (by decide) (fun v31 σ32 h30 => ?_)
        obtain ⟨h33, h34, z36, rfl, h35⟩ := h30
        have h37 := Fr_trans h29 h34 (by decide +kernel)
        refine En_Ps 2 (pc' := 44) (lv' := [(0, .ref 0), (1, .int a), (2, .int b)]) (st' := [.int ((z36 ^^^ ((Int32.ofInt (-1))))), .int z28]) rfl ?_
        refine En_nam (fun z38 h39 => ?_)
        refine En_Ps 1 (pc' := 45) (lv' := [(0, .ref 0), (1, .int a), (2, .int b)]) (st' := [.int ((z28 &&& z38))]) rfl ?_
        refine En_nam (fun z40 h41 => ?_)
        obtain ⟨h42, h43⟩ := andn_rng h41 rfl (by omega) (by omega : _ ≤ (65535 : Int))
        exact En_ret (v := some (Value.int z40)) rfl rfl rfl ⟨h33, h37, z40, rfl, trivial⟩
      · refine En_Ps 2 (pc' := 27) (lv' := [(0, .ref 0), (1, .int a), (2, .int b)]) (st' := [.int a, .ref 0]) rfl ?_
        refine En_callV rfl rfl rfl rfl rfl rfl rfl rfl tgz_0 (by decide +kernel) rfl (c_126 σ14 h15 a (geI rfl (by omega)) (leI rfl (by omega)) p hp ((h16 _ _ (inW tgz_0 (by decide +kernel))).trans ((h5 _ _ (inW tgz_0 (by decide +kernel))).trans h_p)) sg ((h16 _ _ (inW hp (by decide +kernel))).trans ((h5 _ _ (inW hp (by decide +kernel))).trans h_sg)) (by first | exact q_a555021d16 hp0 | omega)) (by decide) (by decide) (fun v45 σ46 h44 => ?_)
        obtain ⟨h47, h48, z50, rfl, h49⟩ := h44
        have h51 := Fr_trans h19 h48 (by decide +kernel)
        refine En_Ps 1 (pc' := 45) (lv' := [(0, .ref 0), (1, .int a), (2, .int b)]) (st' := [.int z50]) rfl ?_
        exact En_ret (v := some (Value.int z50)) rfl rfl rfl ⟨h47, h51, z50, rfl, trivial⟩
    · refine En_Ps 1 (pc' := 20) (lv' := [(0, .ref 0), (1, .int a), (2, .int b)]) (st' := [.int (((Int8.ofInt (-2)).toInt32))]) rfl ?_
      refine En_top (by decide : ((Int8.ofInt (-2)).toInt32).toInt = -2) (fun z52 h53 => ?_)
      exact En_ret (v := some (Value.int z52)) rfl rfl rfl ⟨h15, h19, z52, rfl, trivial⟩
/-- DoorSchool.wouldDo(II)I -/
abbrev P_184 (σ0 : SG) (a : Int32) (b : Int32) (p : Nat) (sg : Int32) : PO := fun v σ => WT σ ∧ Fr [] σ0 σ ∧ ∃ ret : Int32, v = some (Value.int ret) ∧ True
set_option maxRecDepth 10000 in
set_option maxHeartbeats 4000000 in
theorem c_184 (σ0 : SG) (hσ0 : WT σ0) (a : Int32) (b : Int32) (hl_a : 0 ≤ a.toInt) (hu_a : a.toInt ≤ 3) (hl_b : 0 ≤ b.toInt) (hu_b : b.toInt ≤ 2) (p : Nat) (hp : TG p = 18) (h_p : (σ0 0)[9]? = some (Value.ref p)) (sg : Int32) (h_sg : (σ0 p)[1]? = some (Value.int sg)) (hp0 : -sg.toInt ≤ 0) : En 3 70 none mr_184 (P_184 σ0 a b p sg) 0 [(0, .ref 0), (1, .int a), (2, .int b)] [] σ0 := by
  obtain ⟨hl_sg, hu_sg⟩ := WT_int hσ0 (g := 18) hp (by decide +kernel) (l := (-1)) (u := 4) (by decide +kernel) h_sg
  have hF0 : Fr [] σ0 σ0 := Fr_rfl
  refine En_Ps 1 (pc' := 1) (lv' := [(0, .ref 0), (1, .int a), (2, .int b)]) (st' := [.ref 0]) rfl ?_
  refine En_getU (j := 3) (u := 8) (g' := 8) (q := 0) rfl rfl rfl tgz_0 (by decide +kernel) hσ0 (by decide +kernel) un_8_8 (fun h1 => ?_)
  refine En_Ps 2 (pc' := 6) (lv' := [(0, .ref 0), (1, .int a), (2, .int b)]) (st' := [.ref 0, .int b, .ref 8]) rfl ?_
  refine En_getK (j := 9) h_p rfl rfl rfl tgz_0 (by decide +kernel) ?_
  refine En_getR (j := 4) (g' := 19) (u := 0) rfl rfl rfl hp (by decide +kernel) hσ0 (by decide +kernel) (fun a4 h3 ha4 => ?_)
  refine En_Ps 1 (pc' := 13) (lv' := [(0, .ref 0), (1, .int a), (2, .int b)]) (st' := [.int a, .ref a4, .int b, .ref 8]) rfl ?_
  refine En_aald (g' := 28) (u := 0) rfl rfl ha4 (by decide +kernel) hσ0 (by first | exact q_58e6e51dcc hl_a | omega) (lnI (by decide +kernel : LN _ = 4) (by first | exact q_f3bb6f88f7 hu_a | omega)) (FTsgl (by decide +kernel)) (fun a6 h5 ha6 => ?_)
  refine En_getR (j := 0) (g' := 20) (u := 0) rfl rfl rfl ha6 (by decide +kernel) hσ0 (by decide +kernel) (fun a8 h7 ha8 => ?_)
  refine En_callV rfl rfl rfl rfl rfl rfl rfl rfl tgz_8 (by decide +kernel) rfl (c_22 σ0 hσ0 b a8 ha8) (by decide) (by decide) (fun v10 σ11 h9 => ?_)
  obtain ⟨h12, h13, z15, rfl, h14⟩ := h9
  have h16 := Fr_trans hF0 h13 (by decide +kernel)
  exact En_ret (v := some (Value.int z15)) rfl rfl rfl ⟨h12, h16, z15, rfl, trivial⟩
/-- DoorSchool.stolenBy(II)I -/
abbrev P_171 (σ0 : SG) (a : Int32) (b : Int32) (p : Nat) (sg : Int32) : PO := fun v σ => WT σ ∧ Fr [] σ0 σ ∧ ∃ ret : Int32, v = some (Value.int ret) ∧ True
set_option maxRecDepth 10000 in
set_option maxHeartbeats 4000000 in
theorem c_171 (σ0 : SG) (hσ0 : WT σ0) (a : Int32) (b : Int32) (hl_a : 0 ≤ a.toInt) (hu_a : a.toInt ≤ 3) (hl_b : 0 ≤ b.toInt) (hu_b : b.toInt ≤ 2) (p : Nat) (hp : TG p = 18) (h_p : (σ0 0)[9]? = some (Value.ref p)) (sg : Int32) (h_sg : (σ0 p)[1]? = some (Value.int sg)) (hp0 : -sg.toInt ≤ 0) : En 4 92 none mr_171 (P_171 σ0 a b p sg) 0 [(0, .ref 0), (1, .int a), (2, .int b)] [] σ0 := by
  obtain ⟨hl_sg, hu_sg⟩ := WT_int hσ0 (g := 18) hp (by decide +kernel) (l := (-1)) (u := 4) (by decide +kernel) h_sg
  have hF0 : Fr [] σ0 σ0 := Fr_rfl
  refine En_Ps 3 (pc' := 3) (lv' := [(0, .ref 0), (1, .int a), (2, .int b)]) (st' := [.int b, .int a, .ref 0]) rfl ?_
  refine En_callV rfl rfl rfl rfl rfl rfl rfl rfl tgz_0 (by decide +kernel) rfl (c_184 σ0 hσ0 a b (geI rfl (by first | exact q_58e6e51dcc hl_a | omega)) (leI rfl (by first | exact q_da5e9b976f hu_a | omega)) (geI rfl (by first | exact q_58e6e51dcc hl_b | omega)) (leI rfl (by first | exact q_a85463bd0d hu_b | omega)) p hp h_p sg h_sg (by first | exact q_a555021d16 hp0 | omega)) (by decide) (by decide) (fun v2 σ3 h1 => ?_)
  obtain ⟨h4, h5, z7, rfl, h6⟩ := h1
  have h8 := Fr_trans hF0 h5 (by decide +kernel)
  refine En_Ps 1 (pc' := 7) (lv' := [(0, .ref 0), (1, .int a), (2, .int b)]) (st' := [.ref 0, .int z7]) rfl ?_
  refine En_callV rfl rfl rfl rfl rfl rfl rfl rfl tgz_0 (by decide +kernel) rfl (c_160 σ3 h4 p hp ((h5 _ _ (inW tgz_0 (by decide +kernel))).trans h_p) sg ((h5 _ _ (inW hp (by decide +kernel))).trans h_sg) (by first | exact q_a555021d16 hp0 | omega)) (by decide) (by decide) (fun v10 σ11 h9 => ?_)
  obtain ⟨h12, h13, z15, rfl, h14⟩ := h9
  have h16 := Fr_trans h8 h13 (by decide +kernel)
  refine En_Ps 2 (pc' := 12) (lv' := [(0, .ref 0), (1, .int a), (2, .int b)]) (st' := [.int ((z15 ^^^ ((Int32.ofInt (-1))))), .int z7]) rfl ?_
  refine En_nam (fun z17 h18 => ?_)
  refine En_Ps 1 (pc' := 13) (lv' := [(0, .ref 0), (1, .int a), (2, .int b)]) (st' := [.int ((z7 &&& z17))]) rfl ?_
  refine En_nam (fun z19 h20 => ?_)
  exact En_ret (v := some (Value.int z19)) rfl rfl rfl ⟨h12, h16, z19, rfl, trivial⟩
/-- DoorSchool.game(III)I -/
abbrev P_131 (σ0 : SG) (a : Int32) (b : Int32) (c : Int32) (p : Nat) (sg : Int32) : PO := fun v σ => WT σ ∧ Fr [] σ0 σ ∧ ∃ ret : Int32, v = some (Value.int ret) ∧ -ret.toInt - 2 ≤ 0 ∧ ret.toInt - 1 ≤ 0
set_option maxRecDepth 10000 in
set_option maxHeartbeats 4000000 in
theorem c_131 (σ0 : SG) (hσ0 : WT σ0) (a : Int32) (b : Int32) (c : Int32) (p : Nat) (hp : TG p = 18) (h_p : (σ0 0)[9]? = some (Value.ref p)) (sg : Int32) (h_sg : (σ0 p)[1]? = some (Value.int sg)) (hp0 : -sg.toInt ≤ 0) : En 5 114 none mr_131 (P_131 σ0 a b c p sg) 0 [(0, .ref 0), (1, .int a), (2, .int b), (3, .int c)] [] σ0 := by
  obtain ⟨hl_sg, hu_sg⟩ := WT_int hσ0 (g := 18) hp (by decide +kernel) (l := (-1)) (u := 4) (by decide +kernel) h_sg
  have hF0 : Fr [] σ0 σ0 := Fr_rfl
  refine En_Ps 1 (pc' := 1) (lv' := [(0, .ref 0), (1, .int a), (2, .int b), (3, .int c)]) (st' := [.ref 0]) rfl ?_
  refine En_getK (j := 9) h_p rfl rfl rfl tgz_0 (by decide +kernel) ?_
  refine En_Ps 1 (pc' := 5) (lv' := [(0, .ref 0), (1, .int a), (2, .int b), (3, .int c)]) (st' := [.int a, .ref p]) rfl ?_
  refine En_callV rfl rfl rfl rfl rfl rfl rfl rfl hp (by decide +kernel) rfl (c_47 σ0 hσ0 p hp a) (by decide) (by decide) (fun v2 σ3 h1 => ?_)
  obtain ⟨h4, h5, z7, rfl, h6⟩ := h1
  have h8 := Fr_trans hF0 h5 (by decide +kernel)
  refine En_iEq _ rfl rfl (fun h9 => ?_) (fun h9 => ?_)
  · refine En_Ps 1 (pc' := 31) (lv' := [(0, .ref 0), (1, .int a), (2, .int b), (3, .int c)]) (st' := [.int (((Int8.ofInt (-2)).toInt32))]) rfl ?_
    refine En_top (by decide : ((Int8.ofInt (-2)).toInt32).toInt = -2) (fun z10 h11 => ?_)
    exact En_ret (v := some (Value.int z10)) rfl rfl rfl ⟨h4, h8, z10, rfl, ⟨by first | exact q_f35c5d346c h11 | omega, by first | exact q_680688d8e6 h11 | omega⟩⟩
  · refine En_Ps 1 (pc' := 12) (lv' := [(0, .ref 0), (1, .int a), (2, .int b), (3, .int c)]) (st' := [.int b]) rfl ?_
    refine En_callS rfl rfl rfl rfl rfl rfl rfl rfl rfl (c_148 σ3 h4 b) (by decide) (by decide) (fun v13 σ14 h12 => ?_)
    obtain ⟨h15, h16, z18, rfl, h17⟩ := h12
    have h19 := Fr_trans h8 h16 (by decide +kernel)
    refine En_iEq _ rfl rfl (fun h20 => ?_) (fun h20 => ?_)
    · refine En_Ps 1 (pc' := 31) (lv' := [(0, .ref 0), (1, .int a), (2, .int b), (3, .int c)]) (st' := [.int (((Int8.ofInt (-2)).toInt32))]) rfl ?_
      refine En_top (by decide : ((Int8.ofInt (-2)).toInt32).toInt = -2) (fun z21 h22 => ?_)
      exact En_ret (v := some (Value.int z21)) rfl rfl rfl ⟨h15, h19, z21, rfl, ⟨by first | exact q_f35c5d346c h22 | omega, by first | exact q_680688d8e6 h22 | omega⟩⟩
    · refine En_Ps 1 (pc' := 19) (lv' := [(0, .ref 0), (1, .int a), (2, .int b), (3, .int c)]) (st' := [.ref 0]) rfl ?_
      refine En_getK (j := 9) ((h16 _ _ (inW tgz_0 (by decide +kernel))).trans ((h5 _ _ (inW tgz_0 (by decide +kernel))).trans h_p)) rfl rfl rfl tgz_0 (by decide +kernel) ?_
      refine En_Ps 1 (pc' := 23) (lv' := [(0, .ref 0), (1, .int a), (2, .int b), (3, .int c)]) (st' := [.int c, .ref p]) rfl ?_
      refine En_callV rfl rfl rfl rfl rfl rfl rfl rfl hp (by decide +kernel) rfl (c_49 σ14 h15 p hp c sg ((h16 _ _ (inW hp (by decide +kernel))).trans ((h5 _ _ (inW hp (by decide +kernel))).trans h_sg)) (by first | exact q_a555021d16 hp0 | omega)) (by decide) (by decide) (fun v24 σ25 h23 => ?_)
      obtain ⟨h26, h27, z29, rfl, h28⟩ := h23
      have h30 := Fr_trans h19 h27 (by decide +kernel)
      refine En_iNe _ rfl rfl (fun h31 => ?_) (fun h31 => ?_)
      · refine En_Ps 1 (pc' := 33) (lv' := [(0, .ref 0), (1, .int a), (2, .int b), (3, .int c)]) (st' := [.ref 0]) rfl ?_
        refine En_callV rfl rfl rfl rfl rfl rfl rfl rfl tgz_0 (by decide +kernel) rfl (c_160 σ25 h26 p hp ((h27 _ _ (inW tgz_0 (by decide +kernel))).trans ((h16 _ _ (inW tgz_0 (by decide +kernel))).trans ((h5 _ _ (inW tgz_0 (by decide +kernel))).trans h_p))) sg ((h27 _ _ (inW hp (by decide +kernel))).trans ((h16 _ _ (inW hp (by decide +kernel))).trans ((h5 _ _ (inW hp (by decide +kernel))).trans h_sg))) (by first | exact q_a555021d16 hp0 | omega)) (by decide) (by decide) (fun v33 σ34 h32 => ?_)
        obtain ⟨h35, h36, z38, rfl, h37⟩ := h32
        have h39 := Fr_trans h30 h36 (by decide +kernel)
        refine En_Ps 1 (pc' := 37) (lv' := [(0, .ref 0), (1, .int a), (2, .int b), (3, .int c)]) (st' := [.int c, .int z38]) rfl ?_
        refine En_callS rfl rfl rfl rfl rfl rfl rfl rfl rfl (c_108 σ34 h35 z38 c) (by decide) (by decide) (fun v41 σ42 h40 => ?_)
        obtain ⟨h43, h44, z46, rfl, h45⟩ := h40
        have h47 := Fr_trans h39 h44 (by decide +kernel)
        refine En_Ps 1 (pc' := 41) (lv' := [(0, .ref 0), (1, .int a), (2, .int b), (3, .int c)]) (st' := [.int ((Int32.ofInt 1)), .int z46]) rfl ?_
        refine En_icNe _ rfl (by decide : (Int32.ofInt 1).toInt = 1) rfl (fun h48 => ?_) (fun h48 => ?_)
        · refine En_Ps 3 (pc' := 50) (lv' := [(0, .ref 0), (1, .int a), (2, .int b), (3, .int c)]) (st' := [.int b, .int a, .ref 0]) rfl ?_
          refine En_callV rfl rfl rfl rfl rfl rfl rfl rfl tgz_0 (by decide +kernel) rfl (c_171 σ42 h43 a b (geI rfl (by omega)) (leI rfl (by omega)) (geI rfl (by omega)) (leI rfl (by omega)) p hp ((h44 _ _ (inW tgz_0 (by decide +kernel))).trans ((h36 _ _ (inW tgz_0 (by decide +kernel))).trans ((h27 _ _ (inW tgz_0 (by decide +kernel))).trans ((h16 _ _ (inW tgz_0 (by decide +kernel))).trans ((h5 _ _ (inW tgz_0 (by decide +kernel))).trans h_p))))) sg ((h44 _ _ (inW hp (by decide +kernel))).trans ((h36 _ _ (inW hp (by decide +kernel))).trans ((h27 _ _ (inW hp (by decide +kernel))).trans ((h16 _ _ (inW hp (by decide +kernel))).trans ((h5 _ _ (inW hp (by decide +kernel))).trans h_sg))))) (by first | exact q_a555021d16 hp0 | omega)) (by decide) (by decide) (fun v50 σ51 h49 => ?_)
          obtain ⟨h52, h53, z55, rfl, h54⟩ := h49
          have h56 := Fr_trans h47 h53 (by decide +kernel)
          refine En_Ps 1 (pc' := 54) (lv' := [(0, .ref 0), (1, .int a), (2, .int b), (3, .int c)]) (st' := [.int c, .int z55]) rfl ?_
          refine En_callS rfl rfl rfl rfl rfl rfl rfl rfl rfl (c_108 σ51 h52 z55 c) (by decide) (by decide) (fun v58 σ59 h57 => ?_)
          obtain ⟨h60, h61, z63, rfl, h62⟩ := h57
          have h64 := Fr_trans h56 h61 (by decide +kernel)
          exact En_ret (v := some (Value.int z63)) rfl rfl rfl ⟨h60, h64, z63, rfl, ⟨by first | exact q_70a249c7f8 h62.1 | omega, by first | exact q_ad5b726bf8 h62.2 | omega⟩⟩
        · refine En_Ps 1 (pc' := 46) (lv' := [(0, .ref 0), (1, .int a), (2, .int b), (3, .int c)]) (st' := [.int (((Int8.ofInt (-2)).toInt32))]) rfl ?_
          refine En_top (by decide : ((Int8.ofInt (-2)).toInt32).toInt = -2) (fun z65 h66 => ?_)
          exact En_ret (v := some (Value.int z65)) rfl rfl rfl ⟨h43, h47, z65, rfl, ⟨by first | exact q_f35c5d346c h66 | omega, by first | exact q_680688d8e6 h66 | omega⟩⟩
      · refine En_Ps 1 (pc' := 31) (lv' := [(0, .ref 0), (1, .int a), (2, .int b), (3, .int c)]) (st' := [.int (((Int8.ofInt (-2)).toInt32))]) rfl ?_
        refine En_top (by decide : ((Int8.ofInt (-2)).toInt32).toInt = -2) (fun z67 h68 => ?_)
        exact En_ret (v := some (Value.int z67)) rfl rfl rfl ⟨h26, h30, z67, rfl, ⟨by first | exact q_f35c5d346c h68 | omega, by first | exact q_680688d8e6 h68 | omega⟩⟩
end
/-! 32.lx.c11 -/
section
/-- DoorSchool.hangAll()Z -/
abbrev P_132 (σ0 : SG) (p : Nat) (sg : Int32) : PO := fun v σ => WT σ ∧ Fr [(10, 3), (10, 4), (10, 5), (11, 0), (12, 0), (13, 0)] σ0 σ ∧ ∃ ret : Int32, v = some (Value.int ret) ∧ -ret.toInt ≤ 0 ∧ ret.toInt - 1 ≤ 0
set_option maxRecDepth 10000 in
set_option maxHeartbeats 4000000 in
theorem c_132 (σ0 : SG) (hσ0 : WT σ0) (p : Nat) (hp : TG p = 18) (h_p : (σ0 0)[9]? = some (Value.ref p)) (sg : Int32) (h_sg : (σ0 p)[1]? = some (Value.int sg)) (hp0 : -sg.toInt ≤ 0) : En 8 223 none mr_132 (P_132 σ0 p sg) 0 [(0, .ref 0)] [] σ0 := by
  obtain ⟨hl_sg, hu_sg⟩ := WT_int hσ0 (g := 18) hp (by decide +kernel) (l := (-1)) (u := 4) (by decide +kernel) h_sg
  have hF0 : Fr [(10, 3), (10, 4), (10, 5), (11, 0), (12, 0), (13, 0)] σ0 σ0 := Fr_rfl
  refine En_Ps 1 (pc' := 1) (lv' := [(0, .ref 0)]) (st' := [.ref 0]) rfl ?_
  refine En_getK (j := 9) h_p rfl rfl rfl tgz_0 (by decide +kernel) ?_
  refine En_getI (j := 3) (l := 0) (u := 4) rfl rfl rfl hp (by decide +kernel) hσ0 (by decide +kernel) (fun z2 h1 h3 h4 => ?_)
  refine En_Ps 1 (pc' := 8) (lv' := [(0, .ref 0)]) (st' := [.ref 0, .int z2]) rfl ?_
  refine En_getK (j := 9) h_p rfl rfl rfl tgz_0 (by decide +kernel) ?_
  refine En_getI (j := 8) (l := 0) (u := 4) rfl rfl rfl hp (by decide +kernel) hσ0 (by decide +kernel) (fun z6 h5 h7 h8 => ?_)
  refine En_icGe _ rfl rfl rfl (fun h9 => ?_) (fun h9 => ?_)
  · refine En_Ps 2 (pc' := 21) (lv' := [(1, .int ((Int32.ofInt 0))), (0, .ref 0)]) (st' := []) rfl ?_
    have key21 : ∀ (n21 : Nat) (σ11 : SG) (y10 : Int32), WT σ11 → Fr [(10, 3), (10, 4), (10, 5), (11, 0), (12, 0), (13, 0)] σ0 σ11 → (σ11 0)[9]? = some (Value.ref p) → (σ11 p)[1]? = some (Value.int sg) → (σ11 p)[3]? = some (Value.int z2) → (σ11 p)[8]? = some (Value.int z6) → 0 ≤ y10.toInt → y10.toInt ≤ 4 → y10.toInt - z2.toInt ≤ 0 → z2.toInt - y10.toInt < (n21 : Int) → En 8 223 none mr_132 (P_132 σ0 p sg) 21 [(0, .ref 0), (1, .int y10)] [] σ11 := by
      intro n21
      induction n21 with
      | zero =>
        intro σ11 y10 h12 h13 h14 h15 h16 h17 h18 h19 h20 h21
        first | exact (q_14257feae7 h20 h21).elim | (exfalso; omega)
      | succ n21 ih21 =>
        intro σ11 y10 h12 h13 h14 h15 h16 h17 h18 h19 h20 h21
        refine En_Ps 2 (pc' := 23) (lv' := [(0, .ref 0), (1, .int y10)]) (st' := [.ref 0, .int y10]) rfl ?_
        refine En_getK (j := 9) h14 rfl rfl rfl tgz_0 (by decide +kernel) ?_
        refine En_getK (j := 3) h16 rfl rfl rfl hp (by decide +kernel) ?_
        refine En_icGe _ rfl rfl rfl (fun h22 => ?_) (fun h22 => ?_)
        · refine En_Ps 1 (pc' := 87) (lv' := [(0, .ref 0), (1, .int y10)]) (st' := [.ref 0]) rfl ?_
          refine En_getU (j := 4) (u := 10) (g' := 10) (q := 0) rfl rfl rfl tgz_0 (by decide +kernel) h12 (by decide +kernel) un_10_10 (fun h23 => ?_)
          refine En_Ps 1 (pc' := 91) (lv' := [(0, .ref 0), (1, .int y10)]) (st' := [.ref 0, .ref 10]) rfl ?_
          refine En_getK (j := 9) h14 rfl rfl rfl tgz_0 (by decide +kernel) ?_
          refine En_getK (j := 3) h16 rfl rfl rfl hp (by decide +kernel) ?_
          refine En_Ps 1 (pc' := 98) (lv' := [(0, .ref 0), (1, .int y10)]) (st' := [.ref 0, .int z2, .ref 10]) rfl ?_
          refine En_getK (j := 9) h14 rfl rfl rfl tgz_0 (by decide +kernel) ?_
          refine En_getK (j := 8) h17 rfl rfl rfl hp (by decide +kernel) ?_
          refine En_callV rfl rfl rfl rfl rfl rfl rfl rfl tgz_10 (by decide +kernel) rfl (c_18 σ11 h12 z2 z6 (geI rfl (by first | exact q_58e6e51dcc h3 | omega)) (leI rfl (by first | exact q_c82ed93a8c h4 | omega)) (geI rfl (by first | exact q_58e6e51dcc h7 | omega)) (leI rfl (by first | exact q_c82ed93a8c h8 | omega))) (by decide) (by decide) (fun v26 σ27 h25 => ?_)
          obtain ⟨h28, h29, rfl, h30⟩ := h25
          have h31 := Fr_trans h13 h29 (by decide +kernel)
          refine En_Ps 1 (pc' := 108) (lv' := [(0, .ref 0), (1, .int y10)]) (st' := [.int ((Int32.ofInt 1))]) rfl ?_
          refine En_top (by decide : (Int32.ofInt 1).toInt = 1) (fun z32 h33 => ?_)
          exact En_ret (v := some (Value.int z32)) rfl rfl (retZ rfl rfl (by first | exact q_2b07c97645 h33 | omega) (by first | exact q_d9e7cbb253 h33 | omega)) ⟨h28, h31, z32, rfl, ⟨by first | exact q_ad3eee31ca h33 | omega, by first | exact q_81cf297dc4 h33 | omega⟩⟩
        · refine En_Ps 2 (pc' := 34) (lv' := [(0, .ref 0), (1, .int y10)]) (st' := [.int y10, .ref 0]) rfl ?_
          refine En_callV rfl rfl rfl rfl rfl rfl rfl rfl tgz_0 (by decide +kernel) rfl (c_114 σ11 h12 y10 (geI rfl (by first | exact q_58e6e51dcc h18 | omega)) (leI rfl (by first | exact q_5ab2e90ecc h22 h4 | omega)) p hp h14 sg h15 (by first | exact q_a555021d16 hp0 | omega)) (by decide) (by decide) (fun v35 σ36 h34 => ?_)
          obtain ⟨h37, h38, z40, rfl, h39⟩ := h34
          have h41 := Fr_trans h13 h38 (by decide +kernel)
          refine En_Ps 3 (pc' := 40) (lv' := [(3, .int ((Int32.ofInt 0))), (2, .int z40), (0, .ref 0), (1, .int y10)]) (st' := []) rfl ?_
          have key40 : ∀ (n40 : Nat) (σ43 : SG) (y42 : Int32), WT σ43 → Fr [(10, 3), (10, 4), (10, 5), (11, 0), (12, 0), (13, 0)] σ0 σ43 → (σ43 0)[9]? = some (Value.ref p) → (σ43 p)[1]? = some (Value.int sg) → (σ43 p)[3]? = some (Value.int z2) → (σ43 p)[8]? = some (Value.int z6) → 0 ≤ y42.toInt → y42.toInt ≤ 4 → y42.toInt - z6.toInt ≤ 0 → z2.toInt - y42.toInt < (n40 : Int) → En 8 223 none mr_132 (P_132 σ0 p sg) 40 [(0, .ref 0), (1, .int y10), (2, .int z40), (3, .int y42)] [] σ43 := by
            intro n40
            induction n40 with
            | zero =>
              intro σ43 y42 h44 h45 h46 h47 h48 h49 h50 h51 h52 h53
              first | exact (q_57f31fc63d h9 h52 h53).elim | (exfalso; omega)
            | succ n40 ih40 =>
              intro σ43 y42 h44 h45 h46 h47 h48 h49 h50 h51 h52 h53
              refine En_Ps 2 (pc' := 42) (lv' := [(0, .ref 0), (1, .int y10), (2, .int z40), (3, .int y42)]) (st' := [.ref 0, .int y42]) rfl ?_
              refine En_getK (j := 9) h46 rfl rfl rfl tgz_0 (by decide +kernel) ?_
              refine En_getK (j := 8) h49 rfl rfl rfl hp (by decide +kernel) ?_
              refine En_icGe _ rfl rfl rfl (fun h54 => ?_) (fun h54 => ?_)
              · refine En_Ps 1 (pc' := 83) (lv' := [(1, .int ((y10 + Int32.ofInt 1))), (0, .ref 0), (2, .int z40), (3, .int y42)]) (st' := []) rfl ?_
                refine En_lv1 (addI rfl (by decide : (Int32.ofInt 1).toInt = 1) (by first | exact q_465ab79ac1 h18 | omega) (by first | exact q_f7282962fd h19 | omega)) (fun z55 h56 => ?_)
                refine En_Ps 1 (pc' := 21) (lv' := [(1, .int z55), (0, .ref 0), (2, .int z40), (3, .int y42)]) (st' := []) rfl ?_
                refine En_lv (lv := [(0, .ref 0), (1, .int z55)]) ⟨rfl, rfl, trivial⟩ ?_
                exact ih21 σ43 z55 h44 h45 h46 h47 h48 h49 (by first | exact q_35104ce9d3 h56 h18 | omega) (by first | exact q_de42116b63 h56 h22 h4 | omega) (by first | exact q_ae2dbf4292 h22 h56 | omega) (by first | exact q_8d03a5a7cb h56 h21 | omega)
              · refine En_Ps 1 (pc' := 52) (lv' := [(0, .ref 0), (1, .int y10), (2, .int z40), (3, .int y42)]) (st' := [.ref 0]) rfl ?_
                refine En_getU (j := 4) (u := 10) (g' := 10) (q := 0) rfl rfl rfl tgz_0 (by decide +kernel) h44 (by decide +kernel) un_10_10 (fun h57 => ?_)
                refine En_getU (j := 0) (u := 11) (g' := 11) (q := 0) rfl rfl rfl tgz_10 (by decide +kernel) h44 (by decide +kernel) un_11_11 (fun h59 => ?_)
                refine En_Ps 3 (pc' := 61) (lv' := [(0, .ref 0), (1, .int y10), (2, .int z40), (3, .int y42)]) (st' := [.int ((y42 * ((Int32.ofInt 4)))), .ref 11]) rfl ?_
                refine En_top (mulI rfl (by decide : (Int32.ofInt 4).toInt = 4) (Z := 4 * y42.toInt) (by first | exact q_37bd5d571c | omega) (by first | exact q_be45967ac2 h50 | omega) (by first | exact q_9034d5bea5 h54 h8 | omega)) (fun z61 h62 => ?_)
                refine En_Ps 2 (pc' := 63) (lv' := [(0, .ref 0), (1, .int y10), (2, .int z40), (3, .int y42)]) (st' := [.int ((z61 + y10)), .ref 11]) rfl ?_
                refine En_top (addI rfl rfl (by first | exact q_1dc55d4c5f h18 h62 h50 | omega) (by first | exact q_9989d21511 h22 h62 h4 h54 h8 | omega)) (fun z63 h64 => ?_)
                refine En_Ps 3 (pc' := 66) (lv' := [(0, .ref 0), (1, .int y10), (2, .int z40), (3, .int y42)]) (st' := [.int y42, .ref 0, .int z40, .int z63, .ref 11]) rfl ?_
                refine En_callV rfl rfl rfl rfl rfl rfl rfl rfl tgz_0 (by decide +kernel) rfl (c_139 σ43 h44 y42 (geI rfl (by first | exact q_58e6e51dcc h50 | omega)) (leI rfl (by first | exact q_5ab2e90ecc h54 h8 | omega)) p hp h46 sg h47 (by first | exact q_a555021d16 hp0 | omega)) (by decide) (by decide) (fun v66 σ67 h65 => ?_)
                obtain ⟨h68, h69, z71, rfl, h70⟩ := h65
                have h72 := Fr_trans h45 h69 (by decide +kernel)
                refine En_Ps 1 (pc' := 70) (lv' := [(0, .ref 0), (1, .int y10), (2, .int z40), (3, .int y42)]) (st' := [.int ((z40 ^^^ z71)), .int z63, .ref 11]) rfl ?_
                refine En_hav (fun z73 => ?_)
                refine En_callS rfl rfl rfl rfl rfl rfl rfl rfl rfl (c_7 σ67 h68 z73) (by decide) (by decide) (fun v75 σ76 h74 => ?_)
                obtain ⟨h77, h78, z80, rfl, h79⟩ := h74
                have h81 := Fr_trans h72 h78 (by decide +kernel)
                refine En_iast (l := (-2147483648)) (u := 2147483647) rfl rfl tgz_11 (by decide +kernel) (by first | exact q_5eeacb4bec h64 h18 h62 h50 | omega) (lnI (by decide +kernel : LN _ = 16) (by first | exact q_6fc0f4f6fe h64 h22 h62 h4 h54 h8 | omega)) (FTsgl (by decide +kernel)) (fullI _) h77 h81 (by decide +kernel) (fun σ82 h83 h84 h85 h86 => ?_)
                refine En_Ps 1 (pc' := 77) (lv' := [(3, .int ((y42 + Int32.ofInt 1))), (0, .ref 0), (1, .int y10), (2, .int z40)]) (st' := []) rfl ?_
                refine En_lv1 (addI rfl (by decide : (Int32.ofInt 1).toInt = 1) (by first | exact q_465ab79ac1 h50 | omega) (by first | exact q_f7282962fd h51 | omega)) (fun z87 h88 => ?_)
                refine En_Ps 1 (pc' := 40) (lv' := [(3, .int z87), (0, .ref 0), (1, .int y10), (2, .int z40)]) (st' := []) rfl ?_
                refine En_lv (lv := [(0, .ref 0), (1, .int y10), (2, .int z40), (3, .int z87)]) ⟨rfl, rfl, rfl, rfl, trivial⟩ ?_
                exact ih40 σ82 z87 h83 h84 ((h86 _ _ (Or.inl (neTG tgz_0 tgz_11 (by decide)))).trans ((h78 _ _ (inW tgz_0 (by decide +kernel))).trans ((h69 _ _ (inW tgz_0 (by decide +kernel))).trans h46))) ((h86 _ _ (Or.inl (neTG hp tgz_11 (by decide)))).trans ((h78 _ _ (inW hp (by decide +kernel))).trans ((h69 _ _ (inW hp (by decide +kernel))).trans h47))) ((h86 _ _ (Or.inl (neTG hp tgz_11 (by decide)))).trans ((h78 _ _ (inW hp (by decide +kernel))).trans ((h69 _ _ (inW hp (by decide +kernel))).trans h48))) ((h86 _ _ (Or.inl (neTG hp tgz_11 (by decide)))).trans ((h78 _ _ (inW hp (by decide +kernel))).trans ((h69 _ _ (inW hp (by decide +kernel))).trans h49))) (by first | exact q_35104ce9d3 h88 h50 | omega) (by first | exact q_de42116b63 h88 h54 h8 | omega) (by first | exact q_ae2dbf4292 h54 h88 | omega) (by first | exact q_8d03a5a7cb h88 h53 | omega)
          have := (by decide : (Int32.ofInt 0).toInt = 0)
          refine En_lv (lv := [(0, .ref 0), (1, .int y10), (2, .int z40), (3, .int ((Int32.ofInt 0)))]) ⟨rfl, rfl, rfl, rfl, trivial⟩ ?_
          exact key40 (Int.toNat (z2.toInt) + 1) σ36 ((Int32.ofInt 0)) h37 h41 ((h38 _ _ (inW tgz_0 (by decide +kernel))).trans h14) ((h38 _ _ (inW hp (by decide +kernel))).trans h15) ((h38 _ _ (inW hp (by decide +kernel))).trans h16) ((h38 _ _ (inW hp (by decide +kernel))).trans h17) (by decide) (by decide) (by omega) (by first | exact toN_lt _ | omega)
    have := (by decide : (Int32.ofInt 0).toInt = 0)
    refine En_lv (lv := [(0, .ref 0), (1, .int ((Int32.ofInt 0)))]) ⟨rfl, rfl, trivial⟩ ?_
    exact key21 (Int.toNat (z2.toInt) + 1) σ0 ((Int32.ofInt 0)) hσ0 hF0 h_p h_sg h1 h5 (by decide) (by decide) (by omega) (by first | exact toN_lt _ | omega)
  · refine En_Ps 1 (pc' := 18) (lv' := [(0, .ref 0)]) (st' := [.int ((Int32.ofInt 0))]) rfl ?_
    refine En_top (by decide : (Int32.ofInt 0).toInt = 0) (fun z89 h90 => ?_)
    exact En_ret (v := some (Value.int z89)) rfl rfl (retZ rfl rfl (by first | exact q_55451d0a83 h90 | omega) (by first | exact q_87849c3859 h90 | omega)) ⟨hσ0, hF0, z89, rfl, ⟨by first | exact q_097a37c2ae h90 | omega, by first | exact q_e269517bee h90 | omega⟩⟩
/-- DoorSchool.hanging()I -/
abbrev P_133 (σ0 : SG) (p : Nat) (sg : Int32) : PO := fun v σ => WT σ ∧ Fr [(10, 3), (10, 4), (10, 5), (11, 0), (12, 0), (13, 0)] σ0 σ ∧ ∃ ret : Int32, v = some (Value.int ret) ∧ True
set_option maxRecDepth 10000 in
set_option maxHeartbeats 4000000 in
theorem c_133 (σ0 : SG) (hσ0 : WT σ0) (p : Nat) (hp : TG p = 18) (h_p : (σ0 0)[9]? = some (Value.ref p)) (sg : Int32) (h_sg : (σ0 p)[1]? = some (Value.int sg)) (hp0 : -sg.toInt ≤ 0) : En 9 246 none mr_133 (P_133 σ0 p sg) 0 [(0, .ref 0)] [] σ0 := by
  obtain ⟨hl_sg, hu_sg⟩ := WT_int hσ0 (g := 18) hp (by decide +kernel) (l := (-1)) (u := 4) (by decide +kernel) h_sg
  have hF0 : Fr [(10, 3), (10, 4), (10, 5), (11, 0), (12, 0), (13, 0)] σ0 σ0 := Fr_rfl
  refine En_Ps 1 (pc' := 1) (lv' := [(0, .ref 0)]) (st' := [.ref 0]) rfl ?_
  refine En_getK (j := 9) h_p rfl rfl rfl tgz_0 (by decide +kernel) ?_
  refine En_callV rfl rfl rfl rfl rfl rfl rfl rfl hp (by decide +kernel) rfl (c_43 σ0 hσ0 p hp) (by decide) (by decide) (fun v2 σ3 h1 => ?_)
  obtain ⟨h4, h5, z7, rfl, h6⟩ := h1
  have h8 := Fr_trans hF0 h5 (by decide +kernel)
  refine En_iNe _ rfl rfl (fun h9 => ?_) (fun h9 => ?_)
  · refine En_Ps 1 (pc' := 14) (lv' := [(0, .ref 0)]) (st' := [.ref 0]) rfl ?_
    refine En_callV rfl rfl rfl rfl rfl rfl rfl rfl tgz_0 (by decide +kernel) rfl (c_132 σ3 h4 p hp ((h5 _ _ (inW tgz_0 (by decide +kernel))).trans h_p) sg ((h5 _ _ (inW hp (by decide +kernel))).trans h_sg) (by first | exact q_a555021d16 hp0 | omega)) (by decide) (by decide) (fun v11 σ12 h10 => ?_)
    obtain ⟨h13, h14, z16, rfl, h15⟩ := h10
    have h17 := Fr_trans h8 h14 (by decide +kernel)
    refine En_iEq _ rfl rfl (fun h18 => ?_) (fun h18 => ?_)
    · refine En_Ps 1 (pc' := 31) (lv' := [(0, .ref 0)]) (st' := [.int ((Int32.ofInt (-1)))]) rfl ?_
      refine En_top (by decide : (Int32.ofInt (-1)).toInt = -1) (fun z19 h20 => ?_)
      exact En_ret (v := some (Value.int z19)) rfl rfl rfl ⟨h13, h17, z19, rfl, trivial⟩
    · refine En_Ps 1 (pc' := 21) (lv' := [(0, .ref 0)]) (st' := [.ref 0]) rfl ?_
      refine En_getU (j := 4) (u := 10) (g' := 10) (q := 0) rfl rfl rfl tgz_0 (by decide +kernel) h13 (by decide +kernel) un_10_10 (fun h21 => ?_)
      refine En_getI (j := 5) (l := (-2147483648)) (u := 2147483647) rfl rfl rfl tgz_10 (by decide +kernel) h13 (by decide +kernel) (fun z24 h23 h25 h26 => ?_)
      refine En_Ps 1 (pc' := 31) (lv' := [(0, .ref 0)]) (st' := [.int z24]) rfl ?_
      exact En_ret (v := some (Value.int z24)) rfl rfl rfl ⟨h13, h17, z24, rfl, trivial⟩
  · refine En_Ps 1 (pc' := 12) (lv' := [(0, .ref 0)]) (st' := [.int (((Int8.ofInt (-2)).toInt32))]) rfl ?_
    refine En_top (by decide : ((Int8.ofInt (-2)).toInt32).toInt = -2) (fun z27 h28 => ?_)
    exact En_ret (v := some (Value.int z27)) rfl rfl rfl ⟨h4, h8, z27, rfl, trivial⟩
/-- DoorSchool.hard()I -/
abbrev P_134 (σ0 : SG) (p : Nat) (sg : Int32) : PO := fun v σ => WT σ ∧ Fr [] σ0 σ ∧ ∃ ret : Int32, v = some (Value.int ret) ∧ -ret.toInt - 2 ≤ 0 ∧ ret.toInt - 8191 ≤ 0
set_option maxRecDepth 10000 in
set_option maxHeartbeats 4000000 in
theorem c_134 (σ0 : SG) (hσ0 : WT σ0) (p : Nat) (hp : TG p = 18) (h_p : (σ0 0)[9]? = some (Value.ref p)) (sg : Int32) (h_sg : (σ0 p)[1]? = some (Value.int sg)) (hp0 : -sg.toInt ≤ 0) : En 4 92 none mr_134 (P_134 σ0 p sg) 0 [(0, .ref 0)] [] σ0 := by
  obtain ⟨hl_sg, hu_sg⟩ := WT_int hσ0 (g := 18) hp (by decide +kernel) (l := (-1)) (u := 4) (by decide +kernel) h_sg
  have hF0 : Fr [] σ0 σ0 := Fr_rfl
  refine En_Ps 1 (pc' := 1) (lv' := [(0, .ref 0)]) (st' := [.ref 0]) rfl ?_
  refine En_getK (j := 9) h_p rfl rfl rfl tgz_0 (by decide +kernel) ?_
  refine En_callV rfl rfl rfl rfl rfl rfl rfl rfl hp (by decide +kernel) rfl (c_43 σ0 hσ0 p hp) (by decide) (by decide) (fun v2 σ3 h1 => ?_)
  obtain ⟨h4, h5, z7, rfl, h6⟩ := h1
  have h8 := Fr_trans hF0 h5 (by decide +kernel)
  refine En_iNe _ rfl rfl (fun h9 => ?_) (fun h9 => ?_)
  · refine En_Ps 2 (pc' := 15) (lv' := [(0, .ref 0)]) (st' := [.ref 0, .int ((Int32.ofInt 1))]) rfl ?_
    refine En_getK (j := 9) ((h5 _ _ (inW tgz_0 (by decide +kernel))).trans h_p) rfl rfl rfl tgz_0 (by decide +kernel) ?_
    refine En_getR (j := 5) (g' := 20) (u := 0) rfl rfl rfl hp (by decide +kernel) h4 (by decide +kernel) (fun a11 h10 ha11 => ?_)
    refine En_getI (j := 2) (l := 0) (u := 13) rfl rfl rfl ha11 (by decide +kernel) h4 (by decide +kernel) (fun z13 h12 h14 h15 => ?_)
    refine En_Ps 1 (pc' := 25) (lv' := [(0, .ref 0)]) (st' := [.int ((((Int32.ofInt 1)) <<< (z13 &&& 31)))]) rfl ?_
    refine En_rng (shl1_p 13 rfl (by omega) (by omega) (by decide)) (fun z16 h17 h18 => ?_)
    refine En_Ps 2 (pc' := 27) (lv' := [(0, .ref 0)]) (st' := [.int ((z16 - ((Int32.ofInt 1))))]) rfl ?_
    refine En_top (subI rfl (by decide : (Int32.ofInt 1).toInt = 1) (by first | exact q_96dadfce4b h17 | omega) (by first | exact q_db04968c7a h18 | omega)) (fun z19 h20 => ?_)
    refine En_Ps 3 (pc' := 30) (lv' := [(2, .int ((Int32.ofInt 0))), (1, .int z19), (0, .ref 0)]) (st' := []) rfl ?_
    have key30 : ∀ (n30 : Nat) (σ23 : SG) (y21 : Int32) (y22 : Int32), WT σ23 → Fr [] σ0 σ23 → (σ23 0)[9]? = some (Value.ref p) → (σ23 p)[1]? = some (Value.int sg) → (σ23 p)[5]? = some (Value.ref a11) → (σ23 a11)[2]? = some (Value.int z13) → 0 ≤ y21.toInt → y21.toInt ≤ 8191 → 0 ≤ y22.toInt → y22.toInt ≤ 4 → -y22.toInt + 4 < (n30 : Int) → En 4 92 none mr_134 (P_134 σ0 p sg) 30 [(0, .ref 0), (1, .int y21), (2, .int y22)] [] σ23 := by
      intro n30
      induction n30 with
      | zero =>
        intro σ23 y21 y22 h24 h25 h26 h27 h28 h29 h30 h31 h32 h33 h34
        first | exact (q_20d6385c6f h34 h33).elim | (exfalso; omega)
      | succ n30 ih30 =>
        intro σ23 y21 y22 h24 h25 h26 h27 h28 h29 h30 h31 h32 h33 h34
        refine En_Ps 2 (pc' := 32) (lv' := [(0, .ref 0), (1, .int y21), (2, .int y22)]) (st' := [.ref 0, .int y22]) rfl ?_
        refine En_getK (j := 9) h26 rfl rfl rfl tgz_0 (by decide +kernel) ?_
        refine En_getI (j := 3) (l := 0) (u := 4) rfl rfl rfl hp (by decide +kernel) h24 (by decide +kernel) (fun z36 h35 h37 h38 => ?_)
        refine En_icGe _ rfl rfl rfl (fun h39 => ?_) (fun h39 => ?_)
        · refine En_Ps 1 (pc' := 68) (lv' := [(0, .ref 0), (1, .int y21), (2, .int y22)]) (st' := [.int y21]) rfl ?_
          exact En_ret (v := some (Value.int y21)) rfl rfl rfl ⟨h24, h25, y21, rfl, ⟨by first | exact q_ea7f0ffdb1 h30 | omega, by first | exact q_23b8b6a2d5 h31 | omega⟩⟩
        · refine En_Ps 2 (pc' := 43) (lv' := [(0, .ref 0), (1, .int y21), (2, .int y22)]) (st' := [.ref 0, .int y21]) rfl ?_
          refine En_getK (j := 9) h26 rfl rfl rfl tgz_0 (by decide +kernel) ?_
          refine En_getK (j := 5) h28 rfl rfl rfl hp (by decide +kernel) ?_
          refine En_Ps 2 (pc' := 51) (lv' := [(0, .ref 0), (1, .int y21), (2, .int y22)]) (st' := [.int y22, .ref 0, .ref a11, .int y21]) rfl ?_
          refine En_callV rfl rfl rfl rfl rfl rfl rfl rfl tgz_0 (by decide +kernel) rfl (c_114 σ23 h24 y22 (geI rfl (by first | exact q_58e6e51dcc h32 | omega)) (leI rfl (by first | exact q_5ab2e90ecc h39 h38 | omega)) p hp h26 sg h27 (by first | exact q_a555021d16 hp0 | omega)) (by decide) (by decide) (fun v41 σ42 h40 => ?_)
          obtain ⟨h43, h44, z46, rfl, h45⟩ := h40
          have h47 := Fr_trans h25 h44 (by decide +kernel)
          refine En_callV rfl rfl rfl rfl rfl rfl rfl rfl ha11 (by decide +kernel) rfl (c_32 σ42 h43 a11 ha11 z46) (by decide) (by decide) (fun v49 σ50 h48 => ?_)
          obtain ⟨h51, h52, z54, rfl, h53⟩ := h48
          have h55 := Fr_trans h47 h52 (by decide +kernel)
          refine En_Ps 2 (pc' := 59) (lv' := [(0, .ref 0), (1, .int y21), (2, .int y22)]) (st' := [.int ((z54 ^^^ ((Int32.ofInt (-1))))), .int y21]) rfl ?_
          refine En_nam (fun z56 h57 => ?_)
          refine En_Ps 1 (pc' := 60) (lv' := [(0, .ref 0), (1, .int y21), (2, .int y22)]) (st' := [.int ((y21 &&& z56))]) rfl ?_
          refine En_nam (fun z58 h59 => ?_)
          obtain ⟨h60, h61⟩ := andn_rng h59 rfl (by omega) (by omega : _ ≤ (8191 : Int))
          refine En_Ps 2 (pc' := 64) (lv' := [(2, .int ((y22 + Int32.ofInt 1))), (1, .int z58), (0, .ref 0)]) (st' := []) rfl ?_
          refine En_lv1 (addI rfl (by decide : (Int32.ofInt 1).toInt = 1) (by first | exact q_465ab79ac1 h32 | omega) (by first | exact q_f7282962fd h33 | omega)) (fun z62 h63 => ?_)
          refine En_Ps 1 (pc' := 30) (lv' := [(2, .int z62), (1, .int z58), (0, .ref 0)]) (st' := []) rfl ?_
          refine En_lv (lv := [(0, .ref 0), (1, .int z58), (2, .int z62)]) ⟨rfl, rfl, rfl, trivial⟩ ?_
          exact ih30 σ50 z58 z62 h51 h55 ((h52 _ _ (inW tgz_0 (by decide +kernel))).trans ((h44 _ _ (inW tgz_0 (by decide +kernel))).trans h26)) ((h52 _ _ (inW hp (by decide +kernel))).trans ((h44 _ _ (inW hp (by decide +kernel))).trans h27)) ((h52 _ _ (inW hp (by decide +kernel))).trans ((h44 _ _ (inW hp (by decide +kernel))).trans h28)) ((h52 _ _ (inW ha11 (by decide +kernel))).trans ((h44 _ _ (inW ha11 (by decide +kernel))).trans h29)) (by omega) (by omega) (by first | exact q_35104ce9d3 h63 h32 | omega) (by first | exact q_de42116b63 h63 h39 h38 | omega) (by first | exact q_3d8d70ace2 h63 h34 | omega)
    have := (by decide : (Int32.ofInt 0).toInt = 0)
    refine En_lv (lv := [(0, .ref 0), (1, .int z19), (2, .int ((Int32.ofInt 0)))]) ⟨rfl, rfl, rfl, trivial⟩ ?_
    exact key30 (Int.toNat (4) + 1) σ3 z19 ((Int32.ofInt 0)) h4 h8 ((h5 _ _ (inW tgz_0 (by decide +kernel))).trans h_p) ((h5 _ _ (inW hp (by decide +kernel))).trans h_sg) h10 h12 (by first | exact q_00529e3716 h20 h17 | omega) (by first | exact q_67d26d8395 h20 h18 | omega) (by decide) (by decide) (by first | exact toN_lt _ | omega)
  · refine En_Ps 1 (pc' := 12) (lv' := [(0, .ref 0)]) (st' := [.int (((Int8.ofInt (-2)).toInt32))]) rfl ?_
    refine En_top (by decide : ((Int8.ofInt (-2)).toInt32).toInt = -2) (fun z64 h65 => ?_)
    exact En_ret (v := some (Value.int z64)) rfl rfl rfl ⟨h4, h8, z64, rfl, ⟨by first | exact q_f35c5d346c h65 | omega, by first | exact q_55a330f117 h65 | omega⟩⟩
/-- DoorSchool.house(II)I -/
abbrev P_138 (σ0 : SG) (a : Int32) (b : Int32) (p : Nat) (sg : Int32) : PO := fun v σ => WT σ ∧ Fr [] σ0 σ ∧ ∃ ret : Int32, v = some (Value.int ret) ∧ -ret.toInt - 2 ≤ 0 ∧ ret.toInt - 63 ≤ 0
set_option maxRecDepth 10000 in
set_option maxHeartbeats 4000000 in
theorem c_138 (σ0 : SG) (hσ0 : WT σ0) (a : Int32) (b : Int32) (p : Nat) (hp : TG p = 18) (h_p : (σ0 0)[9]? = some (Value.ref p)) (sg : Int32) (h_sg : (σ0 p)[1]? = some (Value.int sg)) (hp0 : -sg.toInt ≤ 0) : En 1 24 none mr_138 (P_138 σ0 a b p sg) 0 [(0, .ref 0), (1, .int a), (2, .int b)] [] σ0 := by
  obtain ⟨hl_sg, hu_sg⟩ := WT_int hσ0 (g := 18) hp (by decide +kernel) (l := (-1)) (u := 4) (by decide +kernel) h_sg
  have hF0 : Fr [] σ0 σ0 := Fr_rfl
  refine En_Ps 1 (pc' := 1) (lv' := [(0, .ref 0), (1, .int a), (2, .int b)]) (st' := [.ref 0]) rfl ?_
  refine En_getK (j := 9) h_p rfl rfl rfl tgz_0 (by decide +kernel) ?_
  refine En_callV rfl rfl rfl rfl rfl rfl rfl rfl hp (by decide +kernel) rfl (c_43 σ0 hσ0 p hp) (by decide) (by decide) (fun v2 σ3 h1 => ?_)
  obtain ⟨h4, h5, z7, rfl, h6⟩ := h1
  have h8 := Fr_trans hF0 h5 (by decide +kernel)
  refine En_iEq _ rfl rfl (fun h9 => ?_) (fun h9 => ?_)
  · refine En_Ps 1 (pc' := 28) (lv' := [(0, .ref 0), (1, .int a), (2, .int b)]) (st' := [.int (((Int8.ofInt (-2)).toInt32))]) rfl ?_
    refine En_top (by decide : ((Int8.ofInt (-2)).toInt32).toInt = -2) (fun z10 h11 => ?_)
    exact En_ret (v := some (Value.int z10)) rfl rfl rfl ⟨h4, h8, z10, rfl, ⟨by first | exact q_f35c5d346c h11 | omega, by first | exact q_443ead751f h11 | omega⟩⟩
  · refine En_Ps 2 (pc' := 12) (lv' := [(0, .ref 0), (1, .int a), (2, .int b)]) (st' := [.int ((Int32.ofInt (-1))), .int a]) rfl ?_
    refine En_icEq _ rfl (by decide : (Int32.ofInt (-1)).toInt = -1) rfl (fun h12 => ?_) (fun h12 => ?_)
    · refine En_Ps 2 (pc' := 31) (lv' := [(0, .ref 0), (1, .int a), (2, .int b)]) (st' := [.int ((Int32.ofInt (-1))), .int a]) rfl ?_
      refine En_icNe _ rfl (by decide : (Int32.ofInt (-1)).toInt = -1) rfl (fun hx => by first | exact (q_9d3c087e80 hx h12).elim | (exfalso; omega)) (fun h13 => ?_)
      refine En_Ps 1 (pc' := 35) (lv' := [(0, .ref 0), (1, .int a), (2, .int b)]) (st' := [.ref 0]) rfl ?_
      refine En_getK (j := 9) ((h5 _ _ (inW tgz_0 (by decide +kernel))).trans h_p) rfl rfl rfl tgz_0 (by decide +kernel) ?_
      refine En_getI (j := 6) (l := 0) (u := 15) rfl rfl rfl hp (by decide +kernel) h4 (by decide +kernel) (fun z15 h14 h16 h17 => ?_)
      refine En_Ps 4 (pc' := 56) (lv' := [(3, .int z15), (0, .ref 0), (1, .int a), (2, .int b)]) (st' := [.int ((Int32.ofInt (-1))), .int a]) rfl ?_
      refine En_icNe _ rfl (by decide : (Int32.ofInt (-1)).toInt = -1) rfl (fun hx => by first | exact (q_9d3c087e80 hx h12).elim | (exfalso; omega)) (fun h18 => ?_)
      refine En_Ps 1 (pc' := 60) (lv' := [(3, .int z15), (0, .ref 0), (1, .int a), (2, .int b)]) (st' := [.ref 0]) rfl ?_
      refine En_getK (j := 9) ((h5 _ _ (inW tgz_0 (by decide +kernel))).trans h_p) rfl rfl rfl tgz_0 (by decide +kernel) ?_
      refine En_getI (j := 7) (l := 0) (u := 15) rfl rfl rfl hp (by decide +kernel) h4 (by decide +kernel) (fun z20 h19 h21 h22 => ?_)
      refine En_Ps 3 (pc' := 81) (lv' := [(4, .int z20), (3, .int z15), (0, .ref 0), (1, .int a), (2, .int b)]) (st' := [.int b]) rfl ?_
      rcases (show b.toInt = 0 ∨ b.toInt = 1 ∨ b.toInt = 2 ∨ b.toInt < 0 ∨ 2 < b.toInt by omega) with h23 | h23 | h23 | h23 | h23
      · refine En_swI (t := 108) (n := 0) rfl h23 rfl (by decide +kernel) ?_
        refine En_Ps 1 (pc' := 109) (lv' := [(4, .int z20), (3, .int z15), (0, .ref 0), (1, .int a), (2, .int b)]) (st' := [.int z15]) rfl ?_
        exact En_ret (v := some (Value.int z15)) rfl rfl rfl ⟨h4, h8, z15, rfl, ⟨by first | exact q_ea7f0ffdb1 h16 | omega, by first | exact q_44d6f75ba8 h17 | omega⟩⟩
      · refine En_swI (t := 110) (n := 1) rfl h23 rfl (by decide +kernel) ?_
        refine En_Ps 1 (pc' := 112) (lv' := [(4, .int z20), (3, .int z15), (0, .ref 0), (1, .int a), (2, .int b)]) (st' := [.int z20]) rfl ?_
        exact En_ret (v := some (Value.int z20)) rfl rfl rfl ⟨h4, h8, z20, rfl, ⟨by first | exact q_ea7f0ffdb1 h21 | omega, by first | exact q_44d6f75ba8 h22 | omega⟩⟩
      · refine En_swI (t := 113) (n := 2) rfl h23 rfl (by decide +kernel) ?_
        refine En_Ps 1 (pc' := 114) (lv' := [(4, .int z20), (3, .int z15), (0, .ref 0), (1, .int a), (2, .int b)]) (st' := [.ref 0]) rfl ?_
        refine En_getU (j := 2) (u := 4) (g' := 4) (q := 0) rfl rfl rfl tgz_0 (by decide +kernel) h4 (by decide +kernel) un_4_4 (fun h24 => ?_)
        refine En_Ps 2 (pc' := 120) (lv' := [(4, .int z20), (3, .int z15), (0, .ref 0), (1, .int a), (2, .int b)]) (st' := [.int z20, .int z15, .ref 4]) rfl ?_
        refine En_callV rfl rfl rfl rfl rfl rfl rfl rfl tgz_4 (by decide +kernel) rfl (c_77 σ3 h4 z15 z20) (by decide) (by decide) (fun v27 σ28 h26 => ?_)
        obtain ⟨h29, h30, z32, rfl, h31⟩ := h26
        have h33 := Fr_trans h8 h30 (by decide +kernel)
        refine En_callS rfl rfl rfl rfl rfl rfl rfl rfl rfl (c_7 σ28 h29 z32) (by decide) (by decide) (fun v35 σ36 h34 => ?_)
        obtain ⟨h37, h38, z40, rfl, h39⟩ := h34
        have h41 := Fr_trans h33 h38 (by decide +kernel)
        exact En_ret (v := some (Value.int z40)) rfl rfl rfl ⟨h37, h41, z40, rfl, ⟨by first | exact q_70a249c7f8 h39.1 | omega, by first | exact q_4b9206e141 h39.2 | omega⟩⟩
      · refine En_swO (t := 127) rfl (by omega) rfl (by decide +kernel) ?_
        refine En_Ps 1 (pc' := 129) (lv' := [(4, .int z20), (3, .int z15), (0, .ref 0), (1, .int a), (2, .int b)]) (st' := [.int (((Int8.ofInt (-2)).toInt32))]) rfl ?_
        refine En_top (by decide : ((Int8.ofInt (-2)).toInt32).toInt = -2) (fun z42 h43 => ?_)
        exact En_ret (v := some (Value.int z42)) rfl rfl rfl ⟨h4, h8, z42, rfl, ⟨by first | exact q_f35c5d346c h43 | omega, by first | exact q_443ead751f h43 | omega⟩⟩
      · refine En_swO (t := 127) rfl (by omega) rfl (by decide +kernel) ?_
        refine En_Ps 1 (pc' := 129) (lv' := [(4, .int z20), (3, .int z15), (0, .ref 0), (1, .int a), (2, .int b)]) (st' := [.int (((Int8.ofInt (-2)).toInt32))]) rfl ?_
        refine En_top (by decide : ((Int8.ofInt (-2)).toInt32).toInt = -2) (fun z44 h45 => ?_)
        exact En_ret (v := some (Value.int z44)) rfl rfl rfl ⟨h4, h8, z44, rfl, ⟨by first | exact q_f35c5d346c h45 | omega, by first | exact q_443ead751f h45 | omega⟩⟩
    · refine En_Ps 1 (pc' := 16) (lv' := [(0, .ref 0), (1, .int a), (2, .int b)]) (st' := [.ref 0]) rfl ?_
      refine En_getK (j := 9) ((h5 _ _ (inW tgz_0 (by decide +kernel))).trans h_p) rfl rfl rfl tgz_0 (by decide +kernel) ?_
      refine En_Ps 1 (pc' := 20) (lv' := [(0, .ref 0), (1, .int a), (2, .int b)]) (st' := [.int a, .ref p]) rfl ?_
      refine En_callV rfl rfl rfl rfl rfl rfl rfl rfl hp (by decide +kernel) rfl (c_48 σ3 h4 p hp a) (by decide) (by decide) (fun v47 σ48 h46 => ?_)
      obtain ⟨h49, h50, z52, rfl, h51⟩ := h46
      have h53 := Fr_trans h8 h50 (by decide +kernel)
      refine En_iNe _ rfl rfl (fun h54 => ?_) (fun h54 => ?_)
      · refine En_Ps 2 (pc' := 31) (lv' := [(0, .ref 0), (1, .int a), (2, .int b)]) (st' := [.int ((Int32.ofInt (-1))), .int a]) rfl ?_
        refine En_icNe _ rfl (by decide : (Int32.ofInt (-1)).toInt = -1) rfl (fun h55 => ?_) (fun hx => by exfalso; omega)
        refine En_Ps 1 (pc' := 45) (lv' := [(0, .ref 0), (1, .int a), (2, .int b)]) (st' := [.ref 0]) rfl ?_
        refine En_getK (j := 9) ((h50 _ _ (inW tgz_0 (by decide +kernel))).trans ((h5 _ _ (inW tgz_0 (by decide +kernel))).trans h_p)) rfl rfl rfl tgz_0 (by decide +kernel) ?_
        refine En_getR (j := 9) (g' := 23) (u := 0) rfl rfl rfl hp (by decide +kernel) h49 (by decide +kernel) (fun a57 h56 ha57 => ?_)
        refine En_Ps 1 (pc' := 52) (lv' := [(0, .ref 0), (1, .int a), (2, .int b)]) (st' := [.int a, .ref a57]) rfl ?_
        refine En_iald (l := 0) (u := 15) rfl rfl ha57 (by decide +kernel) h49 (by omega) (lnI (by decide +kernel : LN _ = 4) (by omega)) (FTsgl (by decide +kernel)) (fun z59 h58 h60 h61 => ?_)
        refine En_Ps 3 (pc' := 56) (lv' := [(3, .int z59), (0, .ref 0), (1, .int a), (2, .int b)]) (st' := [.int ((Int32.ofInt (-1))), .int a]) rfl ?_
        refine En_icNe _ rfl (by decide : (Int32.ofInt (-1)).toInt = -1) rfl (fun h62 => ?_) (fun hx => by exfalso; omega)
        refine En_Ps 1 (pc' := 70) (lv' := [(3, .int z59), (0, .ref 0), (1, .int a), (2, .int b)]) (st' := [.ref 0]) rfl ?_
        refine En_getK (j := 9) ((h50 _ _ (inW tgz_0 (by decide +kernel))).trans ((h5 _ _ (inW tgz_0 (by decide +kernel))).trans h_p)) rfl rfl rfl tgz_0 (by decide +kernel) ?_
        refine En_getR (j := 10) (g' := 24) (u := 0) rfl rfl rfl hp (by decide +kernel) h49 (by decide +kernel) (fun a64 h63 ha64 => ?_)
        refine En_Ps 1 (pc' := 77) (lv' := [(3, .int z59), (0, .ref 0), (1, .int a), (2, .int b)]) (st' := [.int a, .ref a64]) rfl ?_
        refine En_iald (l := 0) (u := 15) rfl rfl ha64 (by decide +kernel) h49 (by omega) (lnI (by decide +kernel : LN _ = 4) (by omega)) (FTsgl (by decide +kernel)) (fun z66 h65 h67 h68 => ?_)
        refine En_Ps 2 (pc' := 81) (lv' := [(4, .int z66), (3, .int z59), (0, .ref 0), (1, .int a), (2, .int b)]) (st' := [.int b]) rfl ?_
        rcases (show b.toInt = 0 ∨ b.toInt = 1 ∨ b.toInt = 2 ∨ b.toInt < 0 ∨ 2 < b.toInt by omega) with h69 | h69 | h69 | h69 | h69
        · refine En_swI (t := 108) (n := 0) rfl h69 rfl (by decide +kernel) ?_
          refine En_Ps 1 (pc' := 109) (lv' := [(4, .int z66), (3, .int z59), (0, .ref 0), (1, .int a), (2, .int b)]) (st' := [.int z59]) rfl ?_
          exact En_ret (v := some (Value.int z59)) rfl rfl rfl ⟨h49, h53, z59, rfl, ⟨by first | exact q_ea7f0ffdb1 h60 | omega, by first | exact q_44d6f75ba8 h61 | omega⟩⟩
        · refine En_swI (t := 110) (n := 1) rfl h69 rfl (by decide +kernel) ?_
          refine En_Ps 1 (pc' := 112) (lv' := [(4, .int z66), (3, .int z59), (0, .ref 0), (1, .int a), (2, .int b)]) (st' := [.int z66]) rfl ?_
          exact En_ret (v := some (Value.int z66)) rfl rfl rfl ⟨h49, h53, z66, rfl, ⟨by first | exact q_ea7f0ffdb1 h67 | omega, by first | exact q_44d6f75ba8 h68 | omega⟩⟩
        · refine En_swI (t := 113) (n := 2) rfl h69 rfl (by decide +kernel) ?_
          refine En_Ps 1 (pc' := 114) (lv' := [(4, .int z66), (3, .int z59), (0, .ref 0), (1, .int a), (2, .int b)]) (st' := [.ref 0]) rfl ?_
          refine En_getU (j := 2) (u := 4) (g' := 4) (q := 0) rfl rfl rfl tgz_0 (by decide +kernel) h49 (by decide +kernel) un_4_4 (fun h70 => ?_)
          refine En_Ps 2 (pc' := 120) (lv' := [(4, .int z66), (3, .int z59), (0, .ref 0), (1, .int a), (2, .int b)]) (st' := [.int z66, .int z59, .ref 4]) rfl ?_
          refine En_callV rfl rfl rfl rfl rfl rfl rfl rfl tgz_4 (by decide +kernel) rfl (c_77 σ48 h49 z59 z66) (by decide) (by decide) (fun v73 σ74 h72 => ?_)
          obtain ⟨h75, h76, z78, rfl, h77⟩ := h72
          have h79 := Fr_trans h53 h76 (by decide +kernel)
          refine En_callS rfl rfl rfl rfl rfl rfl rfl rfl rfl (c_7 σ74 h75 z78) (by decide) (by decide) (fun v81 σ82 h80 => ?_)
          obtain ⟨h83, h84, z86, rfl, h85⟩ := h80
          have h87 := Fr_trans h79 h84 (by decide +kernel)
          exact En_ret (v := some (Value.int z86)) rfl rfl rfl ⟨h83, h87, z86, rfl, ⟨by first | exact q_70a249c7f8 h85.1 | omega, by first | exact q_4b9206e141 h85.2 | omega⟩⟩
        · refine En_swO (t := 127) rfl (by omega) rfl (by decide +kernel) ?_
          refine En_Ps 1 (pc' := 129) (lv' := [(4, .int z66), (3, .int z59), (0, .ref 0), (1, .int a), (2, .int b)]) (st' := [.int (((Int8.ofInt (-2)).toInt32))]) rfl ?_
          refine En_top (by decide : ((Int8.ofInt (-2)).toInt32).toInt = -2) (fun z88 h89 => ?_)
          exact En_ret (v := some (Value.int z88)) rfl rfl rfl ⟨h49, h53, z88, rfl, ⟨by first | exact q_f35c5d346c h89 | omega, by first | exact q_443ead751f h89 | omega⟩⟩
        · refine En_swO (t := 127) rfl (by omega) rfl (by decide +kernel) ?_
          refine En_Ps 1 (pc' := 129) (lv' := [(4, .int z66), (3, .int z59), (0, .ref 0), (1, .int a), (2, .int b)]) (st' := [.int (((Int8.ofInt (-2)).toInt32))]) rfl ?_
          refine En_top (by decide : ((Int8.ofInt (-2)).toInt32).toInt = -2) (fun z90 h91 => ?_)
          exact En_ret (v := some (Value.int z90)) rfl rfl rfl ⟨h49, h53, z90, rfl, ⟨by first | exact q_f35c5d346c h91 | omega, by first | exact q_443ead751f h91 | omega⟩⟩
      · refine En_Ps 1 (pc' := 28) (lv' := [(0, .ref 0), (1, .int a), (2, .int b)]) (st' := [.int (((Int8.ofInt (-2)).toInt32))]) rfl ?_
        refine En_top (by decide : ((Int8.ofInt (-2)).toInt32).toInt = -2) (fun z92 h93 => ?_)
        exact En_ret (v := some (Value.int z92)) rfl rfl rfl ⟨h49, h53, z92, rfl, ⟨by first | exact q_f35c5d346c h93 | omega, by first | exact q_443ead751f h93 | omega⟩⟩
/-- DoorSchool.hung(I)I -/
abbrev P_140 (σ0 : SG) (a : Int32) (p : Nat) (sg : Int32) : PO := fun v σ => WT σ ∧ Fr [(10, 3), (10, 4), (10, 5), (11, 0), (12, 0), (13, 0)] σ0 σ ∧ ∃ ret : Int32, v = some (Value.int ret) ∧ -ret.toInt - 2 ≤ 0 ∧ ret.toInt - 3 ≤ 0
set_option maxRecDepth 10000 in
set_option maxHeartbeats 4000000 in
theorem c_140 (σ0 : SG) (hσ0 : WT σ0) (a : Int32) (p : Nat) (hp : TG p = 18) (h_p : (σ0 0)[9]? = some (Value.ref p)) (sg : Int32) (h_sg : (σ0 p)[1]? = some (Value.int sg)) (hp0 : -sg.toInt ≤ 0) : En 9 246 none mr_140 (P_140 σ0 a p sg) 0 [(0, .ref 0), (1, .int a)] [] σ0 := by
  obtain ⟨hl_sg, hu_sg⟩ := WT_int hσ0 (g := 18) hp (by decide +kernel) (l := (-1)) (u := 4) (by decide +kernel) h_sg
  have hF0 : Fr [(10, 3), (10, 4), (10, 5), (11, 0), (12, 0), (13, 0)] σ0 σ0 := Fr_rfl
  refine En_Ps 1 (pc' := 1) (lv' := [(0, .ref 0), (1, .int a)]) (st' := [.ref 0]) rfl ?_
  refine En_getK (j := 9) h_p rfl rfl rfl tgz_0 (by decide +kernel) ?_
  refine En_Ps 1 (pc' := 5) (lv' := [(0, .ref 0), (1, .int a)]) (st' := [.int a, .ref p]) rfl ?_
  refine En_callV rfl rfl rfl rfl rfl rfl rfl rfl hp (by decide +kernel) rfl (c_48 σ0 hσ0 p hp a) (by decide) (by decide) (fun v2 σ3 h1 => ?_)
  obtain ⟨h4, h5, z7, rfl, h6⟩ := h1
  have h8 := Fr_trans hF0 h5 (by decide +kernel)
  refine En_iNe _ rfl rfl (fun h9 => ?_) (fun h9 => ?_)
  · refine En_Ps 1 (pc' := 15) (lv' := [(0, .ref 0), (1, .int a)]) (st' := [.ref 0]) rfl ?_
    refine En_callV rfl rfl rfl rfl rfl rfl rfl rfl tgz_0 (by decide +kernel) rfl (c_132 σ3 h4 p hp ((h5 _ _ (inW tgz_0 (by decide +kernel))).trans h_p) sg ((h5 _ _ (inW hp (by decide +kernel))).trans h_sg) (by first | exact q_a555021d16 hp0 | omega)) (by decide) (by decide) (fun v11 σ12 h10 => ?_)
    obtain ⟨h13, h14, z16, rfl, h15⟩ := h10
    have h17 := Fr_trans h8 h14 (by decide +kernel)
    refine En_iEq _ rfl rfl (fun h18 => ?_) (fun h18 => ?_)
    · refine En_Ps 1 (pc' := 34) (lv' := [(0, .ref 0), (1, .int a)]) (st' := [.int ((Int32.ofInt (-1)))]) rfl ?_
      refine En_top (by decide : (Int32.ofInt (-1)).toInt = -1) (fun z19 h20 => ?_)
      exact En_ret (v := some (Value.int z19)) rfl rfl rfl ⟨h13, h17, z19, rfl, ⟨by first | exact q_e1de8c7867 h20 | omega, by first | exact q_cca129732b h20 | omega⟩⟩
    · refine En_Ps 1 (pc' := 22) (lv' := [(0, .ref 0), (1, .int a)]) (st' := [.ref 0]) rfl ?_
      refine En_getU (j := 4) (u := 10) (g' := 10) (q := 0) rfl rfl rfl tgz_0 (by decide +kernel) h13 (by decide +kernel) un_10_10 (fun h21 => ?_)
      refine En_getU (j := 2) (u := 13) (g' := 13) (q := 0) rfl rfl rfl tgz_10 (by decide +kernel) h13 (by decide +kernel) un_13_13 (fun h23 => ?_)
      refine En_Ps 1 (pc' := 29) (lv' := [(0, .ref 0), (1, .int a)]) (st' := [.int a, .ref 13]) rfl ?_
      refine En_iald (l := 0) (u := 3) rfl rfl tgz_13 (by decide +kernel) h13 (by omega) (lnI (by decide +kernel : LN _ = 4) (by omega)) (FTsgl (by decide +kernel)) (fun z26 h25 h27 h28 => ?_)
      refine En_Ps 1 (pc' := 34) (lv' := [(0, .ref 0), (1, .int a)]) (st' := [.int z26]) rfl ?_
      exact En_ret (v := some (Value.int z26)) rfl rfl rfl ⟨h13, h17, z26, rfl, ⟨by first | exact q_ea7f0ffdb1 h27 | omega, by first | exact q_e9a8eec0c4 h28 | omega⟩⟩
  · refine En_Ps 1 (pc' := 13) (lv' := [(0, .ref 0), (1, .int a)]) (st' := [.int (((Int8.ofInt (-2)).toInt32))]) rfl ?_
    refine En_top (by decide : ((Int8.ofInt (-2)).toInt32).toInt = -2) (fun z29 h30 => ?_)
    exact En_ret (v := some (Value.int z29)) rfl rfl rfl ⟨h4, h8, z29, rfl, ⟨by first | exact q_f35c5d346c h30 | omega, by first | exact q_09eb541a79 h30 | omega⟩⟩
/-- DoorSchool.isRest(III)Z -/
abbrev P_145 (σ0 : SG) (a : Int32) (b : Int32) (c : Int32) (p : Nat) (sg : Int32) : PO := fun v σ => WT σ ∧ Fr [] σ0 σ ∧ ∃ ret : Int32, v = some (Value.int ret) ∧ -ret.toInt ≤ 0 ∧ ret.toInt - 1 ≤ 0
set_option maxRecDepth 10000 in
set_option maxHeartbeats 4000000 in
theorem c_145 (σ0 : SG) (hσ0 : WT σ0) (a : Int32) (b : Int32) (c : Int32) (hl_a : 0 ≤ a.toInt) (hu_a : a.toInt ≤ 3) (hl_b : 0 ≤ b.toInt) (hu_b : b.toInt ≤ 2) (p : Nat) (hp : TG p = 18) (h_p : (σ0 0)[9]? = some (Value.ref p)) (sg : Int32) (h_sg : (σ0 p)[1]? = some (Value.int sg)) (hp0 : -sg.toInt ≤ 0) : En 5 114 none mr_145 (P_145 σ0 a b c p sg) 0 [(0, .ref 0), (1, .int a), (2, .int b), (3, .int c)] [] σ0 := by
  obtain ⟨hl_sg, hu_sg⟩ := WT_int hσ0 (g := 18) hp (by decide +kernel) (l := (-1)) (u := 4) (by decide +kernel) h_sg
  have hF0 : Fr [] σ0 σ0 := Fr_rfl
  refine En_Ps 1 (pc' := 1) (lv' := [(0, .ref 0), (1, .int a), (2, .int b), (3, .int c)]) (st' := [.ref 0]) rfl ?_
  refine En_callV rfl rfl rfl rfl rfl rfl rfl rfl tgz_0 (by decide +kernel) rfl (c_160 σ0 hσ0 p hp h_p sg h_sg (by first | exact q_a555021d16 hp0 | omega)) (by decide) (by decide) (fun v2 σ3 h1 => ?_)
  obtain ⟨h4, h5, z7, rfl, h6⟩ := h1
  have h8 := Fr_trans hF0 h5 (by decide +kernel)
  refine En_Ps 1 (pc' := 5) (lv' := [(0, .ref 0), (1, .int a), (2, .int b), (3, .int c)]) (st' := [.int c, .int z7]) rfl ?_
  refine En_callS rfl rfl rfl rfl rfl rfl rfl rfl rfl (c_108 σ3 h4 z7 c) (by decide) (by decide) (fun v10 σ11 h9 => ?_)
  obtain ⟨h12, h13, z15, rfl, h14⟩ := h9
  have h16 := Fr_trans h8 h13 (by decide +kernel)
  refine En_Ps 1 (pc' := 9) (lv' := [(0, .ref 0), (1, .int a), (2, .int b), (3, .int c)]) (st' := [.int ((Int32.ofInt 1)), .int z15]) rfl ?_
  refine En_icNe _ rfl (by decide : (Int32.ofInt 1).toInt = 1) rfl (fun h17 => ?_) (fun h17 => ?_)
  · refine En_Ps 3 (pc' := 17) (lv' := [(0, .ref 0), (1, .int a), (2, .int b), (3, .int c)]) (st' := [.int b, .int a, .ref 0]) rfl ?_
    refine En_callV rfl rfl rfl rfl rfl rfl rfl rfl tgz_0 (by decide +kernel) rfl (c_171 σ11 h12 a b (geI rfl (by first | exact q_58e6e51dcc hl_a | omega)) (leI rfl (by first | exact q_da5e9b976f hu_a | omega)) (geI rfl (by first | exact q_58e6e51dcc hl_b | omega)) (leI rfl (by first | exact q_a85463bd0d hu_b | omega)) p hp ((h13 _ _ (inW tgz_0 (by decide +kernel))).trans ((h5 _ _ (inW tgz_0 (by decide +kernel))).trans h_p)) sg ((h13 _ _ (inW hp (by decide +kernel))).trans ((h5 _ _ (inW hp (by decide +kernel))).trans h_sg)) (by first | exact q_a555021d16 hp0 | omega)) (by decide) (by decide) (fun v19 σ20 h18 => ?_)
    obtain ⟨h21, h22, z24, rfl, h23⟩ := h18
    have h25 := Fr_trans h16 h22 (by decide +kernel)
    refine En_Ps 1 (pc' := 21) (lv' := [(0, .ref 0), (1, .int a), (2, .int b), (3, .int c)]) (st' := [.int c, .int z24]) rfl ?_
    refine En_callS rfl rfl rfl rfl rfl rfl rfl rfl rfl (c_108 σ20 h21 z24 c) (by decide) (by decide) (fun v27 σ28 h26 => ?_)
    obtain ⟨h29, h30, z32, rfl, h31⟩ := h26
    have h33 := Fr_trans h25 h30 (by decide +kernel)
    refine En_iNe _ rfl rfl (fun h34 => ?_) (fun h34 => ?_)
    · refine En_Ps 2 (pc' := 45) (lv' := [(4, .int ((Int32.ofInt 0))), (0, .ref 0), (1, .int a), (2, .int b), (3, .int c)]) (st' := []) rfl ?_
      have key45 : ∀ (n45 : Nat) (σ36 : SG) (y35 : Int32), WT σ36 → Fr [] σ0 σ36 → (σ36 0)[9]? = some (Value.ref p) → (σ36 p)[1]? = some (Value.int sg) → 0 ≤ y35.toInt → y35.toInt ≤ 3 → -y35.toInt + 3 < (n45 : Int) → En 5 114 none mr_145 (P_145 σ0 a b c p sg) 45 [(0, .ref 0), (1, .int a), (2, .int b), (3, .int c), (4, .int y35)] [] σ36 := by
        intro n45
        induction n45 with
        | zero =>
          intro σ36 y35 h37 h38 h39 h40 h41 h42 h43
          first | exact (q_9f1e7068c9 h43 h42).elim | (exfalso; omega)
        | succ n45 ih45 =>
          intro σ36 y35 h37 h38 h39 h40 h41 h42 h43
          refine En_Ps 2 (pc' := 48) (lv' := [(0, .ref 0), (1, .int a), (2, .int b), (3, .int c), (4, .int y35)]) (st' := [.int ((Int32.ofInt 3)), .int y35]) rfl ?_
          refine En_icGe _ rfl (by decide : (Int32.ofInt 3).toInt = 3) rfl (fun h44 => ?_) (fun h44 => ?_)
          · refine En_Ps 1 (pc' := 74) (lv' := [(0, .ref 0), (1, .int a), (2, .int b), (3, .int c), (4, .int y35)]) (st' := [.int ((Int32.ofInt 1))]) rfl ?_
            refine En_top (by decide : (Int32.ofInt 1).toInt = 1) (fun z45 h46 => ?_)
            exact En_ret (v := some (Value.int z45)) rfl rfl (retZ rfl rfl (by first | exact q_2b07c97645 h46 | omega) (by first | exact q_d9e7cbb253 h46 | omega)) ⟨h37, h38, z45, rfl, ⟨by first | exact q_ad3eee31ca h46 | omega, by first | exact q_81cf297dc4 h46 | omega⟩⟩
          · refine En_Ps 3 (pc' := 55) (lv' := [(0, .ref 0), (1, .int a), (2, .int b), (3, .int c), (4, .int y35)]) (st' := [.int y35, .int a, .ref 0]) rfl ?_
            refine En_callV rfl rfl rfl rfl rfl rfl rfl rfl tgz_0 (by decide +kernel) rfl (c_171 σ36 h37 a y35 (geI rfl (by first | exact q_58e6e51dcc hl_a | omega)) (leI rfl (by first | exact q_da5e9b976f hu_a | omega)) (geI rfl (by first | exact q_58e6e51dcc h41 | omega)) (leI rfl (by first | exact q_f1519f12c0 h44 | omega)) p hp h39 sg h40 (by first | exact q_a555021d16 hp0 | omega)) (by decide) (by decide) (fun v48 σ49 h47 => ?_)
            obtain ⟨h50, h51, z53, rfl, h52⟩ := h47
            have h54 := Fr_trans h38 h51 (by decide +kernel)
            refine En_Ps 1 (pc' := 59) (lv' := [(0, .ref 0), (1, .int a), (2, .int b), (3, .int c), (4, .int y35)]) (st' := [.int c, .int z53]) rfl ?_
            refine En_callS rfl rfl rfl rfl rfl rfl rfl rfl rfl (c_108 σ49 h50 z53 c) (by decide) (by decide) (fun v56 σ57 h55 => ?_)
            obtain ⟨h58, h59, z61, rfl, h60⟩ := h55
            have h62 := Fr_trans h54 h59 (by decide +kernel)
            refine En_iNe _ rfl rfl (fun h63 => ?_) (fun h63 => ?_)
            · refine En_Ps 1 (pc' := 70) (lv' := [(4, .int ((y35 + Int32.ofInt 1))), (0, .ref 0), (1, .int a), (2, .int b), (3, .int c)]) (st' := []) rfl ?_
              refine En_lv1 (addI rfl (by decide : (Int32.ofInt 1).toInt = 1) (by first | exact q_465ab79ac1 h41 | omega) (by first | exact q_6ae830b01d h44 | omega)) (fun z64 h65 => ?_)
              refine En_Ps 1 (pc' := 45) (lv' := [(4, .int z64), (0, .ref 0), (1, .int a), (2, .int b), (3, .int c)]) (st' := []) rfl ?_
              refine En_lv (lv := [(0, .ref 0), (1, .int a), (2, .int b), (3, .int c), (4, .int z64)]) ⟨rfl, rfl, rfl, rfl, rfl, trivial⟩ ?_
              exact ih45 σ57 z64 h58 h62 ((h59 _ _ (inW tgz_0 (by decide +kernel))).trans ((h51 _ _ (inW tgz_0 (by decide +kernel))).trans h39)) ((h59 _ _ (inW hp (by decide +kernel))).trans ((h51 _ _ (inW hp (by decide +kernel))).trans h40)) (by first | exact q_35104ce9d3 h65 h41 | omega) (by first | exact q_84805d5d8e h65 h44 | omega) (by first | exact q_6272716eb4 h65 h43 | omega)
            · refine En_Ps 1 (pc' := 66) (lv' := [(0, .ref 0), (1, .int a), (2, .int b), (3, .int c), (4, .int y35)]) (st' := [.int ((Int32.ofInt 0))]) rfl ?_
              refine En_top (by decide : (Int32.ofInt 0).toInt = 0) (fun z66 h67 => ?_)
              exact En_ret (v := some (Value.int z66)) rfl rfl (retZ rfl rfl (by first | exact q_55451d0a83 h67 | omega) (by first | exact q_87849c3859 h67 | omega)) ⟨h58, h62, z66, rfl, ⟨by first | exact q_097a37c2ae h67 | omega, by first | exact q_e269517bee h67 | omega⟩⟩
      have := (by decide : (Int32.ofInt 0).toInt = 0)
      refine En_lv (lv := [(0, .ref 0), (1, .int a), (2, .int b), (3, .int c), (4, .int ((Int32.ofInt 0)))]) ⟨rfl, rfl, rfl, rfl, rfl, trivial⟩ ?_
      exact key45 (Int.toNat (3) + 1) σ28 ((Int32.ofInt 0)) h29 h33 ((h30 _ _ (inW tgz_0 (by decide +kernel))).trans ((h22 _ _ (inW tgz_0 (by decide +kernel))).trans ((h13 _ _ (inW tgz_0 (by decide +kernel))).trans ((h5 _ _ (inW tgz_0 (by decide +kernel))).trans h_p)))) ((h30 _ _ (inW hp (by decide +kernel))).trans ((h22 _ _ (inW hp (by decide +kernel))).trans ((h13 _ _ (inW hp (by decide +kernel))).trans ((h5 _ _ (inW hp (by decide +kernel))).trans h_sg)))) (by decide) (by decide) (by first | exact toN_lt _ | omega)
    · refine En_Ps 3 (pc' := 30) (lv' := [(0, .ref 0), (1, .int a), (2, .int b), (3, .int c)]) (st' := [.int b, .int a, .ref 0]) rfl ?_
      refine En_callV rfl rfl rfl rfl rfl rfl rfl rfl tgz_0 (by decide +kernel) rfl (c_171 σ28 h29 a b (geI rfl (by first | exact q_58e6e51dcc hl_a | omega)) (leI rfl (by first | exact q_da5e9b976f hu_a | omega)) (geI rfl (by first | exact q_58e6e51dcc hl_b | omega)) (leI rfl (by first | exact q_a85463bd0d hu_b | omega)) p hp ((h30 _ _ (inW tgz_0 (by decide +kernel))).trans ((h22 _ _ (inW tgz_0 (by decide +kernel))).trans ((h13 _ _ (inW tgz_0 (by decide +kernel))).trans ((h5 _ _ (inW tgz_0 (by decide +kernel))).trans h_p)))) sg ((h30 _ _ (inW hp (by decide +kernel))).trans ((h22 _ _ (inW hp (by decide +kernel))).trans ((h13 _ _ (inW hp (by decide +kernel))).trans ((h5 _ _ (inW hp (by decide +kernel))).trans h_sg)))) (by first | exact q_a555021d16 hp0 | omega)) (by decide) (by decide) (fun v69 σ70 h68 => ?_)
      obtain ⟨h71, h72, z74, rfl, h73⟩ := h68
      have h75 := Fr_trans h33 h72 (by decide +kernel)
      refine En_iNe _ rfl rfl (fun h76 => ?_) (fun h76 => ?_)
      · refine En_Ps 1 (pc' := 41) (lv' := [(0, .ref 0), (1, .int a), (2, .int b), (3, .int c)]) (st' := [.int ((Int32.ofInt 0))]) rfl ?_
        refine En_top (by decide : (Int32.ofInt 0).toInt = 0) (fun z77 h78 => ?_)
        exact En_ret (v := some (Value.int z77)) rfl rfl (retZ rfl rfl (by first | exact q_55451d0a83 h78 | omega) (by first | exact q_87849c3859 h78 | omega)) ⟨h71, h75, z77, rfl, ⟨by first | exact q_097a37c2ae h78 | omega, by first | exact q_e269517bee h78 | omega⟩⟩
      · refine En_Ps 2 (pc' := 41) (lv' := [(0, .ref 0), (1, .int a), (2, .int b), (3, .int c)]) (st' := [.int ((Int32.ofInt 1))]) rfl ?_
        refine En_top (by decide : (Int32.ofInt 1).toInt = 1) (fun z79 h80 => ?_)
        exact En_ret (v := some (Value.int z79)) rfl rfl (retZ rfl rfl (by first | exact q_2b07c97645 h80 | omega) (by first | exact q_d9e7cbb253 h80 | omega)) ⟨h71, h75, z79, rfl, ⟨by first | exact q_ad3eee31ca h80 | omega, by first | exact q_81cf297dc4 h80 | omega⟩⟩
  · refine En_Ps 1 (pc' := 13) (lv' := [(0, .ref 0), (1, .int a), (2, .int b), (3, .int c)]) (st' := [.int ((Int32.ofInt 0))]) rfl ?_
    refine En_top (by decide : (Int32.ofInt 0).toInt = 0) (fun z81 h82 => ?_)
    exact En_ret (v := some (Value.int z81)) rfl rfl (retZ rfl rfl (by first | exact q_55451d0a83 h82 | omega) (by first | exact q_87849c3859 h82 | omega)) ⟨h12, h16, z81, rfl, ⟨by first | exact q_097a37c2ae h82 | omega, by first | exact q_e269517bee h82 | omega⟩⟩
/-- DoorSchool.isSeed(I)Z -/
abbrev P_146 (σ0 : SG) (a : Int32) : PO := fun v σ => WT σ ∧ Fr [] σ0 σ ∧ ∃ ret : Int32, v = some (Value.int ret) ∧ -ret.toInt ≤ 0 ∧ ret.toInt - 1 ≤ 0 ∧ (ret.toInt - 1 ≤ 0 ∧ -ret.toInt + 1 ≤ 0 → -a.toInt ≤ 0 ∧ a.toInt - 2000000000 ≤ 0) ∧ (-a.toInt ≤ 0 ∧ a.toInt - 2000000000 ≤ 0 → ret.toInt - 1 ≤ 0 ∧ -ret.toInt + 1 ≤ 0)
set_option maxRecDepth 10000 in
set_option maxHeartbeats 4000000 in
theorem c_146 (σ0 : SG) (hσ0 : WT σ0) (a : Int32) : En 0 0 none mr_146 (P_146 σ0 a) 0 [(0, .int a)] [] σ0 := by
  have hF0 : Fr [] σ0 σ0 := Fr_rfl
  refine En_Ps 1 (pc' := 1) (lv' := [(0, .int a)]) (st' := [.int a]) rfl ?_
  refine En_iLt _ rfl rfl (fun h1 => ?_) (fun h1 => ?_)
  · refine En_Ps 1 (pc' := 16) (lv' := [(0, .int a)]) (st' := [.int ((Int32.ofInt 0))]) rfl ?_
    refine En_top (by decide : (Int32.ofInt 0).toInt = 0) (fun z2 h3 => ?_)
    exact En_ret (v := some (Value.int z2)) rfl rfl (retZ rfl rfl (by first | exact q_55451d0a83 h3 | omega) (by first | exact q_87849c3859 h3 | omega)) ⟨hσ0, hF0, z2, rfl, ⟨by first | exact q_097a37c2ae h3 | omega, by first | exact q_e269517bee h3 | omega, fun _ => by omega, fun _ => by omega⟩⟩
  · refine En_Ps 2 (pc' := 8) (lv' := [(0, .int a)]) (st' := [.int ((2000000000 : Int32)), .int a]) rfl ?_
    refine En_icGt _ rfl (by decide : (2000000000 : Int32).toInt = 2000000000) rfl (fun h4 => ?_) (fun h4 => ?_)
    · refine En_Ps 1 (pc' := 16) (lv' := [(0, .int a)]) (st' := [.int ((Int32.ofInt 0))]) rfl ?_
      refine En_top (by decide : (Int32.ofInt 0).toInt = 0) (fun z5 h6 => ?_)
      exact En_ret (v := some (Value.int z5)) rfl rfl (retZ rfl rfl (by first | exact q_55451d0a83 h6 | omega) (by first | exact q_87849c3859 h6 | omega)) ⟨hσ0, hF0, z5, rfl, ⟨by first | exact q_097a37c2ae h6 | omega, by first | exact q_e269517bee h6 | omega, fun _ => by omega, fun _ => by omega⟩⟩
    · refine En_Ps 2 (pc' := 16) (lv' := [(0, .int a)]) (st' := [.int ((Int32.ofInt 1))]) rfl ?_
      refine En_top (by decide : (Int32.ofInt 1).toInt = 1) (fun z7 h8 => ?_)
      exact En_ret (v := some (Value.int z7)) rfl rfl (retZ rfl rfl (by first | exact q_2b07c97645 h8 | omega) (by first | exact q_d9e7cbb253 h8 | omega)) ⟨hσ0, hF0, z7, rfl, ⟨by first | exact q_ad3eee31ca h8 | omega, by first | exact q_81cf297dc4 h8 | omega, fun _ => by omega, fun _ => by omega⟩⟩
/-- DoorSchool.learnt(II)I -/
abbrev P_150 (σ0 : SG) (a : Int32) (b : Int32) (p : Nat) (sg : Int32) : PO := fun v σ => WT σ ∧ Fr [] σ0 σ ∧ ∃ ret : Int32, v = some (Value.int ret) ∧ -ret.toInt - 2 ≤ 0 ∧ ret.toInt - 81 ≤ 0
set_option maxRecDepth 10000 in
set_option maxHeartbeats 4000000 in
theorem c_150 (σ0 : SG) (hσ0 : WT σ0) (a : Int32) (b : Int32) (p : Nat) (hp : TG p = 18) (h_p : (σ0 0)[9]? = some (Value.ref p)) (sg : Int32) (h_sg : (σ0 p)[1]? = some (Value.int sg)) (hp0 : -sg.toInt ≤ 0) : En 4 94 none mr_150 (P_150 σ0 a b p sg) 0 [(0, .ref 0), (1, .int a), (2, .int b)] [] σ0 := by
  obtain ⟨hl_sg, hu_sg⟩ := WT_int hσ0 (g := 18) hp (by decide +kernel) (l := (-1)) (u := 4) (by decide +kernel) h_sg
  have hF0 : Fr [] σ0 σ0 := Fr_rfl
  refine En_Ps 1 (pc' := 1) (lv' := [(0, .ref 0), (1, .int a), (2, .int b)]) (st' := [.int a]) rfl ?_
  refine En_callS rfl rfl rfl rfl rfl rfl rfl rfl rfl (c_148 σ0 hσ0 a) (by decide) (by decide) (fun v2 σ3 h1 => ?_)
  obtain ⟨h4, h5, z7, rfl, h6⟩ := h1
  have h8 := Fr_trans hF0 h5 (by decide +kernel)
  refine En_iEq _ rfl rfl (fun h9 => ?_) (fun h9 => ?_)
  · refine En_Ps 1 (pc' := 32) (lv' := [(0, .ref 0), (1, .int a), (2, .int b)]) (st' := [.int (((Int8.ofInt (-2)).toInt32))]) rfl ?_
    refine En_top (by decide : ((Int8.ofInt (-2)).toInt32).toInt = -2) (fun z10 h11 => ?_)
    exact En_ret (v := some (Value.int z10)) rfl rfl rfl ⟨h4, h8, z10, rfl, ⟨by first | exact q_f35c5d346c h11 | omega, by first | exact q_a224a6b9a0 h11 | omega⟩⟩
  · refine En_Ps 1 (pc' := 8) (lv' := [(0, .ref 0), (1, .int a), (2, .int b)]) (st' := [.ref 0]) rfl ?_
    refine En_getK (j := 9) ((h5 _ _ (inW tgz_0 (by decide +kernel))).trans h_p) rfl rfl rfl tgz_0 (by decide +kernel) ?_
    refine En_Ps 1 (pc' := 12) (lv' := [(0, .ref 0), (1, .int a), (2, .int b)]) (st' := [.int b, .ref p]) rfl ?_
    refine En_callV rfl rfl rfl rfl rfl rfl rfl rfl hp (by decide +kernel) rfl (c_46 σ3 h4 p hp b sg ((h5 _ _ (inW hp (by decide +kernel))).trans h_sg) (by first | exact q_a555021d16 hp0 | omega)) (by decide) (by decide) (fun v13 σ14 h12 => ?_)
    obtain ⟨h15, h16, z18, rfl, h17⟩ := h12
    have h19 := Fr_trans h8 h16 (by decide +kernel)
    refine En_iEq _ rfl rfl (fun h20 => ?_) (fun h20 => ?_)
    · refine En_Ps 1 (pc' := 32) (lv' := [(0, .ref 0), (1, .int a), (2, .int b)]) (st' := [.int (((Int8.ofInt (-2)).toInt32))]) rfl ?_
      refine En_top (by decide : ((Int8.ofInt (-2)).toInt32).toInt = -2) (fun z21 h22 => ?_)
      exact En_ret (v := some (Value.int z21)) rfl rfl rfl ⟨h15, h19, z21, rfl, ⟨by first | exact q_f35c5d346c h22 | omega, by first | exact q_a224a6b9a0 h22 | omega⟩⟩
    · refine En_Ps 1 (pc' := 19) (lv' := [(0, .ref 0), (1, .int a), (2, .int b)]) (st' := [.ref 0]) rfl ?_
      refine En_getU (j := 3) (u := 8) (g' := 8) (q := 0) rfl rfl rfl tgz_0 (by decide +kernel) h15 (by decide +kernel) un_8_8 (fun h23 => ?_)
      refine En_Ps 2 (pc' := 24) (lv' := [(0, .ref 0), (1, .int a), (2, .int b)]) (st' := [.int b, .int a, .ref 8]) rfl ?_
      refine En_callV rfl rfl rfl rfl rfl rfl rfl rfl tgz_8 (by decide +kernel) rfl (c_24 σ14 h15 a b) (by decide) (by decide) (fun v26 σ27 h25 => ?_)
      obtain ⟨h28, h29, z31, rfl, h30⟩ := h25
      have h32 := Fr_trans h19 h29 (by decide +kernel)
      refine En_Ps 1 (pc' := 32) (lv' := [(0, .ref 0), (1, .int a), (2, .int b)]) (st' := [.int z31]) rfl ?_
      exact En_ret (v := some (Value.int z31)) rfl rfl rfl ⟨h28, h32, z31, rfl, ⟨by first | exact q_70a249c7f8 h30.1 | omega, by first | exact q_62172f5eca h30.2 | omega⟩⟩
end
/-! 32.lx.c12 -/
section
/-- DoorSchool.leaves(I)I -/
abbrev P_151 (σ0 : SG) (a : Int32) (p : Nat) (sg : Int32) : PO := fun v σ => WT σ ∧ Fr [] σ0 σ ∧ ∃ ret : Int32, v = some (Value.int ret) ∧ -ret.toInt - 6 ≤ 0 ∧ ret.toInt - 81 ≤ 0
set_option maxRecDepth 10000 in
set_option maxHeartbeats 4000000 in
theorem c_151 (σ0 : SG) (hσ0 : WT σ0) (a : Int32) (p : Nat) (hp : TG p = 18) (h_p : (σ0 0)[9]? = some (Value.ref p)) (sg : Int32) (h_sg : (σ0 p)[1]? = some (Value.int sg)) (hp0 : -sg.toInt ≤ 0) : En 4 96 none mr_151 (P_151 σ0 a p sg) 0 [(0, .ref 0), (1, .int a)] [] σ0 := by
  obtain ⟨hl_sg, hu_sg⟩ := WT_int hσ0 (g := 18) hp (by decide +kernel) (l := (-1)) (u := 4) (by decide +kernel) h_sg
  have hF0 : Fr [] σ0 σ0 := Fr_rfl
  refine En_Ps 2 (pc' := 2) (lv' := [(0, .ref 0), (1, .int a)]) (st' := [.int a, .ref 0]) rfl ?_
  refine En_callV rfl rfl rfl rfl rfl rfl rfl rfl tgz_0 (by decide +kernel) rfl (c_180 σ0 hσ0 a p hp h_p sg h_sg (by first | exact q_a555021d16 hp0 | omega)) (by decide) (by decide) (fun v2 σ3 h1 => ?_)
  obtain ⟨h4, h5, z7, rfl, h6⟩ := h1
  have h8 := Fr_trans hF0 h5 (by decide +kernel)
  refine En_Ps 2 (pc' := 7) (lv' := [(2, .int z7), (0, .ref 0), (1, .int a)]) (st' := [.int z7]) rfl ?_
  refine En_iEq _ rfl rfl (fun h9 => ?_) (fun h9 => ?_)
  · refine En_Ps 2 (pc' := 14) (lv' := [(2, .int z7), (0, .ref 0), (1, .int a)]) (st' := [.ref 0, .ref 0]) rfl ?_
    refine En_getU (j := 6) (u := 150) (g' := 32) (q := 0) rfl rfl rfl tgz_0 (by decide +kernel) h4 (by decide +kernel) un_32_150 (fun h10 => ?_)
    refine En_Ps 1 (pc' := 18) (lv' := [(2, .int z7), (0, .ref 0), (1, .int a)]) (st' := [.int a, .ref 150, .ref 0]) rfl ?_
    refine En_aald (g' := 33) (u := 0) rfl rfl tgz_150 (by decide +kernel) h4 (by omega) (lnI (by decide +kernel : LN _ = 4) (by omega)) (FTsgl (by decide +kernel)) (fun a13 h12 ha13 => ?_)
    refine En_callV rfl rfl rfl rfl rfl rfl rfl rfl tgz_0 (by decide +kernel) rfl (c_104 σ3 h4 a13 ha13 p hp ((h5 _ _ (inW tgz_0 (by decide +kernel))).trans h_p) sg ((h5 _ _ (inW hp (by decide +kernel))).trans h_sg) (by first | exact q_a555021d16 hp0 | omega)) (by decide) (by decide) (fun v15 σ16 h14 => ?_)
    obtain ⟨h17, h18, z20, rfl, h19⟩ := h14
    have h21 := Fr_trans h8 h18 (by decide +kernel)
    refine En_Ps 3 (pc' := 25) (lv' := [(3, .int z20), (2, .int z7), (0, .ref 0), (1, .int a)]) (st' := [.int ((Int32.ofInt (-1))), .int z20]) rfl ?_
    refine En_icNe _ rfl (by decide : (Int32.ofInt (-1)).toInt = -1) rfl (fun h22 => ?_) (fun h22 => ?_)
    · refine En_Ps 2 (pc' := 38) (lv' := [(3, .int z20), (2, .int z7), (0, .ref 0), (1, .int a)]) (st' := [.ref 0, .ref 0]) rfl ?_
      refine En_getK (j := 6) ((h18 _ _ (inW tgz_0 (by decide +kernel))).trans h10) rfl rfl rfl tgz_0 (by decide +kernel) ?_
      refine En_Ps 1 (pc' := 42) (lv' := [(3, .int z20), (2, .int z7), (0, .ref 0), (1, .int a)]) (st' := [.int a, .ref 150, .ref 0]) rfl ?_
      refine En_aald (g' := 33) (u := 0) rfl rfl tgz_150 (by decide +kernel) h17 (by omega) (lnI (by decide +kernel : LN _ = 4) (by omega)) (FTsgl (by decide +kernel)) (fun a24 h23 ha24 => ?_)
      refine En_Ps 1 (pc' := 44) (lv' := [(3, .int z20), (2, .int z7), (0, .ref 0), (1, .int a)]) (st' := [.int z20, .ref a24, .ref 0]) rfl ?_
      refine En_callV rfl rfl rfl rfl rfl rfl rfl rfl tgz_0 (by decide +kernel) rfl (c_153 σ16 h17 a24 ha24 z20 p hp ((h18 _ _ (inW tgz_0 (by decide +kernel))).trans ((h5 _ _ (inW tgz_0 (by decide +kernel))).trans h_p)) sg ((h18 _ _ (inW hp (by decide +kernel))).trans ((h5 _ _ (inW hp (by decide +kernel))).trans h_sg)) (by first | exact q_a555021d16 hp0 | omega)) (by decide) (by decide) (fun v26 σ27 h25 => ?_)
      obtain ⟨h28, h29, z31, rfl, h30⟩ := h25
      have h32 := Fr_trans h21 h29 (by decide +kernel)
      exact En_ret (v := some (Value.int z31)) rfl rfl rfl ⟨h28, h32, z31, rfl, ⟨by first | exact q_8061444f0d h30.1 | omega, by first | exact q_62172f5eca h30.2 | omega⟩⟩
    · refine En_Ps 2 (pc' := 30) (lv' := [(3, .int z20), (2, .int z7), (0, .ref 0), (1, .int a)]) (st' := [.int a, .ref 0]) rfl ?_
      refine En_callV rfl rfl rfl rfl rfl rfl rfl rfl tgz_0 (by decide +kernel) rfl (c_124 σ16 h17 a p hp ((h18 _ _ (inW tgz_0 (by decide +kernel))).trans ((h5 _ _ (inW tgz_0 (by decide +kernel))).trans h_p)) sg ((h18 _ _ (inW hp (by decide +kernel))).trans ((h5 _ _ (inW hp (by decide +kernel))).trans h_sg)) (by first | exact q_a555021d16 hp0 | omega)) (by decide) (by decide) (fun v34 σ35 h33 => ?_)
      obtain ⟨h36, h37, z39, rfl, h38⟩ := h33
      have h40 := Fr_trans h21 h37 (by decide +kernel)
      refine En_Ps 1 (pc' := 47) (lv' := [(3, .int z20), (2, .int z7), (0, .ref 0), (1, .int a)]) (st' := [.int z39]) rfl ?_
      exact En_ret (v := some (Value.int z39)) rfl rfl rfl ⟨h36, h40, z39, rfl, ⟨by first | exact q_629d629181 h38.1 | omega, by first | exact q_62172f5eca h38.2 | omega⟩⟩
  · refine En_Ps 1 (pc' := 11) (lv' := [(2, .int z7), (0, .ref 0), (1, .int a)]) (st' := [.int z7]) rfl ?_
    exact En_ret (v := some (Value.int z7)) rfl rfl rfl ⟨h4, h8, z7, rfl, ⟨by first | exact q_629d629181 h6.1 | omega, by first | exact q_debdfeb6c0 h9 h6.2.1 | omega⟩⟩
/-- DoorSchool.lesson(III)I -/
abbrev P_154 (σ0 : SG) (a : Int32) (b : Int32) (c : Int32) (p : Nat) (sg : Int32) : PO := fun v σ => WT σ ∧ Fr [] σ0 σ ∧ ∃ ret : Int32, v = some (Value.int ret) ∧ -ret.toInt - 2 ≤ 0 ∧ ret.toInt - 15 ≤ 0
set_option maxRecDepth 10000 in
set_option maxHeartbeats 4000000 in
theorem c_154 (σ0 : SG) (hσ0 : WT σ0) (a : Int32) (b : Int32) (c : Int32) (p : Nat) (hp : TG p = 18) (h_p : (σ0 0)[9]? = some (Value.ref p)) (sg : Int32) (h_sg : (σ0 p)[1]? = some (Value.int sg)) (hp0 : -sg.toInt ≤ 0) : En 1 21 none mr_154 (P_154 σ0 a b c p sg) 0 [(0, .ref 0), (1, .int a), (2, .int b), (3, .int c)] [] σ0 := by
  obtain ⟨hl_sg, hu_sg⟩ := WT_int hσ0 (g := 18) hp (by decide +kernel) (l := (-1)) (u := 4) (by decide +kernel) h_sg
  have hF0 : Fr [] σ0 σ0 := Fr_rfl
  refine En_Ps 1 (pc' := 1) (lv' := [(0, .ref 0), (1, .int a), (2, .int b), (3, .int c)]) (st' := [.ref 0]) rfl ?_
  refine En_getK (j := 9) h_p rfl rfl rfl tgz_0 (by decide +kernel) ?_
  refine En_Ps 1 (pc' := 5) (lv' := [(0, .ref 0), (1, .int a), (2, .int b), (3, .int c)]) (st' := [.int a, .ref p]) rfl ?_
  refine En_callV rfl rfl rfl rfl rfl rfl rfl rfl hp (by decide +kernel) rfl (c_47 σ0 hσ0 p hp a) (by decide) (by decide) (fun v2 σ3 h1 => ?_)
  obtain ⟨h4, h5, z7, rfl, h6⟩ := h1
  have h8 := Fr_trans hF0 h5 (by decide +kernel)
  refine En_iEq _ rfl rfl (fun h9 => ?_) (fun h9 => ?_)
  · refine En_Ps 1 (pc' := 20) (lv' := [(0, .ref 0), (1, .int a), (2, .int b), (3, .int c)]) (st' := [.int (((Int8.ofInt (-2)).toInt32))]) rfl ?_
    refine En_top (by decide : ((Int8.ofInt (-2)).toInt32).toInt = -2) (fun z10 h11 => ?_)
    exact En_ret (v := some (Value.int z10)) rfl rfl rfl ⟨h4, h8, z10, rfl, ⟨by first | exact q_f35c5d346c h11 | omega, by first | exact q_12a74e12a3 h11 | omega⟩⟩
  · refine En_Ps 1 (pc' := 12) (lv' := [(0, .ref 0), (1, .int a), (2, .int b), (3, .int c)]) (st' := [.int c]) rfl ?_
    refine En_callS rfl rfl rfl rfl rfl rfl rfl rfl rfl (c_149 σ3 h4 c) (by decide) (by decide) (fun v13 σ14 h12 => ?_)
    obtain ⟨h15, h16, z18, rfl, h17⟩ := h12
    have h19 := Fr_trans h8 h16 (by decide +kernel)
    refine En_iNe _ rfl rfl (fun h20 => ?_) (fun h20 => ?_)
    · refine En_Ps 1 (pc' := 22) (lv' := [(0, .ref 0), (1, .int a), (2, .int b), (3, .int c)]) (st' := [.ref 0]) rfl ?_
      refine En_getK (j := 9) ((h16 _ _ (inW tgz_0 (by decide +kernel))).trans ((h5 _ _ (inW tgz_0 (by decide +kernel))).trans h_p)) rfl rfl rfl tgz_0 (by decide +kernel) ?_
      refine En_getR (j := 4) (g' := 19) (u := 0) rfl rfl rfl hp (by decide +kernel) h15 (by decide +kernel) (fun a22 h21 ha22 => ?_)
      refine En_Ps 1 (pc' := 29) (lv' := [(0, .ref 0), (1, .int a), (2, .int b), (3, .int c)]) (st' := [.int a, .ref a22]) rfl ?_
      refine En_aald (g' := 28) (u := 0) rfl rfl ha22 (by decide +kernel) h15 (by omega) (lnI (by decide +kernel : LN _ = 4) (by omega)) (FTsgl (by decide +kernel)) (fun a24 h23 ha24 => ?_)
      refine En_getR (j := 0) (g' := 20) (u := 0) rfl rfl rfl ha24 (by decide +kernel) h15 (by decide +kernel) (fun a26 h25 ha26 => ?_)
      refine En_Ps 2 (pc' := 36) (lv' := [(4, .ref a26), (0, .ref 0), (1, .int a), (2, .int b), (3, .int c)]) (st' := [.int b]) rfl ?_
      refine En_iLt _ rfl rfl (fun h27 => ?_) (fun h27 => ?_)
      · refine En_Ps 1 (pc' := 49) (lv' := [(4, .ref a26), (0, .ref 0), (1, .int a), (2, .int b), (3, .int c)]) (st' := [.int ((Int32.ofInt (-1)))]) rfl ?_
        refine En_top (by decide : (Int32.ofInt (-1)).toInt = -1) (fun z28 h29 => ?_)
        exact En_ret (v := some (Value.int z28)) rfl rfl rfl ⟨h15, h19, z28, rfl, ⟨by first | exact q_e1de8c7867 h29 | omega, by first | exact q_af62099904 h29 | omega⟩⟩
      · refine En_Ps 2 (pc' := 42) (lv' := [(4, .ref a26), (0, .ref 0), (1, .int a), (2, .int b), (3, .int c)]) (st' := [.ref a26, .int b]) rfl ?_
        refine En_getI (j := 2) (l := 0) (u := 13) rfl rfl rfl ha26 (by decide +kernel) h15 (by decide +kernel) (fun z31 h30 h32 h33 => ?_)
        refine En_icLt _ rfl rfl rfl (fun h34 => ?_) (fun h34 => ?_)
        · refine En_Ps 1 (pc' := 51) (lv' := [(4, .ref a26), (0, .ref 0), (1, .int a), (2, .int b), (3, .int c)]) (st' := [.int c]) rfl ?_
          refine En_iNe _ rfl rfl (fun h35 => ?_) (fun h35 => ?_)
          · refine En_Ps 1 (pc' := 66) (lv' := [(4, .ref a26), (0, .ref 0), (1, .int a), (2, .int b), (3, .int c)]) (st' := [.ref a26]) rfl ?_
            refine En_getR (j := 1) (g' := 22) (u := 0) rfl rfl rfl ha26 (by decide +kernel) h15 (by decide +kernel) (fun a37 h36 ha37 => ?_)
            refine En_Ps 1 (pc' := 70) (lv' := [(4, .ref a26), (0, .ref 0), (1, .int a), (2, .int b), (3, .int c)]) (st' := [.int b, .ref a37]) rfl ?_
            refine En_iald (l := 0) (u := 1) rfl rfl ha37 (by decide +kernel) h15 (by first | exact q_58e6e51dcc h27 | omega) (lnI (by decide +kernel : LN _ = 13) (by first | exact q_314deb8953 h34 h33 | omega)) (FTsgl (by decide +kernel)) (fun z39 h38 h40 h41 => ?_)
            exact En_ret (v := some (Value.int z39)) rfl rfl rfl ⟨h15, h19, z39, rfl, ⟨by first | exact q_ea7f0ffdb1 h40 | omega, by first | exact q_31525ae3c9 h41 | omega⟩⟩
          · refine En_Ps 1 (pc' := 56) (lv' := [(4, .ref a26), (0, .ref 0), (1, .int a), (2, .int b), (3, .int c)]) (st' := [.ref a26]) rfl ?_
            refine En_getR (j := 0) (g' := 21) (u := 0) rfl rfl rfl ha26 (by decide +kernel) h15 (by decide +kernel) (fun a43 h42 ha43 => ?_)
            refine En_Ps 1 (pc' := 60) (lv' := [(4, .ref a26), (0, .ref 0), (1, .int a), (2, .int b), (3, .int c)]) (st' := [.int b, .ref a43]) rfl ?_
            refine En_iald (l := 0) (u := 15) rfl rfl ha43 (by decide +kernel) h15 (by first | exact q_58e6e51dcc h27 | omega) (lnI (by decide +kernel : LN _ = 13) (by first | exact q_314deb8953 h34 h33 | omega)) (FTsgl (by decide +kernel)) (fun z45 h44 h46 h47 => ?_)
            refine En_Ps 1 (pc' := 71) (lv' := [(4, .ref a26), (0, .ref 0), (1, .int a), (2, .int b), (3, .int c)]) (st' := [.int z45]) rfl ?_
            exact En_ret (v := some (Value.int z45)) rfl rfl rfl ⟨h15, h19, z45, rfl, ⟨by first | exact q_ea7f0ffdb1 h46 | omega, by first | exact q_867a9ac627 h47 | omega⟩⟩
        · refine En_Ps 1 (pc' := 49) (lv' := [(4, .ref a26), (0, .ref 0), (1, .int a), (2, .int b), (3, .int c)]) (st' := [.int ((Int32.ofInt (-1)))]) rfl ?_
          refine En_top (by decide : (Int32.ofInt (-1)).toInt = -1) (fun z48 h49 => ?_)
          exact En_ret (v := some (Value.int z48)) rfl rfl rfl ⟨h15, h19, z48, rfl, ⟨by first | exact q_e1de8c7867 h49 | omega, by first | exact q_af62099904 h49 | omega⟩⟩
    · refine En_Ps 1 (pc' := 20) (lv' := [(0, .ref 0), (1, .int a), (2, .int b), (3, .int c)]) (st' := [.int (((Int8.ofInt (-2)).toInt32))]) rfl ?_
      refine En_top (by decide : ((Int8.ofInt (-2)).toInt32).toInt = -2) (fun z50 h51 => ?_)
      exact En_ret (v := some (Value.int z50)) rfl rfl rfl ⟨h15, h19, z50, rfl, ⟨by first | exact q_f35c5d346c h51 | omega, by first | exact q_12a74e12a3 h51 | omega⟩⟩
/-- DoorSchool.marks(I)I -/
abbrev P_155 (σ0 : SG) (a : Int32) (p : Nat) (sg : Int32) : PO := fun v σ => WT σ ∧ Fr [] σ0 σ ∧ ∃ ret : Int32, v = some (Value.int ret) ∧ -ret.toInt - 2 ≤ 0 ∧ ret.toInt - 63 ≤ 0
set_option maxRecDepth 10000 in
set_option maxHeartbeats 4000000 in
theorem c_155 (σ0 : SG) (hσ0 : WT σ0) (a : Int32) (p : Nat) (hp : TG p = 18) (h_p : (σ0 0)[9]? = some (Value.ref p)) (sg : Int32) (h_sg : (σ0 p)[1]? = some (Value.int sg)) (hp0 : -sg.toInt ≤ 0) : En 4 92 none mr_155 (P_155 σ0 a p sg) 0 [(0, .ref 0), (1, .int a)] [] σ0 := by
  obtain ⟨hl_sg, hu_sg⟩ := WT_int hσ0 (g := 18) hp (by decide +kernel) (l := (-1)) (u := 4) (by decide +kernel) h_sg
  have hF0 : Fr [] σ0 σ0 := Fr_rfl
  refine En_Ps 1 (pc' := 1) (lv' := [(0, .ref 0), (1, .int a)]) (st' := [.ref 0]) rfl ?_
  refine En_getK (j := 9) h_p rfl rfl rfl tgz_0 (by decide +kernel) ?_
  refine En_Ps 1 (pc' := 5) (lv' := [(0, .ref 0), (1, .int a)]) (st' := [.int a, .ref p]) rfl ?_
  refine En_callV rfl rfl rfl rfl rfl rfl rfl rfl hp (by decide +kernel) rfl (c_47 σ0 hσ0 p hp a) (by decide) (by decide) (fun v2 σ3 h1 => ?_)
  obtain ⟨h4, h5, z7, rfl, h6⟩ := h1
  have h8 := Fr_trans hF0 h5 (by decide +kernel)
  refine En_iEq _ rfl rfl (fun h9 => ?_) (fun h9 => ?_)
  · refine En_Ps 1 (pc' := 25) (lv' := [(0, .ref 0), (1, .int a)]) (st' := [.int (((Int8.ofInt (-2)).toInt32))]) rfl ?_
    refine En_top (by decide : ((Int8.ofInt (-2)).toInt32).toInt = -2) (fun z10 h11 => ?_)
    exact En_ret (v := some (Value.int z10)) rfl rfl rfl ⟨h4, h8, z10, rfl, ⟨by first | exact q_f35c5d346c h11 | omega, by first | exact q_443ead751f h11 | omega⟩⟩
  · refine En_Ps 3 (pc' := 14) (lv' := [(0, .ref 0), (1, .int a)]) (st' := [.int a, .ref 0, .ref 0]) rfl ?_
    refine En_callV rfl rfl rfl rfl rfl rfl rfl rfl tgz_0 (by decide +kernel) rfl (c_114 σ3 h4 a (geI rfl (by omega)) (leI rfl (by omega)) p hp ((h5 _ _ (inW tgz_0 (by decide +kernel))).trans h_p) sg ((h5 _ _ (inW hp (by decide +kernel))).trans h_sg) (by first | exact q_a555021d16 hp0 | omega)) (by decide) (by decide) (fun v13 σ14 h12 => ?_)
    obtain ⟨h15, h16, z18, rfl, h17⟩ := h12
    have h19 := Fr_trans h8 h16 (by decide +kernel)
    refine En_callV rfl rfl rfl rfl rfl rfl rfl rfl tgz_0 (by decide +kernel) rfl (c_156 σ14 h15 z18 p hp ((h16 _ _ (inW tgz_0 (by decide +kernel))).trans ((h5 _ _ (inW tgz_0 (by decide +kernel))).trans h_p)) sg ((h16 _ _ (inW hp (by decide +kernel))).trans ((h5 _ _ (inW hp (by decide +kernel))).trans h_sg)) (by first | exact q_a555021d16 hp0 | omega)) (by decide) (by decide) (fun v21 σ22 h20 => ?_)
    obtain ⟨h23, h24, z26, rfl, h25⟩ := h20
    have h27 := Fr_trans h19 h24 (by decide +kernel)
    refine En_Ps 1 (pc' := 25) (lv' := [(0, .ref 0), (1, .int a)]) (st' := [.int z26]) rfl ?_
    exact En_ret (v := some (Value.int z26)) rfl rfl rfl ⟨h23, h27, z26, rfl, ⟨by first | exact q_70a249c7f8 h25.1 | omega, by first | exact q_4b9206e141 h25.2 | omega⟩⟩
/-- DoorSchool.next(II)I -/
abbrev P_157 (σ0 : SG) (a : Int32) (b : Int32) (p : Nat) (sg : Int32) : PO := fun v σ => WT σ ∧ Fr [] σ0 σ ∧ ∃ ret : Int32, v = some (Value.int ret) ∧ -ret.toInt - 2 ≤ 0 ∧ ret.toInt - 15 ≤ 0
set_option maxRecDepth 10000 in
set_option maxHeartbeats 4000000 in
theorem c_157 (σ0 : SG) (hσ0 : WT σ0) (a : Int32) (b : Int32) (p : Nat) (hp : TG p = 18) (h_p : (σ0 0)[9]? = some (Value.ref p)) (sg : Int32) (h_sg : (σ0 p)[1]? = some (Value.int sg)) (hp0 : -sg.toInt ≤ 0) : En 4 94 none mr_157 (P_157 σ0 a b p sg) 0 [(0, .ref 0), (1, .int a), (2, .int b)] [] σ0 := by
  obtain ⟨hl_sg, hu_sg⟩ := WT_int hσ0 (g := 18) hp (by decide +kernel) (l := (-1)) (u := 4) (by decide +kernel) h_sg
  have hF0 : Fr [] σ0 σ0 := Fr_rfl
  refine En_Ps 1 (pc' := 1) (lv' := [(0, .ref 0), (1, .int a), (2, .int b)]) (st' := [.int a]) rfl ?_
  refine En_callS rfl rfl rfl rfl rfl rfl rfl rfl rfl (c_148 σ0 hσ0 a) (by decide) (by decide) (fun v2 σ3 h1 => ?_)
  obtain ⟨h4, h5, z7, rfl, h6⟩ := h1
  have h8 := Fr_trans hF0 h5 (by decide +kernel)
  refine En_iEq _ rfl rfl (fun h9 => ?_) (fun h9 => ?_)
  · refine En_Ps 1 (pc' := 20) (lv' := [(0, .ref 0), (1, .int a), (2, .int b)]) (st' := [.int (((Int8.ofInt (-2)).toInt32))]) rfl ?_
    refine En_top (by decide : ((Int8.ofInt (-2)).toInt32).toInt = -2) (fun z10 h11 => ?_)
    exact En_ret (v := some (Value.int z10)) rfl rfl rfl ⟨h4, h8, z10, rfl, ⟨by first | exact q_f35c5d346c h11 | omega, by first | exact q_12a74e12a3 h11 | omega⟩⟩
  · refine En_Ps 1 (pc' := 8) (lv' := [(0, .ref 0), (1, .int a), (2, .int b)]) (st' := [.ref 0]) rfl ?_
    refine En_getK (j := 9) ((h5 _ _ (inW tgz_0 (by decide +kernel))).trans h_p) rfl rfl rfl tgz_0 (by decide +kernel) ?_
    refine En_Ps 1 (pc' := 12) (lv' := [(0, .ref 0), (1, .int a), (2, .int b)]) (st' := [.int b, .ref p]) rfl ?_
    refine En_callV rfl rfl rfl rfl rfl rfl rfl rfl hp (by decide +kernel) rfl (c_46 σ3 h4 p hp b sg ((h5 _ _ (inW hp (by decide +kernel))).trans h_sg) (by first | exact q_a555021d16 hp0 | omega)) (by decide) (by decide) (fun v13 σ14 h12 => ?_)
    obtain ⟨h15, h16, z18, rfl, h17⟩ := h12
    have h19 := Fr_trans h8 h16 (by decide +kernel)
    refine En_iNe _ rfl rfl (fun h20 => ?_) (fun h20 => ?_)
    · refine En_Ps 6 (pc' := 31) (lv' := [(5, .int ((Int32.ofInt 0))), (4, .int (((Int16.ofInt 1297).toInt32))), (3, .int ((Int32.ofInt (-1)))), (0, .ref 0), (1, .int a), (2, .int b)]) (st' := []) rfl ?_
      have key31 : ∀ (n31 : Nat) (σ24 : SG) (y21 : Int32) (y22 : Int32) (y23 : Int32), WT σ24 → Fr [] σ0 σ24 → (σ24 0)[9]? = some (Value.ref p) → (σ24 p)[1]? = some (Value.int sg) → (-1) ≤ y21.toInt → y21.toInt ≤ 15 → y22.toInt ≤ 1297 → 0 ≤ y23.toInt → y23.toInt ≤ 16 → y21.toInt - y23.toInt + 1 ≤ 0 → -y23.toInt + 16 < (n31 : Int) → En 4 94 none mr_157 (P_157 σ0 a b p sg) 31 [(0, .ref 0), (1, .int a), (2, .int b), (3, .int y21), (4, .int y22), (5, .int y23)] [] σ24 := by
        intro n31
        induction n31 with
        | zero =>
          intro σ24 y21 y22 y23 h25 h26 h27 h28 h29 h30 h31 h32 h33 h34 h35
          first | exact (q_511f6d33ac h35 h33).elim | (exfalso; omega)
        | succ n31 ih31 =>
          intro σ24 y21 y22 y23 h25 h26 h27 h28 h29 h30 h31 h32 h33 h34 h35
          refine En_Ps 2 (pc' := 34) (lv' := [(0, .ref 0), (1, .int a), (2, .int b), (3, .int y21), (4, .int y22), (5, .int y23)]) (st' := [.ref 0, .int y23]) rfl ?_
          refine En_getK (j := 9) h27 rfl rfl rfl tgz_0 (by decide +kernel) ?_
          refine En_callV rfl rfl rfl rfl rfl rfl rfl rfl hp (by decide +kernel) rfl (c_51 σ24 h25 p hp sg h28 (by first | exact q_a555021d16 hp0 | omega)) (by decide) (by decide) (fun v37 σ38 h36 => ?_)
          obtain ⟨h39, h40, z42, rfl, h41⟩ := h36
          have h43 := Fr_trans h26 h40 (by decide +kernel)
          refine En_icGe _ rfl rfl rfl (fun h44 => ?_) (fun h44 => ?_)
          · refine En_Ps 1 (pc' := 89) (lv' := [(0, .ref 0), (1, .int a), (2, .int b), (3, .int y21), (4, .int y22), (5, .int y23)]) (st' := [.int y21]) rfl ?_
            exact En_ret (v := some (Value.int y21)) rfl rfl rfl ⟨h39, h43, y21, rfl, ⟨by first | exact q_fe58cd40d0 h29 | omega, by first | exact q_867a9ac627 h30 | omega⟩⟩
          · refine En_Ps 2 (pc' := 46) (lv' := [(0, .ref 0), (1, .int a), (2, .int b), (3, .int y21), (4, .int y22), (5, .int y23)]) (st' := [.int y23, .int b]) rfl ?_
            refine En_callS rfl rfl rfl rfl rfl rfl rfl rfl rfl (c_108 σ38 h39 b y23) (by decide) (by decide) (fun v46 σ47 h45 => ?_)
            obtain ⟨h48, h49, z51, rfl, h50⟩ := h45
            have h52 := Fr_trans h43 h49 (by decide +kernel)
            refine En_iNe _ rfl rfl (fun h53 => ?_) (fun h53 => ?_)
            · refine En_Ps 1 (pc' := 85) (lv' := [(5, .int ((y23 + Int32.ofInt 1))), (0, .ref 0), (1, .int a), (2, .int b), (3, .int y21), (4, .int y22)]) (st' := []) rfl ?_
              refine En_lv1 (addI rfl (by decide : (Int32.ofInt 1).toInt = 1) (by first | exact q_465ab79ac1 h32 | omega) (by first | exact q_f3f8e04381 h33 | omega)) (fun z54 h55 => ?_)
              refine En_Ps 1 (pc' := 31) (lv' := [(5, .int z54), (0, .ref 0), (1, .int a), (2, .int b), (3, .int y21), (4, .int y22)]) (st' := []) rfl ?_
              refine En_lv (lv := [(0, .ref 0), (1, .int a), (2, .int b), (3, .int y21), (4, .int y22), (5, .int z54)]) ⟨rfl, rfl, rfl, rfl, rfl, rfl, trivial⟩ ?_
              exact ih31 σ47 y21 y22 z54 h48 h52 ((h49 _ _ (inW tgz_0 (by decide +kernel))).trans ((h40 _ _ (inW tgz_0 (by decide +kernel))).trans h27)) ((h49 _ _ (inW hp (by decide +kernel))).trans ((h40 _ _ (inW hp (by decide +kernel))).trans h28)) (by first | exact q_77b189e83d h29 | omega) (by first | exact q_5a4d8a7e08 h30 | omega) (by first | exact q_ce07321c0d h31 | omega) (by first | exact q_35104ce9d3 h55 h32 | omega) (by first | exact q_34dc714687 h55 h44 h41.2 | omega) (by first | exact q_6591527e3e h34 h55 | omega) (by first | exact q_c5d740bdff h55 h35 | omega)
            · refine En_Ps 1 (pc' := 53) (lv' := [(0, .ref 0), (1, .int a), (2, .int b), (3, .int y21), (4, .int y22), (5, .int y23)]) (st' := [.ref 0]) rfl ?_
              refine En_getU (j := 3) (u := 8) (g' := 8) (q := 0) rfl rfl rfl tgz_0 (by decide +kernel) h48 (by decide +kernel) un_8_8 (fun h56 => ?_)
              refine En_Ps 5 (pc' := 62) (lv' := [(0, .ref 0), (1, .int a), (2, .int b), (3, .int y21), (4, .int y22), (5, .int y23)]) (st' := [.int ((((Int32.ofInt 1)) <<< (y23 &&& 31))), .int b, .int a, .ref 8]) rfl ?_
              refine En_rng (shl1_p 15 rfl (by omega) (by omega) (by decide)) (fun z58 h59 h60 => ?_)
              refine En_Ps 1 (pc' := 63) (lv' := [(0, .ref 0), (1, .int a), (2, .int b), (3, .int y21), (4, .int y22), (5, .int y23)]) (st' := [.int ((b ||| z58)), .int a, .ref 8]) rfl ?_
              refine En_rng (l := 0) (u := 65535) (or_rng 16 rfl rfl (by omega) (by omega) (by omega) (by omega) (by decide)) (fun z61 h62 h63 => ?_)
              refine En_callV rfl rfl rfl rfl rfl rfl rfl rfl tgz_8 (by decide +kernel) rfl (c_20 σ47 h48 a z61) (by decide) (by decide) (fun v65 σ66 h64 => ?_)
              obtain ⟨h67, h68, z70, rfl, h69⟩ := h64
              have h71 := Fr_trans h52 h68 (by decide +kernel)
              refine En_Ps 3 (pc' := 72) (lv' := [(6, .int z70), (0, .ref 0), (1, .int a), (2, .int b), (3, .int y21), (4, .int y22), (5, .int y23)]) (st' := [.int y22, .int z70]) rfl ?_
              refine En_icGe _ rfl rfl rfl (fun h72 => ?_) (fun h72 => ?_)
              · refine En_Ps 1 (pc' := 85) (lv' := [(5, .int ((y23 + Int32.ofInt 1))), (6, .int z70), (0, .ref 0), (1, .int a), (2, .int b), (3, .int y21), (4, .int y22)]) (st' := []) rfl ?_
                refine En_lv1 (addI rfl (by decide : (Int32.ofInt 1).toInt = 1) (by first | exact q_465ab79ac1 h32 | omega) (by first | exact q_f3f8e04381 h33 | omega)) (fun z73 h74 => ?_)
                refine En_Ps 1 (pc' := 31) (lv' := [(5, .int z73), (6, .int z70), (0, .ref 0), (1, .int a), (2, .int b), (3, .int y21), (4, .int y22)]) (st' := []) rfl ?_
                refine En_lv (lv := [(0, .ref 0), (1, .int a), (2, .int b), (3, .int y21), (4, .int y22), (5, .int z73)]) ⟨rfl, rfl, rfl, rfl, rfl, rfl, trivial⟩ ?_
                exact ih31 σ66 y21 y22 z73 h67 h71 ((h68 _ _ (inW tgz_0 (by decide +kernel))).trans ((h49 _ _ (inW tgz_0 (by decide +kernel))).trans ((h40 _ _ (inW tgz_0 (by decide +kernel))).trans h27))) ((h68 _ _ (inW hp (by decide +kernel))).trans ((h49 _ _ (inW hp (by decide +kernel))).trans ((h40 _ _ (inW hp (by decide +kernel))).trans h28))) (by first | exact q_77b189e83d h29 | omega) (by first | exact q_5a4d8a7e08 h30 | omega) (by first | exact q_ce07321c0d h31 | omega) (by first | exact q_35104ce9d3 h74 h32 | omega) (by first | exact q_34dc714687 h74 h44 h41.2 | omega) (by first | exact q_6591527e3e h34 h74 | omega) (by first | exact q_c5d740bdff h74 h35 | omega)
              · refine En_Ps 5 (pc' := 85) (lv' := [(5, .int ((y23 + Int32.ofInt 1))), (3, .int y23), (4, .int z70), (6, .int z70), (0, .ref 0), (1, .int a), (2, .int b)]) (st' := []) rfl ?_
                refine En_lv1 (addI rfl (by decide : (Int32.ofInt 1).toInt = 1) (by first | exact q_465ab79ac1 h32 | omega) (by first | exact q_f3f8e04381 h33 | omega)) (fun z75 h76 => ?_)
                refine En_Ps 1 (pc' := 31) (lv' := [(5, .int z75), (3, .int y23), (4, .int z70), (6, .int z70), (0, .ref 0), (1, .int a), (2, .int b)]) (st' := []) rfl ?_
                refine En_lv (lv := [(0, .ref 0), (1, .int a), (2, .int b), (3, .int y23), (4, .int z70), (5, .int z75)]) ⟨rfl, rfl, rfl, rfl, rfl, rfl, trivial⟩ ?_
                exact ih31 σ66 y23 z70 z75 h67 h71 ((h68 _ _ (inW tgz_0 (by decide +kernel))).trans ((h49 _ _ (inW tgz_0 (by decide +kernel))).trans ((h40 _ _ (inW tgz_0 (by decide +kernel))).trans h27))) ((h68 _ _ (inW hp (by decide +kernel))).trans ((h49 _ _ (inW hp (by decide +kernel))).trans ((h40 _ _ (inW hp (by decide +kernel))).trans h28))) (by first | exact q_5b439548fc h32 | omega) (by first | exact q_c15b485600 h44 h41.2 | omega) (by first | exact q_a1a35d549d h72 h31 | omega) (by first | exact q_35104ce9d3 h76 h32 | omega) (by first | exact q_34dc714687 h76 h44 h41.2 | omega) (by first | exact q_2fedec469a h76 | omega) (by first | exact q_c5d740bdff h76 h35 | omega)
      have := (by decide : (Int32.ofInt (-1)).toInt = -1)
      have := (by decide : ((Int16.ofInt 1297).toInt32).toInt = 1297)
      have := (by decide : (Int32.ofInt 0).toInt = 0)
      refine En_lv (lv := [(0, .ref 0), (1, .int a), (2, .int b), (3, .int ((Int32.ofInt (-1)))), (4, .int (((Int16.ofInt 1297).toInt32))), (5, .int ((Int32.ofInt 0)))]) ⟨rfl, rfl, rfl, rfl, rfl, rfl, trivial⟩ ?_
      exact key31 (Int.toNat (16) + 1) σ14 ((Int32.ofInt (-1))) (((Int16.ofInt 1297).toInt32)) ((Int32.ofInt 0)) h15 h19 ((h16 _ _ (inW tgz_0 (by decide +kernel))).trans ((h5 _ _ (inW tgz_0 (by decide +kernel))).trans h_p)) ((h16 _ _ (inW hp (by decide +kernel))).trans ((h5 _ _ (inW hp (by decide +kernel))).trans h_sg)) (by decide) (by decide) (by decide) (by decide) (by decide) (by omega) (by first | exact toN_lt _ | omega)
    · refine En_Ps 1 (pc' := 20) (lv' := [(0, .ref 0), (1, .int a), (2, .int b)]) (st' := [.int (((Int8.ofInt (-2)).toInt32))]) rfl ?_
      refine En_top (by decide : ((Int8.ofInt (-2)).toInt32).toInt = -2) (fun z77 h78 => ?_)
      exact En_ret (v := some (Value.int z77)) rfl rfl rfl ⟨h15, h19, z77, rfl, ⟨by first | exact q_f35c5d346c h78 | omega, by first | exact q_12a74e12a3 h78 | omega⟩⟩
/-- DoorSchool.often(I)I -/
abbrev P_158 (σ0 : SG) (a : Int32) (p : Nat) (sg : Int32) : PO := fun v σ => WT σ ∧ Fr [] σ0 σ ∧ ∃ ret : Int32, v = some (Value.int ret) ∧ -ret.toInt - 2 ≤ 0 ∧ ret.toInt - 63 ≤ 0
set_option maxRecDepth 10000 in
set_option maxHeartbeats 4000000 in
theorem c_158 (σ0 : SG) (hσ0 : WT σ0) (a : Int32) (p : Nat) (hp : TG p = 18) (h_p : (σ0 0)[9]? = some (Value.ref p)) (sg : Int32) (h_sg : (σ0 p)[1]? = some (Value.int sg)) (hp0 : -sg.toInt ≤ 0) : En 4 92 none mr_158 (P_158 σ0 a p sg) 0 [(0, .ref 0), (1, .int a)] [] σ0 := by
  obtain ⟨hl_sg, hu_sg⟩ := WT_int hσ0 (g := 18) hp (by decide +kernel) (l := (-1)) (u := 4) (by decide +kernel) h_sg
  have hF0 : Fr [] σ0 σ0 := Fr_rfl
  refine En_Ps 1 (pc' := 1) (lv' := [(0, .ref 0), (1, .int a)]) (st' := [.ref 0]) rfl ?_
  refine En_getK (j := 9) h_p rfl rfl rfl tgz_0 (by decide +kernel) ?_
  refine En_Ps 1 (pc' := 5) (lv' := [(0, .ref 0), (1, .int a)]) (st' := [.int a, .ref p]) rfl ?_
  refine En_callV rfl rfl rfl rfl rfl rfl rfl rfl hp (by decide +kernel) rfl (c_47 σ0 hσ0 p hp a) (by decide) (by decide) (fun v2 σ3 h1 => ?_)
  obtain ⟨h4, h5, z7, rfl, h6⟩ := h1
  have h8 := Fr_trans hF0 h5 (by decide +kernel)
  refine En_iEq _ rfl rfl (fun h9 => ?_) (fun h9 => ?_)
  · refine En_Ps 1 (pc' := 24) (lv' := [(0, .ref 0), (1, .int a)]) (st' := [.int (((Int8.ofInt (-2)).toInt32))]) rfl ?_
    refine En_top (by decide : ((Int8.ofInt (-2)).toInt32).toInt = -2) (fun z10 h11 => ?_)
    exact En_ret (v := some (Value.int z10)) rfl rfl rfl ⟨h4, h8, z10, rfl, ⟨by first | exact q_f35c5d346c h11 | omega, by first | exact q_443ead751f h11 | omega⟩⟩
  · refine En_Ps 2 (pc' := 13) (lv' := [(0, .ref 0), (1, .int a)]) (st' := [.int a, .ref 0]) rfl ?_
    refine En_callV rfl rfl rfl rfl rfl rfl rfl rfl tgz_0 (by decide +kernel) rfl (c_114 σ3 h4 a (geI rfl (by omega)) (leI rfl (by omega)) p hp ((h5 _ _ (inW tgz_0 (by decide +kernel))).trans h_p) sg ((h5 _ _ (inW hp (by decide +kernel))).trans h_sg) (by first | exact q_a555021d16 hp0 | omega)) (by decide) (by decide) (fun v13 σ14 h12 => ?_)
    obtain ⟨h15, h16, z18, rfl, h17⟩ := h12
    have h19 := Fr_trans h8 h16 (by decide +kernel)
    refine En_callS rfl rfl rfl rfl rfl rfl rfl rfl rfl (c_7 σ14 h15 z18) (by decide) (by decide) (fun v21 σ22 h20 => ?_)
    obtain ⟨h23, h24, z26, rfl, h25⟩ := h20
    have h27 := Fr_trans h19 h24 (by decide +kernel)
    refine En_Ps 1 (pc' := 24) (lv' := [(0, .ref 0), (1, .int a)]) (st' := [.int z26]) rfl ?_
    exact En_ret (v := some (Value.int z26)) rfl rfl rfl ⟨h23, h27, z26, rfl, ⟨by first | exact q_70a249c7f8 h25.1 | omega, by first | exact q_4b9206e141 h25.2 | omega⟩⟩
/-- DoorSchool.opens(II)I -/
abbrev P_159 (σ0 : SG) (a : Int32) (b : Int32) (p : Nat) (sg : Int32) : PO := fun v σ => WT σ ∧ Fr [] σ0 σ ∧ ∃ ret : Int32, v = some (Value.int ret) ∧ -ret.toInt - 2 ≤ 0 ∧ ret.toInt - 1 ≤ 0
set_option maxRecDepth 10000 in
set_option maxHeartbeats 4000000 in
theorem c_159 (σ0 : SG) (hσ0 : WT σ0) (a : Int32) (b : Int32) (p : Nat) (hp : TG p = 18) (h_p : (σ0 0)[9]? = some (Value.ref p)) (sg : Int32) (h_sg : (σ0 p)[1]? = some (Value.int sg)) (hp0 : -sg.toInt ≤ 0) : En 4 92 none mr_159 (P_159 σ0 a b p sg) 0 [(0, .ref 0), (1, .int a), (2, .int b)] [] σ0 := by
  obtain ⟨hl_sg, hu_sg⟩ := WT_int hσ0 (g := 18) hp (by decide +kernel) (l := (-1)) (u := 4) (by decide +kernel) h_sg
  have hF0 : Fr [] σ0 σ0 := Fr_rfl
  refine En_Ps 1 (pc' := 1) (lv' := [(0, .ref 0), (1, .int a), (2, .int b)]) (st' := [.ref 0]) rfl ?_
  refine En_getK (j := 9) h_p rfl rfl rfl tgz_0 (by decide +kernel) ?_
  refine En_Ps 1 (pc' := 5) (lv' := [(0, .ref 0), (1, .int a), (2, .int b)]) (st' := [.int a, .ref p]) rfl ?_
  refine En_callV rfl rfl rfl rfl rfl rfl rfl rfl hp (by decide +kernel) rfl (c_47 σ0 hσ0 p hp a) (by decide) (by decide) (fun v2 σ3 h1 => ?_)
  obtain ⟨h4, h5, z7, rfl, h6⟩ := h1
  have h8 := Fr_trans hF0 h5 (by decide +kernel)
  refine En_iEq _ rfl rfl (fun h9 => ?_) (fun h9 => ?_)
  · refine En_Ps 1 (pc' := 24) (lv' := [(0, .ref 0), (1, .int a), (2, .int b)]) (st' := [.int (((Int8.ofInt (-2)).toInt32))]) rfl ?_
    refine En_top (by decide : ((Int8.ofInt (-2)).toInt32).toInt = -2) (fun z10 h11 => ?_)
    exact En_ret (v := some (Value.int z10)) rfl rfl rfl ⟨h4, h8, z10, rfl, ⟨by first | exact q_f35c5d346c h11 | omega, by first | exact q_680688d8e6 h11 | omega⟩⟩
  · refine En_Ps 1 (pc' := 12) (lv' := [(0, .ref 0), (1, .int a), (2, .int b)]) (st' := [.ref 0]) rfl ?_
    refine En_getK (j := 9) ((h5 _ _ (inW tgz_0 (by decide +kernel))).trans h_p) rfl rfl rfl tgz_0 (by decide +kernel) ?_
    refine En_Ps 1 (pc' := 16) (lv' := [(0, .ref 0), (1, .int a), (2, .int b)]) (st' := [.int b, .ref p]) rfl ?_
    refine En_callV rfl rfl rfl rfl rfl rfl rfl rfl hp (by decide +kernel) rfl (c_49 σ3 h4 p hp b sg ((h5 _ _ (inW hp (by decide +kernel))).trans h_sg) (by first | exact q_a555021d16 hp0 | omega)) (by decide) (by decide) (fun v13 σ14 h12 => ?_)
    obtain ⟨h15, h16, z18, rfl, h17⟩ := h12
    have h19 := Fr_trans h8 h16 (by decide +kernel)
    refine En_iNe _ rfl rfl (fun h20 => ?_) (fun h20 => ?_)
    · refine En_Ps 2 (pc' := 27) (lv' := [(0, .ref 0), (1, .int a), (2, .int b)]) (st' := [.int a, .ref 0]) rfl ?_
      refine En_callV rfl rfl rfl rfl rfl rfl rfl rfl tgz_0 (by decide +kernel) rfl (c_114 σ14 h15 a (geI rfl (by omega)) (leI rfl (by omega)) p hp ((h16 _ _ (inW tgz_0 (by decide +kernel))).trans ((h5 _ _ (inW tgz_0 (by decide +kernel))).trans h_p)) sg ((h16 _ _ (inW hp (by decide +kernel))).trans ((h5 _ _ (inW hp (by decide +kernel))).trans h_sg)) (by first | exact q_a555021d16 hp0 | omega)) (by decide) (by decide) (fun v22 σ23 h21 => ?_)
      obtain ⟨h24, h25, z27, rfl, h26⟩ := h21
      have h28 := Fr_trans h19 h25 (by decide +kernel)
      refine En_Ps 1 (pc' := 31) (lv' := [(0, .ref 0), (1, .int a), (2, .int b)]) (st' := [.int b, .int z27]) rfl ?_
      refine En_callS rfl rfl rfl rfl rfl rfl rfl rfl rfl (c_108 σ23 h24 z27 b) (by decide) (by decide) (fun v30 σ31 h29 => ?_)
      obtain ⟨h32, h33, z35, rfl, h34⟩ := h29
      have h36 := Fr_trans h28 h33 (by decide +kernel)
      exact En_ret (v := some (Value.int z35)) rfl rfl rfl ⟨h32, h36, z35, rfl, ⟨by first | exact q_70a249c7f8 h34.1 | omega, by first | exact q_ad5b726bf8 h34.2 | omega⟩⟩
    · refine En_Ps 1 (pc' := 24) (lv' := [(0, .ref 0), (1, .int a), (2, .int b)]) (st' := [.int (((Int8.ofInt (-2)).toInt32))]) rfl ?_
      refine En_top (by decide : ((Int8.ofInt (-2)).toInt32).toInt = -2) (fun z37 h38 => ?_)
      exact En_ret (v := some (Value.int z37)) rfl rfl rfl ⟨h15, h19, z37, rfl, ⟨by first | exact q_f35c5d346c h38 | omega, by first | exact q_680688d8e6 h38 | omega⟩⟩
/-- DoorSchool.paste(IIIII)I -/
abbrev P_162 (σ0 : SG) (a : Int32) (b : Int32) (c : Int32) (d : Int32) (e : Int32) (p : Nat) (sg : Int32) : PO := fun v σ => WT σ ∧ Fr [(34, 0)] σ0 σ ∧ ∃ ret : Int32, v = some (Value.int ret) ∧ -ret.toInt - 8 ≤ 0 ∧ ret.toInt ≤ 0
set_option maxRecDepth 10000 in
set_option maxHeartbeats 4000000 in
theorem c_162 (σ0 : SG) (hσ0 : WT σ0) (a : Int32) (b : Int32) (c : Int32) (d : Int32) (e : Int32) (p : Nat) (hp : TG p = 18) (h_p : (σ0 0)[9]? = some (Value.ref p)) (sg : Int32) (h_sg : (σ0 p)[1]? = some (Value.int sg)) (hp0 : -sg.toInt ≤ 0) : En 1 60 none mr_162 (P_162 σ0 a b c d e p sg) 0 [(0, .ref 0), (1, .int a), (2, .int b), (3, .int c), (4, .int d), (5, .int e)] [] σ0 := by
  obtain ⟨hl_sg, hu_sg⟩ := WT_int hσ0 (g := 18) hp (by decide +kernel) (l := (-1)) (u := 4) (by decide +kernel) h_sg
  have hF0 : Fr [(34, 0)] σ0 σ0 := Fr_rfl
  refine En_Ps 1 (pc' := 1) (lv' := [(0, .ref 0), (1, .int a), (2, .int b), (3, .int c), (4, .int d), (5, .int e)]) (st' := [.int a]) rfl ?_
  refine En_callS rfl rfl rfl rfl rfl rfl rfl rfl rfl (c_147 σ0 hσ0 a) (by decide) (by decide) (fun v2 σ3 h1 => ?_)
  obtain ⟨h4, h5, z7, rfl, h6⟩ := h1
  have h8 := Fr_trans hF0 h5 (by decide +kernel)
  refine En_iEq _ rfl rfl (fun h9 => ?_) (fun h9 => ?_)
  · refine En_Ps 1 (pc' := 16) (lv' := [(0, .ref 0), (1, .int a), (2, .int b), (3, .int c), (4, .int d), (5, .int e)]) (st' := [.int (((Int8.ofInt (-2)).toInt32))]) rfl ?_
    refine En_top (by decide : ((Int8.ofInt (-2)).toInt32).toInt = -2) (fun z10 h11 => ?_)
    exact En_ret (v := some (Value.int z10)) rfl rfl rfl ⟨h4, h8, z10, rfl, ⟨by first | exact q_a9585dd42b h11 | omega, by first | exact q_bbb39ffa1e h11 | omega⟩⟩
  · refine En_Ps 1 (pc' := 8) (lv' := [(0, .ref 0), (1, .int a), (2, .int b), (3, .int c), (4, .int d), (5, .int e)]) (st' := [.int c]) rfl ?_
    refine En_callS rfl rfl rfl rfl rfl rfl rfl rfl rfl (c_147 σ3 h4 c) (by decide) (by decide) (fun v13 σ14 h12 => ?_)
    obtain ⟨h15, h16, z18, rfl, h17⟩ := h12
    have h19 := Fr_trans h8 h16 (by decide +kernel)
    refine En_iNe _ rfl rfl (fun h20 => ?_) (fun h20 => ?_)
    · refine En_Ps 1 (pc' := 18) (lv' := [(0, .ref 0), (1, .int a), (2, .int b), (3, .int c), (4, .int d), (5, .int e)]) (st' := [.ref 0]) rfl ?_
      refine En_getU (j := 6) (u := 150) (g' := 32) (q := 0) rfl rfl rfl tgz_0 (by decide +kernel) h15 (by decide +kernel) un_32_150 (fun h21 => ?_)
      refine En_Ps 1 (pc' := 22) (lv' := [(0, .ref 0), (1, .int a), (2, .int b), (3, .int c), (4, .int d), (5, .int e)]) (st' := [.int a, .ref 150]) rfl ?_
      refine En_aald (g' := 33) (u := 0) rfl rfl tgz_150 (by decide +kernel) h15 (by omega) (lnI (by decide +kernel : LN _ = 4) (by omega)) (FTsgl (by decide +kernel)) (fun a24 h23 ha24 => ?_)
      refine En_Ps 2 (pc' := 26) (lv' := [(6, .ref a24), (0, .ref 0), (1, .int a), (2, .int b), (3, .int c), (4, .int d), (5, .int e)]) (st' := [.ref 0]) rfl ?_
      refine En_getK (j := 6) h21 rfl rfl rfl tgz_0 (by decide +kernel) ?_
      refine En_Ps 1 (pc' := 30) (lv' := [(6, .ref a24), (0, .ref 0), (1, .int a), (2, .int b), (3, .int c), (4, .int d), (5, .int e)]) (st' := [.int c, .ref 150]) rfl ?_
      refine En_aald (g' := 33) (u := 0) rfl rfl tgz_150 (by decide +kernel) h15 (by omega) (lnI (by decide +kernel : LN _ = 4) (by omega)) (FTsgl (by decide +kernel)) (fun a26 h25 ha26 => ?_)
      refine En_Ps 2 (pc' := 35) (lv' := [(7, .ref a26), (6, .ref a24), (0, .ref 0), (1, .int a), (2, .int b), (3, .int c), (4, .int d), (5, .int e)]) (st' := [.ref a24]) rfl ?_
      refine En_getI (j := 1) (l := 0) (u := 1) rfl rfl rfl ha24 (by decide +kernel) h15 (by decide +kernel) (fun z28 h27 h29 h30 => ?_)
      refine En_iEq _ rfl rfl (fun h31 => ?_) (fun h31 => ?_)
      · refine En_Ps 1 (pc' := 51) (lv' := [(7, .ref a26), (6, .ref a24), (0, .ref 0), (1, .int a), (2, .int b), (3, .int c), (4, .int d), (5, .int e)]) (st' := [.int (((Int8.ofInt (-6)).toInt32))]) rfl ?_
        refine En_top (by decide : ((Int8.ofInt (-6)).toInt32).toInt = -6) (fun z32 h33 => ?_)
        exact En_ret (v := some (Value.int z32)) rfl rfl rfl ⟨h15, h19, z32, rfl, ⟨by first | exact q_04810bc0c7 h33 | omega, by first | exact q_9bcb887de1 h33 | omega⟩⟩
      · refine En_Ps 1 (pc' := 43) (lv' := [(7, .ref a26), (6, .ref a24), (0, .ref 0), (1, .int a), (2, .int b), (3, .int c), (4, .int d), (5, .int e)]) (st' := [.ref a26]) rfl ?_
        refine En_getI (j := 1) (l := 0) (u := 1) rfl rfl rfl ha26 (by decide +kernel) h15 (by decide +kernel) (fun z35 h34 h36 h37 => ?_)
        refine En_iNe _ rfl rfl (fun h38 => ?_) (fun h38 => ?_)
        · refine En_Ps 1 (pc' := 54) (lv' := [(7, .ref a26), (6, .ref a24), (0, .ref 0), (1, .int a), (2, .int b), (3, .int c), (4, .int d), (5, .int e)]) (st' := [.ref a24]) rfl ?_
          refine En_getI (j := 2) (l := 0) (u := 3) rfl rfl rfl ha24 (by decide +kernel) h15 (by decide +kernel) (fun z40 h39 h41 h42 => ?_)
          refine En_Ps 1 (pc' := 59) (lv' := [(7, .ref a26), (6, .ref a24), (0, .ref 0), (1, .int a), (2, .int b), (3, .int c), (4, .int d), (5, .int e)]) (st' := [.ref a26, .int z40]) rfl ?_
          refine En_getI (j := 2) (l := 0) (u := 3) rfl rfl rfl ha26 (by decide +kernel) h15 (by decide +kernel) (fun z44 h43 h45 h46 => ?_)
          refine En_icEq _ rfl rfl rfl (fun h47 => ?_) (fun h47 => ?_)
          · refine En_Ps 3 (pc' := 73) (lv' := [(7, .ref a26), (6, .ref a24), (0, .ref 0), (1, .int a), (2, .int b), (3, .int c), (4, .int d), (5, .int e)]) (st' := [.int e, .int b, .ref a24]) rfl ?_
            obtain ⟨z49, h48, h50, h51⟩ := WT_peekI h15 ha24 (by decide +kernel : FT 33 3 = (0, 0, 60)) (by decide +kernel)
            refine En_callV rfl rfl rfl rfl rfl rfl rfl rfl ha24 (by decide +kernel) rfl (c_85 σ14 h15 a24 ha24 b e z49 h48) (by decide) (by decide) (fun v53 σ54 h52 => ?_)
            obtain ⟨h55, h56, z58, rfl, h57⟩ := h52
            have h59 := Fr_trans h19 h56 (by decide +kernel)
            refine En_iEq _ rfl rfl (fun h60 => ?_) (fun h60 => ?_)
            · refine En_Ps 1 (pc' := 93) (lv' := [(7, .ref a26), (6, .ref a24), (0, .ref 0), (1, .int a), (2, .int b), (3, .int c), (4, .int d), (5, .int e)]) (st' := [.int (((Int8.ofInt (-7)).toInt32))]) rfl ?_
              refine En_top (by decide : ((Int8.ofInt (-7)).toInt32).toInt = -7) (fun z61 h62 => ?_)
              exact En_ret (v := some (Value.int z61)) rfl rfl rfl ⟨h55, h59, z61, rfl, ⟨by first | exact q_bed7a61884 h62 | omega, by first | exact q_d916b56ab6 h62 | omega⟩⟩
            · refine En_Ps 3 (pc' := 85) (lv' := [(7, .ref a26), (6, .ref a24), (0, .ref 0), (1, .int a), (2, .int b), (3, .int c), (4, .int d), (5, .int e)]) (st' := [.int e, .int d, .ref a26]) rfl ?_
              obtain ⟨z64, h63, h65, h66⟩ := WT_peekI h55 ha26 (by decide +kernel : FT 33 3 = (0, 0, 60)) (by decide +kernel)
              refine En_callV rfl rfl rfl rfl rfl rfl rfl rfl ha26 (by decide +kernel) rfl (c_85 σ54 h55 a26 ha26 d e z64 h63) (by decide) (by decide) (fun v68 σ69 h67 => ?_)
              obtain ⟨h70, h71, z73, rfl, h72⟩ := h67
              have h74 := Fr_trans h59 h71 (by decide +kernel)
              refine En_iNe _ rfl rfl (fun h75 => ?_) (fun h75 => ?_)
              · refine En_Ps 1 (pc' := 96) (lv' := [(7, .ref a26), (6, .ref a24), (0, .ref 0), (1, .int a), (2, .int b), (3, .int c), (4, .int d), (5, .int e)]) (st' := [.ref a24]) rfl ?_
                refine En_getR (j := 0) (g' := 34) (u := 0) rfl rfl rfl ha24 (by decide +kernel) h70 (by decide +kernel) (fun a77 h76 ha77 => ?_)
                refine En_Ps 2 (pc' := 102) (lv' := [(7, .ref a26), (6, .ref a24), (0, .ref 0), (1, .int a), (2, .int b), (3, .int c), (4, .int d), (5, .int e)]) (st' := [.ref a26, .int b, .ref a77]) rfl ?_
                refine En_getR (j := 0) (g' := 34) (u := 0) rfl rfl rfl ha26 (by decide +kernel) h70 (by decide +kernel) (fun a79 h78 ha79 => ?_)
                refine En_Ps 2 (pc' := 109) (lv' := [(7, .ref a26), (6, .ref a24), (0, .ref 0), (1, .int a), (2, .int b), (3, .int c), (4, .int d), (5, .int e)]) (st' := [.int e, .int d, .ref a79, .int b, .ref a77]) rfl ?_
                refine En_copy (n0 := 60) (n1 := 60) rfl rfl rfl rfl rfl rfl rfl ha77 ha79 (by decide +kernel) (by decide +kernel) (by decide +kernel) (by decide +kernel) (by decide +kernel) (by omega) (by omega) (by omega) (by omega) (by omega) h70 h74 (by decide +kernel) (fun σ80 h81 h82 h83 => ?_)
                refine En_Ps 1 (pc' := 113) (lv' := [(7, .ref a26), (6, .ref a24), (0, .ref 0), (1, .int a), (2, .int b), (3, .int c), (4, .int d), (5, .int e)]) (st' := [.int ((Int32.ofInt 0))]) rfl ?_
                refine En_top (by decide : (Int32.ofInt 0).toInt = 0) (fun z84 h85 => ?_)
                exact En_ret (v := some (Value.int z84)) rfl rfl rfl ⟨h81, h82, z84, rfl, ⟨by first | exact q_444a964a01 h85 | omega, by first | exact q_c5d285f1b9 h85 | omega⟩⟩
              · refine En_Ps 1 (pc' := 93) (lv' := [(7, .ref a26), (6, .ref a24), (0, .ref 0), (1, .int a), (2, .int b), (3, .int c), (4, .int d), (5, .int e)]) (st' := [.int (((Int8.ofInt (-7)).toInt32))]) rfl ?_
                refine En_top (by decide : ((Int8.ofInt (-7)).toInt32).toInt = -7) (fun z86 h87 => ?_)
                exact En_ret (v := some (Value.int z86)) rfl rfl rfl ⟨h70, h74, z86, rfl, ⟨by first | exact q_bed7a61884 h87 | omega, by first | exact q_d916b56ab6 h87 | omega⟩⟩
          · refine En_Ps 1 (pc' := 67) (lv' := [(7, .ref a26), (6, .ref a24), (0, .ref 0), (1, .int a), (2, .int b), (3, .int c), (4, .int d), (5, .int e)]) (st' := [.int (((Int8.ofInt (-8)).toInt32))]) rfl ?_
            refine En_top (by decide : ((Int8.ofInt (-8)).toInt32).toInt = -8) (fun z88 h89 => ?_)
            exact En_ret (v := some (Value.int z88)) rfl rfl rfl ⟨h15, h19, z88, rfl, ⟨by first | exact q_433a6fecb0 h89 | omega, by first | exact q_e64e7d08e3 h89 | omega⟩⟩
        · refine En_Ps 1 (pc' := 51) (lv' := [(7, .ref a26), (6, .ref a24), (0, .ref 0), (1, .int a), (2, .int b), (3, .int c), (4, .int d), (5, .int e)]) (st' := [.int (((Int8.ofInt (-6)).toInt32))]) rfl ?_
          refine En_top (by decide : ((Int8.ofInt (-6)).toInt32).toInt = -6) (fun z90 h91 => ?_)
          exact En_ret (v := some (Value.int z90)) rfl rfl rfl ⟨h15, h19, z90, rfl, ⟨by first | exact q_04810bc0c7 h91 | omega, by first | exact q_9bcb887de1 h91 | omega⟩⟩
    · refine En_Ps 1 (pc' := 16) (lv' := [(0, .ref 0), (1, .int a), (2, .int b), (3, .int c), (4, .int d), (5, .int e)]) (st' := [.int (((Int8.ofInt (-2)).toInt32))]) rfl ?_
      refine En_top (by decide : ((Int8.ofInt (-2)).toInt32).toInt = -2) (fun z92 h93 => ?_)
      exact En_ret (v := some (Value.int z92)) rfl rfl rfl ⟨h15, h19, z92, rfl, ⟨by first | exact q_a9585dd42b h93 | omega, by first | exact q_bbb39ffa1e h93 | omega⟩⟩
/-- DoorSchool.rest(I)I -/
abbrev P_163 (σ0 : SG) (a : Int32) (p : Nat) (sg : Int32) : PO := fun v σ => WT σ ∧ Fr [] σ0 σ ∧ ∃ ret : Int32, v = some (Value.int ret) ∧ -ret.toInt - 2 ≤ 0 ∧ ret.toInt - 215 ≤ 0
set_option maxRecDepth 10000 in
set_option maxHeartbeats 4000000 in
theorem c_163 (σ0 : SG) (hσ0 : WT σ0) (a : Int32) (p : Nat) (hp : TG p = 18) (h_p : (σ0 0)[9]? = some (Value.ref p)) (sg : Int32) (h_sg : (σ0 p)[1]? = some (Value.int sg)) (hp0 : -sg.toInt ≤ 0) : En 6 138 none mr_163 (P_163 σ0 a p sg) 0 [(0, .ref 0), (1, .int a)] [] σ0 := by
  obtain ⟨hl_sg, hu_sg⟩ := WT_int hσ0 (g := 18) hp (by decide +kernel) (l := (-1)) (u := 4) (by decide +kernel) h_sg
  have hF0 : Fr [] σ0 σ0 := Fr_rfl
  refine En_Ps 1 (pc' := 1) (lv' := [(0, .ref 0), (1, .int a)]) (st' := [.ref 0]) rfl ?_
  refine En_getK (j := 9) h_p rfl rfl rfl tgz_0 (by decide +kernel) ?_
  refine En_Ps 1 (pc' := 5) (lv' := [(0, .ref 0), (1, .int a)]) (st' := [.int a, .ref p]) rfl ?_
  refine En_callV rfl rfl rfl rfl rfl rfl rfl rfl hp (by decide +kernel) rfl (c_47 σ0 hσ0 p hp a) (by decide) (by decide) (fun v2 σ3 h1 => ?_)
  obtain ⟨h4, h5, z7, rfl, h6⟩ := h1
  have h8 := Fr_trans hF0 h5 (by decide +kernel)
  refine En_iNe _ rfl rfl (fun h9 => ?_) (fun h9 => ?_)
  · refine En_Ps 2 (pc' := 16) (lv' := [(2, .int ((Int32.ofInt 0))), (0, .ref 0), (1, .int a)]) (st' := []) rfl ?_
    have key16 : ∀ (n16 : Nat) (σ11 : SG) (y10 : Int32), WT σ11 → Fr [] σ0 σ11 → (σ11 0)[9]? = some (Value.ref p) → (σ11 p)[1]? = some (Value.int sg) → 0 ≤ y10.toInt → y10.toInt ≤ 3 → -y10.toInt + 3 < (n16 : Int) → En 6 138 none mr_163 (P_163 σ0 a p sg) 16 [(0, .ref 0), (1, .int a), (2, .int y10)] [] σ11 := by
      intro n16
      induction n16 with
      | zero =>
        intro σ11 y10 h12 h13 h14 h15 h16 h17 h18
        first | exact (q_9f1e7068c9 h18 h17).elim | (exfalso; omega)
      | succ n16 ih16 =>
        intro σ11 y10 h12 h13 h14 h15 h16 h17 h18
        refine En_Ps 2 (pc' := 18) (lv' := [(0, .ref 0), (1, .int a), (2, .int y10)]) (st' := [.int ((Int32.ofInt 3)), .int y10]) rfl ?_
        refine En_icGe _ rfl (by decide : (Int32.ofInt 3).toInt = 3) rfl (fun h19 => ?_) (fun h19 => ?_)
        · refine En_Ps 1 (pc' := 64) (lv' := [(0, .ref 0), (1, .int a), (2, .int y10)]) (st' := [.int ((Int32.ofInt (-1)))]) rfl ?_
          refine En_top (by decide : (Int32.ofInt (-1)).toInt = -1) (fun z20 h21 => ?_)
          exact En_ret (v := some (Value.int z20)) rfl rfl rfl ⟨h12, h13, z20, rfl, ⟨by first | exact q_e1de8c7867 h21 | omega, by first | exact q_bfbda685e5 h21 | omega⟩⟩
        · refine En_Ps 2 (pc' := 23) (lv' := [(3, .int ((Int32.ofInt 0))), (0, .ref 0), (1, .int a), (2, .int y10)]) (st' := []) rfl ?_
          have key23 : ∀ (n23 : Nat) (σ23 : SG) (y22 : Int32), WT σ23 → Fr [] σ0 σ23 → (σ23 0)[9]? = some (Value.ref p) → (σ23 p)[1]? = some (Value.int sg) → 0 ≤ y22.toInt → y22.toInt ≤ 16 → -y22.toInt + 16 < (n23 : Int) → En 6 138 none mr_163 (P_163 σ0 a p sg) 23 [(0, .ref 0), (1, .int a), (2, .int y10), (3, .int y22)] [] σ23 := by
            intro n23
            induction n23 with
            | zero =>
              intro σ23 y22 h24 h25 h26 h27 h28 h29 h30
              first | exact (q_511f6d33ac h30 h29).elim | (exfalso; omega)
            | succ n23 ih23 =>
              intro σ23 y22 h24 h25 h26 h27 h28 h29 h30
              refine En_Ps 2 (pc' := 25) (lv' := [(0, .ref 0), (1, .int a), (2, .int y10), (3, .int y22)]) (st' := [.ref 0, .int y22]) rfl ?_
              refine En_getK (j := 9) h26 rfl rfl rfl tgz_0 (by decide +kernel) ?_
              refine En_callV rfl rfl rfl rfl rfl rfl rfl rfl hp (by decide +kernel) rfl (c_51 σ23 h24 p hp sg h27 (by first | exact q_a555021d16 hp0 | omega)) (by decide) (by decide) (fun v32 σ33 h31 => ?_)
              obtain ⟨h34, h35, z37, rfl, h36⟩ := h31
              have h38 := Fr_trans h25 h35 (by decide +kernel)
              refine En_icGe _ rfl rfl rfl (fun h39 => ?_) (fun h39 => ?_)
              · refine En_Ps 1 (pc' := 60) (lv' := [(2, .int ((y10 + Int32.ofInt 1))), (0, .ref 0), (1, .int a), (3, .int y22)]) (st' := []) rfl ?_
                refine En_lv1 (addI rfl (by decide : (Int32.ofInt 1).toInt = 1) (by first | exact q_465ab79ac1 h16 | omega) (by first | exact q_6ae830b01d h19 | omega)) (fun z40 h41 => ?_)
                refine En_Ps 1 (pc' := 16) (lv' := [(2, .int z40), (0, .ref 0), (1, .int a), (3, .int y22)]) (st' := []) rfl ?_
                refine En_lv (lv := [(0, .ref 0), (1, .int a), (2, .int z40)]) ⟨rfl, rfl, rfl, trivial⟩ ?_
                exact ih16 σ33 z40 h34 h38 ((h35 _ _ (inW tgz_0 (by decide +kernel))).trans h26) ((h35 _ _ (inW hp (by decide +kernel))).trans h27) (by first | exact q_35104ce9d3 h41 h16 | omega) (by first | exact q_84805d5d8e h41 h19 | omega) (by first | exact q_6272716eb4 h41 h18 | omega)
              · refine En_Ps 4 (pc' := 38) (lv' := [(0, .ref 0), (1, .int a), (2, .int y10), (3, .int y22)]) (st' := [.int y22, .int y10, .int a, .ref 0]) rfl ?_
                refine En_callV rfl rfl rfl rfl rfl rfl rfl rfl tgz_0 (by decide +kernel) rfl (c_145 σ33 h34 a y10 y22 (geI rfl (by omega)) (leI rfl (by omega)) (geI rfl (by first | exact q_58e6e51dcc h16 | omega)) (leI rfl (by first | exact q_f1519f12c0 h19 | omega)) p hp ((h35 _ _ (inW tgz_0 (by decide +kernel))).trans h26) sg ((h35 _ _ (inW hp (by decide +kernel))).trans h27) (by first | exact q_a555021d16 hp0 | omega)) (by decide) (by decide) (fun v43 σ44 h42 => ?_)
                obtain ⟨h45, h46, z48, rfl, h47⟩ := h42
                have h49 := Fr_trans h38 h46 (by decide +kernel)
                refine En_iEq _ rfl rfl (fun h50 => ?_) (fun h50 => ?_)
                · refine En_Ps 1 (pc' := 54) (lv' := [(3, .int ((y22 + Int32.ofInt 1))), (0, .ref 0), (1, .int a), (2, .int y10)]) (st' := []) rfl ?_
                  refine En_lv1 (addI rfl (by decide : (Int32.ofInt 1).toInt = 1) (by first | exact q_465ab79ac1 h28 | omega) (by first | exact q_f3f8e04381 h29 | omega)) (fun z51 h52 => ?_)
                  refine En_Ps 1 (pc' := 23) (lv' := [(3, .int z51), (0, .ref 0), (1, .int a), (2, .int y10)]) (st' := []) rfl ?_
                  refine En_lv (lv := [(0, .ref 0), (1, .int a), (2, .int y10), (3, .int z51)]) ⟨rfl, rfl, rfl, rfl, trivial⟩ ?_
                  exact ih23 σ44 z51 h45 h49 ((h46 _ _ (inW tgz_0 (by decide +kernel))).trans ((h35 _ _ (inW tgz_0 (by decide +kernel))).trans h26)) ((h46 _ _ (inW hp (by decide +kernel))).trans ((h35 _ _ (inW hp (by decide +kernel))).trans h27)) (by first | exact q_35104ce9d3 h52 h28 | omega) (by first | exact q_34dc714687 h52 h39 h36.2 | omega) (by first | exact q_c5d740bdff h52 h30 | omega)
                · refine En_Ps 3 (pc' := 48) (lv' := [(0, .ref 0), (1, .int a), (2, .int y10), (3, .int y22)]) (st' := [.int (((((Int8.ofInt 100).toInt32)) * y10))]) rfl ?_
                  refine En_top (mulI (by decide : ((Int8.ofInt 100).toInt32).toInt = 100) rfl (Z := 100 * y10.toInt) (by first | exact q_ec6b471118 | omega) (by first | exact q_c2dc73a4d1 h16 | omega) (by first | exact q_4849263c2c h19 | omega)) (fun z53 h54 => ?_)
                  refine En_Ps 2 (pc' := 50) (lv' := [(0, .ref 0), (1, .int a), (2, .int y10), (3, .int y22)]) (st' := [.int ((z53 + y22))]) rfl ?_
                  refine En_top (addI rfl rfl (by first | exact q_5f97f9cf0f h28 h54 h16 | omega) (by first | exact q_969932ee8b h39 h54 h19 h36.2 | omega)) (fun z55 h56 => ?_)
                  exact En_ret (v := some (Value.int z55)) rfl rfl rfl ⟨h45, h49, z55, rfl, ⟨by first | exact q_89fb32ea47 h56 h28 h54 h16 | omega, by first | exact q_f0f33d7539 h56 h39 h54 h19 h36.2 | omega⟩⟩
          have := (by decide : (Int32.ofInt 0).toInt = 0)
          refine En_lv (lv := [(0, .ref 0), (1, .int a), (2, .int y10), (3, .int ((Int32.ofInt 0)))]) ⟨rfl, rfl, rfl, rfl, trivial⟩ ?_
          exact key23 (Int.toNat (16) + 1) σ11 ((Int32.ofInt 0)) h12 h13 h14 h15 (by decide) (by decide) (by first | exact toN_lt _ | omega)
    have := (by decide : (Int32.ofInt 0).toInt = 0)
    refine En_lv (lv := [(0, .ref 0), (1, .int a), (2, .int ((Int32.ofInt 0)))]) ⟨rfl, rfl, rfl, trivial⟩ ?_
    exact key16 (Int.toNat (3) + 1) σ3 ((Int32.ofInt 0)) h4 h8 ((h5 _ _ (inW tgz_0 (by decide +kernel))).trans h_p) ((h5 _ _ (inW hp (by decide +kernel))).trans h_sg) (by decide) (by decide) (by first | exact toN_lt _ | omega)
  · refine En_Ps 1 (pc' := 13) (lv' := [(0, .ref 0), (1, .int a)]) (st' := [.int (((Int8.ofInt (-2)).toInt32))]) rfl ?_
    refine En_top (by decide : ((Int8.ofInt (-2)).toInt32).toInt = -2) (fun z57 h58 => ?_)
    exact En_ret (v := some (Value.int z57)) rfl rfl rfl ⟨h4, h8, z57, rfl, ⟨by first | exact q_f35c5d346c h58 | omega, by first | exact q_45d2ac33e5 h58 | omega⟩⟩
/-- DoorSchool.rests(I)I -/
abbrev P_164 (σ0 : SG) (a : Int32) (p : Nat) (sg : Int32) : PO := fun v σ => WT σ ∧ Fr [] σ0 σ ∧ ∃ ret : Int32, v = some (Value.int ret) ∧ True
set_option maxRecDepth 10000 in
set_option maxHeartbeats 4000000 in
theorem c_164 (σ0 : SG) (hσ0 : WT σ0) (a : Int32) (p : Nat) (hp : TG p = 18) (h_p : (σ0 0)[9]? = some (Value.ref p)) (sg : Int32) (h_sg : (σ0 p)[1]? = some (Value.int sg)) (hp0 : -sg.toInt ≤ 0) : En 6 138 none mr_164 (P_164 σ0 a p sg) 0 [(0, .ref 0), (1, .int a)] [] σ0 := by
  obtain ⟨hl_sg, hu_sg⟩ := WT_int hσ0 (g := 18) hp (by decide +kernel) (l := (-1)) (u := 4) (by decide +kernel) h_sg
  have hF0 : Fr [] σ0 σ0 := Fr_rfl
  refine En_Ps 1 (pc' := 1) (lv' := [(0, .ref 0), (1, .int a)]) (st' := [.ref 0]) rfl ?_
  refine En_getK (j := 9) h_p rfl rfl rfl tgz_0 (by decide +kernel) ?_
  refine En_Ps 1 (pc' := 5) (lv' := [(0, .ref 0), (1, .int a)]) (st' := [.int a, .ref p]) rfl ?_
  refine En_callV rfl rfl rfl rfl rfl rfl rfl rfl hp (by decide +kernel) rfl (c_47 σ0 hσ0 p hp a) (by decide) (by decide) (fun v2 σ3 h1 => ?_)
  obtain ⟨h4, h5, z7, rfl, h6⟩ := h1
  have h8 := Fr_trans hF0 h5 (by decide +kernel)
  refine En_iNe _ rfl rfl (fun h9 => ?_) (fun h9 => ?_)
  · refine En_Ps 4 (pc' := 18) (lv' := [(3, .int ((Int32.ofInt 0))), (2, .int ((Int32.ofInt 0))), (0, .ref 0), (1, .int a)]) (st' := []) rfl ?_
    have key18 : ∀ (n18 : Nat) (σ12 : SG) (y10 : Int32) (y11 : Int32), WT σ12 → Fr [] σ0 σ12 → (σ12 0)[9]? = some (Value.ref p) → (σ12 p)[1]? = some (Value.int sg) → 0 ≤ y11.toInt → y11.toInt ≤ 3 → -y11.toInt + 3 < (n18 : Int) → En 6 138 none mr_164 (P_164 σ0 a p sg) 18 [(0, .ref 0), (1, .int a), (2, .int y10), (3, .int y11)] [] σ12 := by
      intro n18
      induction n18 with
      | zero =>
        intro σ12 y10 y11 h13 h14 h15 h16 h17 h18 h19
        first | exact (q_9f1e7068c9 h19 h18).elim | (exfalso; omega)
      | succ n18 ih18 =>
        intro σ12 y10 y11 h13 h14 h15 h16 h17 h18 h19
        refine En_Ps 2 (pc' := 20) (lv' := [(0, .ref 0), (1, .int a), (2, .int y10), (3, .int y11)]) (st' := [.int ((Int32.ofInt 3)), .int y11]) rfl ?_
        refine En_icGe _ rfl (by decide : (Int32.ofInt 3).toInt = 3) rfl (fun h20 => ?_) (fun h20 => ?_)
        · refine En_Ps 1 (pc' := 65) (lv' := [(0, .ref 0), (1, .int a), (2, .int y10), (3, .int y11)]) (st' := [.int y10]) rfl ?_
          exact En_ret (v := some (Value.int y10)) rfl rfl rfl ⟨h13, h14, y10, rfl, trivial⟩
        · refine En_Ps 2 (pc' := 26) (lv' := [(4, .int ((Int32.ofInt 0))), (0, .ref 0), (1, .int a), (2, .int y10), (3, .int y11)]) (st' := []) rfl ?_
          have key26 : ∀ (n26 : Nat) (σ23 : SG) (y21 : Int32) (y22 : Int32), WT σ23 → Fr [] σ0 σ23 → (σ23 0)[9]? = some (Value.ref p) → (σ23 p)[1]? = some (Value.int sg) → 0 ≤ y22.toInt → y22.toInt ≤ 16 → -y22.toInt + 16 < (n26 : Int) → En 6 138 none mr_164 (P_164 σ0 a p sg) 26 [(0, .ref 0), (1, .int a), (2, .int y21), (3, .int y11), (4, .int y22)] [] σ23 := by
            intro n26
            induction n26 with
            | zero =>
              intro σ23 y21 y22 h24 h25 h26 h27 h28 h29 h30
              first | exact (q_511f6d33ac h30 h29).elim | (exfalso; omega)
            | succ n26 ih26 =>
              intro σ23 y21 y22 h24 h25 h26 h27 h28 h29 h30
              refine En_Ps 2 (pc' := 29) (lv' := [(0, .ref 0), (1, .int a), (2, .int y21), (3, .int y11), (4, .int y22)]) (st' := [.ref 0, .int y22]) rfl ?_
              refine En_getK (j := 9) h26 rfl rfl rfl tgz_0 (by decide +kernel) ?_
              refine En_callV rfl rfl rfl rfl rfl rfl rfl rfl hp (by decide +kernel) rfl (c_51 σ23 h24 p hp sg h27 (by first | exact q_a555021d16 hp0 | omega)) (by decide) (by decide) (fun v32 σ33 h31 => ?_)
              obtain ⟨h34, h35, z37, rfl, h36⟩ := h31
              have h38 := Fr_trans h25 h35 (by decide +kernel)
              refine En_icGe _ rfl rfl rfl (fun h39 => ?_) (fun h39 => ?_)
              · refine En_Ps 1 (pc' := 61) (lv' := [(3, .int ((y11 + Int32.ofInt 1))), (0, .ref 0), (1, .int a), (2, .int y21), (4, .int y22)]) (st' := []) rfl ?_
                refine En_lv1 (addI rfl (by decide : (Int32.ofInt 1).toInt = 1) (by first | exact q_465ab79ac1 h17 | omega) (by first | exact q_6ae830b01d h20 | omega)) (fun z40 h41 => ?_)
                refine En_Ps 1 (pc' := 18) (lv' := [(3, .int z40), (0, .ref 0), (1, .int a), (2, .int y21), (4, .int y22)]) (st' := []) rfl ?_
                refine En_lv (lv := [(0, .ref 0), (1, .int a), (2, .int y21), (3, .int z40)]) ⟨rfl, rfl, rfl, rfl, trivial⟩ ?_
                exact ih18 σ33 y21 z40 h34 h38 ((h35 _ _ (inW tgz_0 (by decide +kernel))).trans h26) ((h35 _ _ (inW hp (by decide +kernel))).trans h27) (by first | exact q_35104ce9d3 h41 h17 | omega) (by first | exact q_84805d5d8e h41 h20 | omega) (by first | exact q_6272716eb4 h41 h19 | omega)
              · refine En_Ps 4 (pc' := 43) (lv' := [(0, .ref 0), (1, .int a), (2, .int y21), (3, .int y11), (4, .int y22)]) (st' := [.int y22, .int y11, .int a, .ref 0]) rfl ?_
                refine En_callV rfl rfl rfl rfl rfl rfl rfl rfl tgz_0 (by decide +kernel) rfl (c_145 σ33 h34 a y11 y22 (geI rfl (by omega)) (leI rfl (by omega)) (geI rfl (by first | exact q_58e6e51dcc h17 | omega)) (leI rfl (by first | exact q_f1519f12c0 h20 | omega)) p hp ((h35 _ _ (inW tgz_0 (by decide +kernel))).trans h26) sg ((h35 _ _ (inW hp (by decide +kernel))).trans h27) (by first | exact q_a555021d16 hp0 | omega)) (by decide) (by decide) (fun v43 σ44 h42 => ?_)
                obtain ⟨h45, h46, z48, rfl, h47⟩ := h42
                have h49 := Fr_trans h38 h46 (by decide +kernel)
                refine En_iEq _ rfl rfl (fun h50 => ?_) (fun h50 => ?_)
                · refine En_Ps 1 (pc' := 55) (lv' := [(4, .int ((y22 + Int32.ofInt 1))), (0, .ref 0), (1, .int a), (2, .int y21), (3, .int y11)]) (st' := []) rfl ?_
                  refine En_lv1 (addI rfl (by decide : (Int32.ofInt 1).toInt = 1) (by first | exact q_465ab79ac1 h28 | omega) (by first | exact q_f3f8e04381 h29 | omega)) (fun z51 h52 => ?_)
                  refine En_Ps 1 (pc' := 26) (lv' := [(4, .int z51), (0, .ref 0), (1, .int a), (2, .int y21), (3, .int y11)]) (st' := []) rfl ?_
                  refine En_lv (lv := [(0, .ref 0), (1, .int a), (2, .int y21), (3, .int y11), (4, .int z51)]) ⟨rfl, rfl, rfl, rfl, rfl, trivial⟩ ?_
                  exact ih26 σ44 y21 z51 h45 h49 ((h46 _ _ (inW tgz_0 (by decide +kernel))).trans ((h35 _ _ (inW tgz_0 (by decide +kernel))).trans h26)) ((h46 _ _ (inW hp (by decide +kernel))).trans ((h35 _ _ (inW hp (by decide +kernel))).trans h27)) (by first | exact q_35104ce9d3 h52 h28 | omega) (by first | exact q_34dc714687 h52 h39 h36.2 | omega) (by first | exact q_c5d740bdff h52 h30 | omega)
                · refine En_Ps 1 (pc' := 52) (lv' := [(2, .int ((y21 + Int32.ofInt 1))), (0, .ref 0), (1, .int a), (3, .int y11), (4, .int y22)]) (st' := []) rfl ?_
                  refine En_lv1h (fun z53 => ?_)
                  refine En_Ps 1 (pc' := 55) (lv' := [(4, .int ((y22 + Int32.ofInt 1))), (2, .int z53), (0, .ref 0), (1, .int a), (3, .int y11)]) (st' := []) rfl ?_
                  refine En_lv1 (addI rfl (by decide : (Int32.ofInt 1).toInt = 1) (by first | exact q_465ab79ac1 h28 | omega) (by first | exact q_f3f8e04381 h29 | omega)) (fun z55 h56 => ?_)
                  refine En_Ps 1 (pc' := 26) (lv' := [(4, .int z55), (2, .int z53), (0, .ref 0), (1, .int a), (3, .int y11)]) (st' := []) rfl ?_
                  refine En_lv (lv := [(0, .ref 0), (1, .int a), (2, .int z53), (3, .int y11), (4, .int z55)]) ⟨rfl, rfl, rfl, rfl, rfl, trivial⟩ ?_
                  exact ih26 σ44 z53 z55 h45 h49 ((h46 _ _ (inW tgz_0 (by decide +kernel))).trans ((h35 _ _ (inW tgz_0 (by decide +kernel))).trans h26)) ((h46 _ _ (inW hp (by decide +kernel))).trans ((h35 _ _ (inW hp (by decide +kernel))).trans h27)) (by first | exact q_35104ce9d3 h56 h28 | omega) (by first | exact q_34dc714687 h56 h39 h36.2 | omega) (by first | exact q_c5d740bdff h56 h30 | omega)
          have := (by decide : (Int32.ofInt 0).toInt = 0)
          refine En_lv (lv := [(0, .ref 0), (1, .int a), (2, .int y10), (3, .int y11), (4, .int ((Int32.ofInt 0)))]) ⟨rfl, rfl, rfl, rfl, rfl, trivial⟩ ?_
          exact key26 (Int.toNat (16) + 1) σ12 y10 ((Int32.ofInt 0)) h13 h14 h15 h16 (by decide) (by decide) (by first | exact toN_lt _ | omega)
    have := (by decide : (Int32.ofInt 0).toInt = 0)
    have := (by decide : (Int32.ofInt 0).toInt = 0)
    refine En_lv (lv := [(0, .ref 0), (1, .int a), (2, .int ((Int32.ofInt 0))), (3, .int ((Int32.ofInt 0)))]) ⟨rfl, rfl, rfl, rfl, trivial⟩ ?_
    exact key18 (Int.toNat (3) + 1) σ3 ((Int32.ofInt 0)) ((Int32.ofInt 0)) h4 h8 ((h5 _ _ (inW tgz_0 (by decide +kernel))).trans h_p) ((h5 _ _ (inW hp (by decide +kernel))).trans h_sg) (by decide) (by decide) (by first | exact toN_lt _ | omega)
  · refine En_Ps 1 (pc' := 13) (lv' := [(0, .ref 0), (1, .int a)]) (st' := [.int (((Int8.ofInt (-2)).toInt32))]) rfl ?_
    refine En_top (by decide : ((Int8.ofInt (-2)).toInt32).toInt = -2) (fun z57 h58 => ?_)
    exact En_ret (v := some (Value.int z57)) rfl rfl rfl ⟨h4, h8, z57, rfl, trivial⟩
/-- DoorSchool.rule(II)I -/
abbrev P_166 (σ0 : SG) (a : Int32) (b : Int32) (p : Nat) (sg : Int32) : PO := fun v σ => WT σ ∧ Fr [] σ0 σ ∧ ∃ ret : Int32, v = some (Value.int ret) ∧ -ret.toInt - 2 ≤ 0 ∧ ret.toInt - 80 ≤ 0
set_option maxRecDepth 10000 in
set_option maxHeartbeats 4000000 in
theorem c_166 (σ0 : SG) (hσ0 : WT σ0) (a : Int32) (b : Int32) (p : Nat) (hp : TG p = 18) (h_p : (σ0 0)[9]? = some (Value.ref p)) (sg : Int32) (h_sg : (σ0 p)[1]? = some (Value.int sg)) (hp0 : -sg.toInt ≤ 0) : En 2 45 none mr_166 (P_166 σ0 a b p sg) 0 [(0, .ref 0), (1, .int a), (2, .int b)] [] σ0 := by
  obtain ⟨hl_sg, hu_sg⟩ := WT_int hσ0 (g := 18) hp (by decide +kernel) (l := (-1)) (u := 4) (by decide +kernel) h_sg
  have hF0 : Fr [] σ0 σ0 := Fr_rfl
  refine En_Ps 1 (pc' := 1) (lv' := [(0, .ref 0), (1, .int a), (2, .int b)]) (st' := [.ref 0]) rfl ?_
  refine En_getK (j := 9) h_p rfl rfl rfl tgz_0 (by decide +kernel) ?_
  refine En_Ps 1 (pc' := 5) (lv' := [(0, .ref 0), (1, .int a), (2, .int b)]) (st' := [.int a, .ref p]) rfl ?_
  refine En_callV rfl rfl rfl rfl rfl rfl rfl rfl hp (by decide +kernel) rfl (c_47 σ0 hσ0 p hp a) (by decide) (by decide) (fun v2 σ3 h1 => ?_)
  obtain ⟨h4, h5, z7, rfl, h6⟩ := h1
  have h8 := Fr_trans hF0 h5 (by decide +kernel)
  refine En_iEq _ rfl rfl (fun h9 => ?_) (fun h9 => ?_)
  · refine En_Ps 1 (pc' := 22) (lv' := [(0, .ref 0), (1, .int a), (2, .int b)]) (st' := [.int (((Int8.ofInt (-2)).toInt32))]) rfl ?_
    refine En_top (by decide : ((Int8.ofInt (-2)).toInt32).toInt = -2) (fun z10 h11 => ?_)
    exact En_ret (v := some (Value.int z10)) rfl rfl rfl ⟨h4, h8, z10, rfl, ⟨by first | exact q_f35c5d346c h11 | omega, by first | exact q_e35b2e457c h11 | omega⟩⟩
  · refine En_Ps 1 (pc' := 12) (lv' := [(0, .ref 0), (1, .int a), (2, .int b)]) (st' := [.int b]) rfl ?_
    refine En_iLt _ rfl rfl (fun h12 => ?_) (fun h12 => ?_)
    · refine En_Ps 1 (pc' := 22) (lv' := [(0, .ref 0), (1, .int a), (2, .int b)]) (st' := [.int (((Int8.ofInt (-2)).toInt32))]) rfl ?_
      refine En_top (by decide : ((Int8.ofInt (-2)).toInt32).toInt = -2) (fun z13 h14 => ?_)
      exact En_ret (v := some (Value.int z13)) rfl rfl rfl ⟨h4, h8, z13, rfl, ⟨by first | exact q_f35c5d346c h14 | omega, by first | exact q_e35b2e457c h14 | omega⟩⟩
    · refine En_Ps 2 (pc' := 17) (lv' := [(0, .ref 0), (1, .int a), (2, .int b)]) (st' := [.int ((Int32.ofInt 2)), .int b]) rfl ?_
      refine En_icLe _ rfl (by decide : (Int32.ofInt 2).toInt = 2) rfl (fun h15 => ?_) (fun h15 => ?_)
      · refine En_Ps 1 (pc' := 24) (lv' := [(0, .ref 0), (1, .int a), (2, .int b)]) (st' := [.ref 0]) rfl ?_
        refine En_getK (j := 9) ((h5 _ _ (inW tgz_0 (by decide +kernel))).trans h_p) rfl rfl rfl tgz_0 (by decide +kernel) ?_
        refine En_getR (j := 4) (g' := 19) (u := 0) rfl rfl rfl hp (by decide +kernel) h4 (by decide +kernel) (fun a17 h16 ha17 => ?_)
        refine En_Ps 1 (pc' := 31) (lv' := [(0, .ref 0), (1, .int a), (2, .int b)]) (st' := [.int a, .ref a17]) rfl ?_
        refine En_aald (g' := 28) (u := 0) rfl rfl ha17 (by decide +kernel) h4 (by omega) (lnI (by decide +kernel : LN _ = 4) (by omega)) (FTsgl (by decide +kernel)) (fun a19 h18 ha19 => ?_)
        refine En_getR (j := 0) (g' := 20) (u := 0) rfl rfl rfl ha19 (by decide +kernel) h4 (by decide +kernel) (fun a21 h20 ha21 => ?_)
        refine En_Ps 2 (pc' := 37) (lv' := [(3, .ref a21), (0, .ref 0), (1, .int a), (2, .int b)]) (st' := [.ref 0]) rfl ?_
        refine En_getU (j := 2) (u := 4) (g' := 4) (q := 0) rfl rfl rfl tgz_0 (by decide +kernel) h4 (by decide +kernel) un_4_4 (fun h22 => ?_)
        refine En_Ps 2 (pc' := 42) (lv' := [(3, .ref a21), (0, .ref 0), (1, .int a), (2, .int b)]) (st' := [.int ((Int32.ofInt 1)), .ref a21, .ref 4]) rfl ?_
        have := (by decide : ((Int32.ofInt 1)).toInt = 1)
        refine En_callV rfl rfl rfl rfl rfl rfl rfl rfl ha21 (by decide +kernel) rfl (c_39 σ3 h4 a21 ha21 ((Int32.ofInt 1))) (by decide) (by decide) (fun v25 σ26 h24 => ?_)
        obtain ⟨h27, h28, z30, rfl, h29⟩ := h24
        have h31 := Fr_trans h8 h28 (by decide +kernel)
        refine En_Ps 2 (pc' := 47) (lv' := [(3, .ref a21), (0, .ref 0), (1, .int a), (2, .int b)]) (st' := [.int ((Int32.ofInt 0)), .ref a21, .int z30, .ref 4]) rfl ?_
        have := (by decide : ((Int32.ofInt 0)).toInt = 0)
        refine En_callV rfl rfl rfl rfl rfl rfl rfl rfl ha21 (by decide +kernel) rfl (c_39 σ26 h27 a21 ha21 ((Int32.ofInt 0))) (by decide) (by decide) (fun v33 σ34 h32 => ?_)
        obtain ⟨h35, h36, z38, rfl, h37⟩ := h32
        have h39 := Fr_trans h31 h36 (by decide +kernel)
        refine En_callV rfl rfl rfl rfl rfl rfl rfl rfl tgz_4 (by decide +kernel) rfl (c_78 σ34 h35 z30 z38) (by decide) (by decide) (fun v41 σ42 h40 => ?_)
        obtain ⟨h43, h44, z46, rfl, h45⟩ := h40
        have h47 := Fr_trans h39 h44 (by decide +kernel)
        refine En_Ps 3 (pc' := 58) (lv' := [(4, .int z46), (3, .ref a21), (0, .ref 0), (1, .int a), (2, .int b)]) (st' := [.int ((Int32.ofInt (-1))), .int z46]) rfl ?_
        refine En_icEq _ rfl (by decide : (Int32.ofInt (-1)).toInt = -1) rfl (fun h48 => ?_) (fun h48 => ?_)
        · refine En_Ps 1 (pc' := 68) (lv' := [(4, .int z46), (3, .ref a21), (0, .ref 0), (1, .int a), (2, .int b)]) (st' := [.int z46]) rfl ?_
          exact En_ret (v := some (Value.int z46)) rfl rfl rfl ⟨h43, h47, z46, rfl, ⟨by first | exact q_108dc72d76 h45.1 | omega, by first | exact q_ed1bd306dd h48 | omega⟩⟩
        · refine En_Ps 2 (pc' := 63) (lv' := [(4, .int z46), (3, .ref a21), (0, .ref 0), (1, .int a), (2, .int b)]) (st' := [.int ((Int32.ofInt 2)), .int b]) rfl ?_
          refine En_icNe _ rfl (by decide : (Int32.ofInt 2).toInt = 2) rfl (fun h49 => ?_) (fun h49 => ?_)
          · refine En_Ps 1 (pc' := 70) (lv' := [(4, .int z46), (3, .ref a21), (0, .ref 0), (1, .int a), (2, .int b)]) (st' := [.int b]) rfl ?_
            refine En_iNe _ rfl rfl (fun h50 => ?_) (fun h50 => ?_)
            · refine En_Ps 1 (pc' := 87) (lv' := [(4, .int z46), (3, .ref a21), (0, .ref 0), (1, .int a), (2, .int b)]) (st' := [.ref 0]) rfl ?_
              refine En_getK (j := 2) ((h44 _ _ (inW tgz_0 (by decide +kernel))).trans ((h36 _ _ (inW tgz_0 (by decide +kernel))).trans ((h28 _ _ (inW tgz_0 (by decide +kernel))).trans h22))) rfl rfl rfl tgz_0 (by decide +kernel) ?_
              refine En_getU (j := 3) (u := 6) (g' := 6) (q := 0) rfl rfl rfl tgz_4 (by decide +kernel) h43 (by decide +kernel) un_6_6 (fun h51 => ?_)
              refine En_Ps 1 (pc' := 95) (lv' := [(4, .int z46), (3, .ref a21), (0, .ref 0), (1, .int a), (2, .int b)]) (st' := [.int z46, .ref 6]) rfl ?_
              refine En_iald (l := 0) (u := 15) rfl rfl tgz_6 (by decide +kernel) h43 (by first | exact q_b1cade0df5 h48 h45.1 | omega) (lnI (by decide +kernel : LN _ = 81) (by first | exact q_3ac9ed8367 h45.2 | omega)) (FTsgl (by decide +kernel)) (fun z54 h53 h55 h56 => ?_)
              exact En_ret (v := some (Value.int z54)) rfl rfl rfl ⟨h43, h47, z54, rfl, ⟨by first | exact q_ea7f0ffdb1 h55 | omega, by first | exact q_8ed889c819 h56 | omega⟩⟩
            · refine En_Ps 1 (pc' := 74) (lv' := [(4, .int z46), (3, .ref a21), (0, .ref 0), (1, .int a), (2, .int b)]) (st' := [.ref 0]) rfl ?_
              refine En_getK (j := 2) ((h44 _ _ (inW tgz_0 (by decide +kernel))).trans ((h36 _ _ (inW tgz_0 (by decide +kernel))).trans ((h28 _ _ (inW tgz_0 (by decide +kernel))).trans h22))) rfl rfl rfl tgz_0 (by decide +kernel) ?_
              refine En_getU (j := 2) (u := 5) (g' := 5) (q := 0) rfl rfl rfl tgz_4 (by decide +kernel) h43 (by decide +kernel) un_5_5 (fun h57 => ?_)
              refine En_Ps 1 (pc' := 82) (lv' := [(4, .int z46), (3, .ref a21), (0, .ref 0), (1, .int a), (2, .int b)]) (st' := [.int z46, .ref 5]) rfl ?_
              refine En_iald (l := 0) (u := 15) rfl rfl tgz_5 (by decide +kernel) h43 (by first | exact q_b1cade0df5 h48 h45.1 | omega) (lnI (by decide +kernel : LN _ = 81) (by first | exact q_3ac9ed8367 h45.2 | omega)) (FTsgl (by decide +kernel)) (fun z60 h59 h61 h62 => ?_)
              refine En_Ps 1 (pc' := 96) (lv' := [(4, .int z46), (3, .ref a21), (0, .ref 0), (1, .int a), (2, .int b)]) (st' := [.int z60]) rfl ?_
              exact En_ret (v := some (Value.int z60)) rfl rfl rfl ⟨h43, h47, z60, rfl, ⟨by first | exact q_ea7f0ffdb1 h61 | omega, by first | exact q_8ed889c819 h62 | omega⟩⟩
          · refine En_Ps 1 (pc' := 68) (lv' := [(4, .int z46), (3, .ref a21), (0, .ref 0), (1, .int a), (2, .int b)]) (st' := [.int z46]) rfl ?_
            exact En_ret (v := some (Value.int z46)) rfl rfl rfl ⟨h43, h47, z46, rfl, ⟨by first | exact q_3d8d12402f h48 h45.1 | omega, by first | exact q_370493a97e h45.2 | omega⟩⟩
      · refine En_Ps 1 (pc' := 22) (lv' := [(0, .ref 0), (1, .int a), (2, .int b)]) (st' := [.int (((Int8.ofInt (-2)).toInt32))]) rfl ?_
        refine En_top (by decide : ((Int8.ofInt (-2)).toInt32).toInt = -2) (fun z63 h64 => ?_)
        exact En_ret (v := some (Value.int z63)) rfl rfl rfl ⟨h4, h8, z63, rfl, ⟨by first | exact q_f35c5d346c h64 | omega, by first | exact q_e35b2e457c h64 | omega⟩⟩
/-- DoorSchool.rules(I)I -/
abbrev P_167 (σ0 : SG) (a : Int32) (p : Nat) (sg : Int32) : PO := fun v σ => WT σ ∧ Fr [] σ0 σ ∧ ∃ ret : Int32, v = some (Value.int ret) ∧ -ret.toInt - 2 ≤ 0 ∧ ret.toInt - 81 ≤ 0
set_option maxRecDepth 10000 in
set_option maxHeartbeats 4000000 in
theorem c_167 (σ0 : SG) (hσ0 : WT σ0) (a : Int32) (p : Nat) (hp : TG p = 18) (h_p : (σ0 0)[9]? = some (Value.ref p)) (sg : Int32) (h_sg : (σ0 p)[1]? = some (Value.int sg)) (hp0 : -sg.toInt ≤ 0) : En 2 46 none mr_167 (P_167 σ0 a p sg) 0 [(0, .ref 0), (1, .int a)] [] σ0 := by
  obtain ⟨hl_sg, hu_sg⟩ := WT_int hσ0 (g := 18) hp (by decide +kernel) (l := (-1)) (u := 4) (by decide +kernel) h_sg
  have hF0 : Fr [] σ0 σ0 := Fr_rfl
  refine En_Ps 1 (pc' := 1) (lv' := [(0, .ref 0), (1, .int a)]) (st' := [.ref 0]) rfl ?_
  refine En_getK (j := 9) h_p rfl rfl rfl tgz_0 (by decide +kernel) ?_
  refine En_Ps 1 (pc' := 5) (lv' := [(0, .ref 0), (1, .int a)]) (st' := [.int a, .ref p]) rfl ?_
  refine En_callV rfl rfl rfl rfl rfl rfl rfl rfl hp (by decide +kernel) rfl (c_47 σ0 hσ0 p hp a) (by decide) (by decide) (fun v2 σ3 h1 => ?_)
  obtain ⟨h4, h5, z7, rfl, h6⟩ := h1
  have h8 := Fr_trans hF0 h5 (by decide +kernel)
  refine En_iNe _ rfl rfl (fun h9 => ?_) (fun h9 => ?_)
  · refine En_Ps 1 (pc' := 15) (lv' := [(0, .ref 0), (1, .int a)]) (st' := [.ref 0]) rfl ?_
    refine En_getK (j := 9) ((h5 _ _ (inW tgz_0 (by decide +kernel))).trans h_p) rfl rfl rfl tgz_0 (by decide +kernel) ?_
    refine En_getR (j := 4) (g' := 19) (u := 0) rfl rfl rfl hp (by decide +kernel) h4 (by decide +kernel) (fun a11 h10 ha11 => ?_)
    refine En_Ps 1 (pc' := 22) (lv' := [(0, .ref 0), (1, .int a)]) (st' := [.int a, .ref a11]) rfl ?_
    refine En_aald (g' := 28) (u := 0) rfl rfl ha11 (by decide +kernel) h4 (by omega) (lnI (by decide +kernel : LN _ = 4) (by omega)) (FTsgl (by decide +kernel)) (fun a13 h12 ha13 => ?_)
    refine En_getR (j := 0) (g' := 20) (u := 0) rfl rfl rfl ha13 (by decide +kernel) h4 (by decide +kernel) (fun a15 h14 ha15 => ?_)
    refine En_Ps 2 (pc' := 28) (lv' := [(2, .ref a15), (0, .ref 0), (1, .int a)]) (st' := [.ref 0]) rfl ?_
    refine En_getU (j := 2) (u := 4) (g' := 4) (q := 0) rfl rfl rfl tgz_0 (by decide +kernel) h4 (by decide +kernel) un_4_4 (fun h16 => ?_)
    refine En_Ps 2 (pc' := 33) (lv' := [(2, .ref a15), (0, .ref 0), (1, .int a)]) (st' := [.int ((Int32.ofInt 1)), .ref a15, .ref 4]) rfl ?_
    have := (by decide : ((Int32.ofInt 1)).toInt = 1)
    refine En_callV rfl rfl rfl rfl rfl rfl rfl rfl ha15 (by decide +kernel) rfl (c_39 σ3 h4 a15 ha15 ((Int32.ofInt 1))) (by decide) (by decide) (fun v19 σ20 h18 => ?_)
    obtain ⟨h21, h22, z24, rfl, h23⟩ := h18
    have h25 := Fr_trans h8 h22 (by decide +kernel)
    refine En_Ps 2 (pc' := 38) (lv' := [(2, .ref a15), (0, .ref 0), (1, .int a)]) (st' := [.int ((Int32.ofInt 0)), .ref a15, .int z24, .ref 4]) rfl ?_
    have := (by decide : ((Int32.ofInt 0)).toInt = 0)
    refine En_callV rfl rfl rfl rfl rfl rfl rfl rfl ha15 (by decide +kernel) rfl (c_39 σ20 h21 a15 ha15 ((Int32.ofInt 0))) (by decide) (by decide) (fun v27 σ28 h26 => ?_)
    obtain ⟨h29, h30, z32, rfl, h31⟩ := h26
    have h33 := Fr_trans h25 h30 (by decide +kernel)
    refine En_callV rfl rfl rfl rfl rfl rfl rfl rfl tgz_4 (by decide +kernel) rfl (c_79 σ28 h29 z24 z32) (by decide) (by decide) (fun v35 σ36 h34 => ?_)
    obtain ⟨h37, h38, z40, rfl, h39⟩ := h34
    have h41 := Fr_trans h33 h38 (by decide +kernel)
    exact En_ret (v := some (Value.int z40)) rfl rfl rfl ⟨h37, h41, z40, rfl, ⟨by first | exact q_70a249c7f8 h39.1 | omega, by first | exact q_62172f5eca h39.2 | omega⟩⟩
  · refine En_Ps 1 (pc' := 13) (lv' := [(0, .ref 0), (1, .int a)]) (st' := [.int (((Int8.ofInt (-2)).toInt32))]) rfl ?_
    refine En_top (by decide : ((Int8.ofInt (-2)).toInt32).toInt = -2) (fun z42 h43 => ?_)
    exact En_ret (v := some (Value.int z42)) rfl rfl rfl ⟨h4, h8, z42, rfl, ⟨by first | exact q_f35c5d346c h43 | omega, by first | exact q_a224a6b9a0 h43 | omega⟩⟩
end
/-! 32.lx.c13 -/
section
/-- DoorSchool.same(I)I -/
abbrev P_168 (σ0 : SG) (a : Int32) (p : Nat) (sg : Int32) : PO := fun v σ => WT σ ∧ Fr [] σ0 σ ∧ ∃ ret : Int32, v = some (Value.int ret) ∧ -ret.toInt - 6 ≤ 0 ∧ ret.toInt - 15 ≤ 0
set_option maxRecDepth 10000 in
set_option maxHeartbeats 4000000 in
theorem c_168 (σ0 : SG) (hσ0 : WT σ0) (a : Int32) (p : Nat) (hp : TG p = 18) (h_p : (σ0 0)[9]? = some (Value.ref p)) (sg : Int32) (h_sg : (σ0 p)[1]? = some (Value.int sg)) (hp0 : -sg.toInt ≤ 0) : En 4 92 none mr_168 (P_168 σ0 a p sg) 0 [(0, .ref 0), (1, .int a)] [] σ0 := by
  obtain ⟨hl_sg, hu_sg⟩ := WT_int hσ0 (g := 18) hp (by decide +kernel) (l := (-1)) (u := 4) (by decide +kernel) h_sg
  have hF0 : Fr [] σ0 σ0 := Fr_rfl
  refine En_Ps 2 (pc' := 2) (lv' := [(0, .ref 0), (1, .int a)]) (st' := [.int a, .ref 0]) rfl ?_
  refine En_callV rfl rfl rfl rfl rfl rfl rfl rfl tgz_0 (by decide +kernel) rfl (c_180 σ0 hσ0 a p hp h_p sg h_sg (by first | exact q_a555021d16 hp0 | omega)) (by decide) (by decide) (fun v2 σ3 h1 => ?_)
  obtain ⟨h4, h5, z7, rfl, h6⟩ := h1
  have h8 := Fr_trans hF0 h5 (by decide +kernel)
  refine En_Ps 2 (pc' := 7) (lv' := [(2, .int z7), (0, .ref 0), (1, .int a)]) (st' := [.int z7]) rfl ?_
  refine En_iEq _ rfl rfl (fun h9 => ?_) (fun h9 => ?_)
  · refine En_Ps 1 (pc' := 13) (lv' := [(2, .int z7), (0, .ref 0), (1, .int a)]) (st' := [.ref 0]) rfl ?_
    refine En_getU (j := 6) (u := 150) (g' := 32) (q := 0) rfl rfl rfl tgz_0 (by decide +kernel) h4 (by decide +kernel) un_32_150 (fun h10 => ?_)
    refine En_Ps 1 (pc' := 17) (lv' := [(2, .int z7), (0, .ref 0), (1, .int a)]) (st' := [.int a, .ref 150]) rfl ?_
    refine En_aald (g' := 33) (u := 0) rfl rfl tgz_150 (by decide +kernel) h4 (by omega) (lnI (by decide +kernel : LN _ = 4) (by omega)) (FTsgl (by decide +kernel)) (fun a13 h12 ha13 => ?_)
    refine En_Ps 1 (pc' := 19) (lv' := [(2, .int z7), (0, .ref 0), (1, .int a)]) (st' := [.int ((Int32.ofInt 1)), .ref a13]) rfl ?_
    have := (by decide : ((Int32.ofInt 1)).toInt = 1)
    refine En_callV rfl rfl rfl rfl rfl rfl rfl rfl ha13 (by decide +kernel) rfl (c_89 σ3 h4 a13 ha13 ((Int32.ofInt 1))) (by decide) (by decide) (fun v15 σ16 h14 => ?_)
    obtain ⟨h17, h18, z20, rfl, h19⟩ := h14
    have h21 := Fr_trans h8 h18 (by decide +kernel)
    refine En_Ps 2 (pc' := 24) (lv' := [(3, .int z20), (2, .int z7), (0, .ref 0), (1, .int a)]) (st' := [.ref 0]) rfl ?_
    refine En_getK (j := 6) ((h18 _ _ (inW tgz_0 (by decide +kernel))).trans h10) rfl rfl rfl tgz_0 (by decide +kernel) ?_
    refine En_Ps 1 (pc' := 28) (lv' := [(3, .int z20), (2, .int z7), (0, .ref 0), (1, .int a)]) (st' := [.int a, .ref 150]) rfl ?_
    refine En_aald (g' := 33) (u := 0) rfl rfl tgz_150 (by decide +kernel) h17 (by omega) (lnI (by decide +kernel : LN _ = 4) (by omega)) (FTsgl (by decide +kernel)) (fun a23 h22 ha23 => ?_)
    refine En_Ps 1 (pc' := 30) (lv' := [(3, .int z20), (2, .int z7), (0, .ref 0), (1, .int a)]) (st' := [.int ((Int32.ofInt 0)), .ref a23]) rfl ?_
    have := (by decide : ((Int32.ofInt 0)).toInt = 0)
    refine En_callV rfl rfl rfl rfl rfl rfl rfl rfl ha23 (by decide +kernel) rfl (c_89 σ16 h17 a23 ha23 ((Int32.ofInt 0))) (by decide) (by decide) (fun v25 σ26 h24 => ?_)
    obtain ⟨h27, h28, z30, rfl, h29⟩ := h24
    have h31 := Fr_trans h21 h28 (by decide +kernel)
    refine En_Ps 5 (pc' := 41) (lv' := [(6, .int ((Int32.ofInt 0))), (5, .int ((Int32.ofInt 0))), (4, .int z30), (3, .int z20), (2, .int z7), (0, .ref 0), (1, .int a)]) (st' := []) rfl ?_
    have key41 : ∀ (n41 : Nat) (σ34 : SG) (y32 : Int32) (y33 : Int32), WT σ34 → Fr [] σ0 σ34 → (σ34 0)[9]? = some (Value.ref p) → (σ34 p)[1]? = some (Value.int sg) → (σ34 0)[6]? = some (Value.ref 150) → (σ34 150)[(a.toInt).toNat]? = some (Value.ref a23) → 0 ≤ y32.toInt → y32.toInt ≤ 15 → 0 ≤ y33.toInt → y33.toInt ≤ 4 → -y33.toInt + 4 < (n41 : Int) → En 4 92 none mr_168 (P_168 σ0 a p sg) 41 [(0, .ref 0), (1, .int a), (2, .int z7), (3, .int z20), (4, .int z30), (5, .int y32), (6, .int y33)] [] σ34 := by
      intro n41
      induction n41 with
      | zero =>
        intro σ34 y32 y33 h35 h36 h37 h38 h39 h40 h41 h42 h43 h44 h45
        first | exact (q_20d6385c6f h45 h44).elim | (exfalso; omega)
      | succ n41 ih41 =>
        intro σ34 y32 y33 h35 h36 h37 h38 h39 h40 h41 h42 h43 h44 h45
        refine En_Ps 2 (pc' := 44) (lv' := [(0, .ref 0), (1, .int a), (2, .int z7), (3, .int z20), (4, .int z30), (5, .int y32), (6, .int y33)]) (st' := [.ref 0, .int y33]) rfl ?_
        refine En_getK (j := 9) h37 rfl rfl rfl tgz_0 (by decide +kernel) ?_
        refine En_getI (j := 3) (l := 0) (u := 4) rfl rfl rfl hp (by decide +kernel) h35 (by decide +kernel) (fun z47 h46 h48 h49 => ?_)
        refine En_icGe _ rfl rfl rfl (fun h50 => ?_) (fun h50 => ?_)
        · refine En_Ps 1 (pc' := 85) (lv' := [(0, .ref 0), (1, .int a), (2, .int z7), (3, .int z20), (4, .int z30), (5, .int y32), (6, .int y33)]) (st' := [.int y32]) rfl ?_
          exact En_ret (v := some (Value.int y32)) rfl rfl rfl ⟨h35, h36, y32, rfl, ⟨by first | exact q_7430e21245 h41 | omega, by first | exact q_867a9ac627 h42 | omega⟩⟩
        · refine En_Ps 2 (pc' := 56) (lv' := [(0, .ref 0), (1, .int a), (2, .int z7), (3, .int z20), (4, .int z30), (5, .int y32), (6, .int y33)]) (st' := [.int y33, .ref 0]) rfl ?_
          refine En_callV rfl rfl rfl rfl rfl rfl rfl rfl tgz_0 (by decide +kernel) rfl (c_114 σ34 h35 y33 (geI rfl (by first | exact q_58e6e51dcc h43 | omega)) (leI rfl (by first | exact q_5ab2e90ecc h50 h49 | omega)) p hp h37 sg h38 (by first | exact q_a555021d16 hp0 | omega)) (by decide) (by decide) (fun v52 σ53 h51 => ?_)
          obtain ⟨h54, h55, z57, rfl, h56⟩ := h51
          have h58 := Fr_trans h36 h55 (by decide +kernel)
          refine En_Ps 2 (pc' := 62) (lv' := [(0, .ref 0), (1, .int a), (2, .int z7), (3, .int z20), (4, .int z30), (5, .int y32), (6, .int y33)]) (st' := [.int z30, .int z20, .int z57]) rfl ?_
          refine En_callS rfl rfl rfl rfl rfl rfl rfl rfl rfl (c_100 σ53 h54 z57 z20 z30) (by decide) (by decide) (fun v60 σ61 h59 => ?_)
          obtain ⟨h62, h63, z65, rfl, h64⟩ := h59
          have h66 := Fr_trans h58 h63 (by decide +kernel)
          refine En_iEq _ rfl rfl (fun h67 => ?_) (fun h67 => ?_)
          · refine En_Ps 1 (pc' := 80) (lv' := [(6, .int ((y33 + Int32.ofInt 1))), (0, .ref 0), (1, .int a), (2, .int z7), (3, .int z20), (4, .int z30), (5, .int y32)]) (st' := []) rfl ?_
            refine En_lv1 (addI rfl (by decide : (Int32.ofInt 1).toInt = 1) (by first | exact q_465ab79ac1 h43 | omega) (by first | exact q_f7282962fd h44 | omega)) (fun z68 h69 => ?_)
            refine En_Ps 1 (pc' := 41) (lv' := [(6, .int z68), (0, .ref 0), (1, .int a), (2, .int z7), (3, .int z20), (4, .int z30), (5, .int y32)]) (st' := []) rfl ?_
            refine En_lv (lv := [(0, .ref 0), (1, .int a), (2, .int z7), (3, .int z20), (4, .int z30), (5, .int y32), (6, .int z68)]) ⟨rfl, rfl, rfl, rfl, rfl, rfl, rfl, trivial⟩ ?_
            exact ih41 σ61 y32 z68 h62 h66 ((h63 _ _ (inW tgz_0 (by decide +kernel))).trans ((h55 _ _ (inW tgz_0 (by decide +kernel))).trans h37)) ((h63 _ _ (inW hp (by decide +kernel))).trans ((h55 _ _ (inW hp (by decide +kernel))).trans h38)) ((h63 _ _ (inW tgz_0 (by decide +kernel))).trans ((h55 _ _ (inW tgz_0 (by decide +kernel))).trans h39)) ((h63 _ _ (inWa tgz_150 (by decide +kernel))).trans ((h55 _ _ (inWa tgz_150 (by decide +kernel))).trans h40)) (by first | exact q_58e6e51dcc h41 | omega) (by first | exact q_5a4d8a7e08 h42 | omega) (by first | exact q_35104ce9d3 h69 h43 | omega) (by first | exact q_de42116b63 h69 h50 h49 | omega) (by first | exact q_3d8d70ace2 h69 h45 | omega)
          · refine En_Ps 4 (pc' := 74) (lv' := [(0, .ref 0), (1, .int a), (2, .int z7), (3, .int z20), (4, .int z30), (5, .int y32), (6, .int y33)]) (st' := [.int ((((Int32.ofInt 1)) <<< (y33 &&& 31))), .int y32]) rfl ?_
            refine En_rng (shl1_p 3 rfl (by omega) (by omega) (by decide)) (fun z70 h71 h72 => ?_)
            refine En_Ps 1 (pc' := 75) (lv' := [(0, .ref 0), (1, .int a), (2, .int z7), (3, .int z20), (4, .int z30), (5, .int y32), (6, .int y33)]) (st' := [.int ((y32 ||| z70))]) rfl ?_
            refine En_rng (l := 0) (u := 15) (or_rng 4 rfl rfl (by omega) (by omega) (by omega) (by omega) (by decide)) (fun z73 h74 h75 => ?_)
            refine En_Ps 2 (pc' := 80) (lv' := [(6, .int ((y33 + Int32.ofInt 1))), (5, .int z73), (0, .ref 0), (1, .int a), (2, .int z7), (3, .int z20), (4, .int z30)]) (st' := []) rfl ?_
            refine En_lv1 (addI rfl (by decide : (Int32.ofInt 1).toInt = 1) (by first | exact q_465ab79ac1 h43 | omega) (by first | exact q_f7282962fd h44 | omega)) (fun z76 h77 => ?_)
            refine En_Ps 1 (pc' := 41) (lv' := [(6, .int z76), (5, .int z73), (0, .ref 0), (1, .int a), (2, .int z7), (3, .int z20), (4, .int z30)]) (st' := []) rfl ?_
            refine En_lv (lv := [(0, .ref 0), (1, .int a), (2, .int z7), (3, .int z20), (4, .int z30), (5, .int z73), (6, .int z76)]) ⟨rfl, rfl, rfl, rfl, rfl, rfl, rfl, trivial⟩ ?_
            exact ih41 σ61 z73 z76 h62 h66 ((h63 _ _ (inW tgz_0 (by decide +kernel))).trans ((h55 _ _ (inW tgz_0 (by decide +kernel))).trans h37)) ((h63 _ _ (inW hp (by decide +kernel))).trans ((h55 _ _ (inW hp (by decide +kernel))).trans h38)) ((h63 _ _ (inW tgz_0 (by decide +kernel))).trans ((h55 _ _ (inW tgz_0 (by decide +kernel))).trans h39)) ((h63 _ _ (inWa tgz_150 (by decide +kernel))).trans ((h55 _ _ (inWa tgz_150 (by decide +kernel))).trans h40)) (by first | exact q_58e6e51dcc h74 | omega) (by first | exact q_5a4d8a7e08 h75 | omega) (by first | exact q_35104ce9d3 h77 h43 | omega) (by first | exact q_de42116b63 h77 h50 h49 | omega) (by first | exact q_3d8d70ace2 h77 h45 | omega)
    have := (by decide : (Int32.ofInt 0).toInt = 0)
    have := (by decide : (Int32.ofInt 0).toInt = 0)
    refine En_lv (lv := [(0, .ref 0), (1, .int a), (2, .int z7), (3, .int z20), (4, .int z30), (5, .int ((Int32.ofInt 0))), (6, .int ((Int32.ofInt 0)))]) ⟨rfl, rfl, rfl, rfl, rfl, rfl, rfl, trivial⟩ ?_
    exact key41 (Int.toNat (4) + 1) σ26 ((Int32.ofInt 0)) ((Int32.ofInt 0)) h27 h31 ((h28 _ _ (inW tgz_0 (by decide +kernel))).trans ((h18 _ _ (inW tgz_0 (by decide +kernel))).trans ((h5 _ _ (inW tgz_0 (by decide +kernel))).trans h_p))) ((h28 _ _ (inW hp (by decide +kernel))).trans ((h18 _ _ (inW hp (by decide +kernel))).trans ((h5 _ _ (inW hp (by decide +kernel))).trans h_sg))) ((h28 _ _ (inW tgz_0 (by decide +kernel))).trans ((h18 _ _ (inW tgz_0 (by decide +kernel))).trans h10)) ((h28 _ _ (inWa tgz_150 (by decide +kernel))).trans h22) (by decide) (by decide) (by decide) (by decide) (by first | exact toN_lt _ | omega)
  · refine En_Ps 1 (pc' := 11) (lv' := [(2, .int z7), (0, .ref 0), (1, .int a)]) (st' := [.int z7]) rfl ?_
    exact En_ret (v := some (Value.int z7)) rfl rfl rfl ⟨h4, h8, z7, rfl, ⟨by first | exact q_629d629181 h6.1 | omega, by first | exact q_c633bca181 h9 h6.2.1 | omega⟩⟩
/-- DoorSchool.sets(III)I -/
abbrev P_170 (σ0 : SG) (a : Int32) (b : Int32) (c : Int32) (p : Nat) (sg : Int32) : PO := fun v σ => WT σ ∧ Fr [] σ0 σ ∧ ∃ ret : Int32, v = some (Value.int ret) ∧ -ret.toInt - 2 ≤ 0 ∧ ret.toInt - 65536 ≤ 0
set_option maxRecDepth 10000 in
set_option maxHeartbeats 4000000 in
theorem c_170 (σ0 : SG) (hσ0 : WT σ0) (a : Int32) (b : Int32) (c : Int32) (p : Nat) (hp : TG p = 18) (h_p : (σ0 0)[9]? = some (Value.ref p)) (sg : Int32) (h_sg : (σ0 p)[1]? = some (Value.int sg)) (hp0 : -sg.toInt ≤ 0) : En 6 145 none mr_170 (P_170 σ0 a b c p sg) 0 [(0, .ref 0), (1, .int a), (2, .int b), (3, .int c)] [] σ0 := by
  obtain ⟨hl_sg, hu_sg⟩ := WT_int hσ0 (g := 18) hp (by decide +kernel) (l := (-1)) (u := 4) (by decide +kernel) h_sg
  have hF0 : Fr [] σ0 σ0 := Fr_rfl
  refine En_Ps 1 (pc' := 1) (lv' := [(0, .ref 0), (1, .int a), (2, .int b), (3, .int c)]) (st' := [.int a]) rfl ?_
  refine En_callS rfl rfl rfl rfl rfl rfl rfl rfl rfl (c_148 σ0 hσ0 a) (by decide) (by decide) (fun v2 σ3 h1 => ?_)
  obtain ⟨h4, h5, z7, rfl, h6⟩ := h1
  have h8 := Fr_trans hF0 h5 (by decide +kernel)
  refine En_iEq _ rfl rfl (fun h9 => ?_) (fun h9 => ?_)
  · refine En_Ps 1 (pc' := 30) (lv' := [(0, .ref 0), (1, .int a), (2, .int b), (3, .int c)]) (st' := [.int (((Int8.ofInt (-2)).toInt32))]) rfl ?_
    refine En_top (by decide : ((Int8.ofInt (-2)).toInt32).toInt = -2) (fun z10 h11 => ?_)
    exact En_ret (v := some (Value.int z10)) rfl rfl rfl ⟨h4, h8, z10, rfl, ⟨by first | exact q_f35c5d346c h11 | omega, by first | exact q_2eeef1728f h11 | omega⟩⟩
  · refine En_Ps 1 (pc' := 8) (lv' := [(0, .ref 0), (1, .int a), (2, .int b), (3, .int c)]) (st' := [.ref 0]) rfl ?_
    refine En_getK (j := 9) ((h5 _ _ (inW tgz_0 (by decide +kernel))).trans h_p) rfl rfl rfl tgz_0 (by decide +kernel) ?_
    refine En_Ps 1 (pc' := 12) (lv' := [(0, .ref 0), (1, .int a), (2, .int b), (3, .int c)]) (st' := [.int b, .ref p]) rfl ?_
    refine En_callV rfl rfl rfl rfl rfl rfl rfl rfl hp (by decide +kernel) rfl (c_46 σ3 h4 p hp b sg ((h5 _ _ (inW hp (by decide +kernel))).trans h_sg) (by first | exact q_a555021d16 hp0 | omega)) (by decide) (by decide) (fun v13 σ14 h12 => ?_)
    obtain ⟨h15, h16, z18, rfl, h17⟩ := h12
    have h19 := Fr_trans h8 h16 (by decide +kernel)
    refine En_iEq _ rfl rfl (fun h20 => ?_) (fun h20 => ?_)
    · refine En_Ps 1 (pc' := 30) (lv' := [(0, .ref 0), (1, .int a), (2, .int b), (3, .int c)]) (st' := [.int (((Int8.ofInt (-2)).toInt32))]) rfl ?_
      refine En_top (by decide : ((Int8.ofInt (-2)).toInt32).toInt = -2) (fun z21 h22 => ?_)
      exact En_ret (v := some (Value.int z21)) rfl rfl rfl ⟨h15, h19, z21, rfl, ⟨by first | exact q_f35c5d346c h22 | omega, by first | exact q_2eeef1728f h22 | omega⟩⟩
    · refine En_Ps 1 (pc' := 19) (lv' := [(0, .ref 0), (1, .int a), (2, .int b), (3, .int c)]) (st' := [.int c]) rfl ?_
      refine En_iLt _ rfl rfl (fun h23 => ?_) (fun h23 => ?_)
      · refine En_Ps 1 (pc' := 30) (lv' := [(0, .ref 0), (1, .int a), (2, .int b), (3, .int c)]) (st' := [.int (((Int8.ofInt (-2)).toInt32))]) rfl ?_
        refine En_top (by decide : ((Int8.ofInt (-2)).toInt32).toInt = -2) (fun z24 h25 => ?_)
        exact En_ret (v := some (Value.int z24)) rfl rfl rfl ⟨h15, h19, z24, rfl, ⟨by first | exact q_f35c5d346c h25 | omega, by first | exact q_2eeef1728f h25 | omega⟩⟩
      · refine En_Ps 2 (pc' := 25) (lv' := [(0, .ref 0), (1, .int a), (2, .int b), (3, .int c)]) (st' := [.int (((Int8.ofInt 16).toInt32)), .int c]) rfl ?_
        refine En_icLe _ rfl (by decide : ((Int8.ofInt 16).toInt32).toInt = 16) rfl (fun h26 => ?_) (fun h26 => ?_)
        · refine En_Ps 1 (pc' := 32) (lv' := [(0, .ref 0), (1, .int a), (2, .int b), (3, .int c)]) (st' := [.ref 0]) rfl ?_
          refine En_getU (j := 3) (u := 8) (g' := 8) (q := 0) rfl rfl rfl tgz_0 (by decide +kernel) h15 (by decide +kernel) un_8_8 (fun h27 => ?_)
          refine En_Ps 3 (pc' := 38) (lv' := [(0, .ref 0), (1, .int a), (2, .int b), (3, .int c)]) (st' := [.int c, .int b, .int a, .ref 8]) rfl ?_
          refine En_callV rfl rfl rfl rfl rfl rfl rfl rfl tgz_8 (by decide +kernel) rfl (c_29 σ14 h15 a b c) (by decide) (by decide) (fun v30 σ31 h29 => ?_)
          obtain ⟨h32, h33, z35, rfl, h34⟩ := h29
          have h36 := Fr_trans h19 h33 (by decide +kernel)
          exact En_ret (v := some (Value.int z35)) rfl rfl rfl ⟨h32, h36, z35, rfl, ⟨by first | exact q_70a249c7f8 h34.1 | omega, by first | exact q_c5fc87f58a h34.2 | omega⟩⟩
        · refine En_Ps 1 (pc' := 30) (lv' := [(0, .ref 0), (1, .int a), (2, .int b), (3, .int c)]) (st' := [.int (((Int8.ofInt (-2)).toInt32))]) rfl ?_
          refine En_top (by decide : ((Int8.ofInt (-2)).toInt32).toInt = -2) (fun z37 h38 => ?_)
          exact En_ret (v := some (Value.int z37)) rfl rfl rfl ⟨h15, h19, z37, rfl, ⟨by first | exact q_f35c5d346c h38 | omega, by first | exact q_2eeef1728f h38 | omega⟩⟩
/-- DoorSchool.storm(III)I -/
abbrev P_172 (σ0 : SG) (a : Int32) (b : Int32) (c : Int32) (p : Nat) (sg : Int32) : PO := fun v σ => WT σ ∧ Fr [] σ0 σ ∧ ∃ ret : Int32, v = some (Value.int ret) ∧ True
set_option maxRecDepth 10000 in
set_option maxHeartbeats 4000000 in
theorem c_172 (σ0 : SG) (hσ0 : WT σ0) (a : Int32) (b : Int32) (c : Int32) (p : Nat) (hp : TG p = 18) (h_p : (σ0 0)[9]? = some (Value.ref p)) (sg : Int32) (h_sg : (σ0 p)[1]? = some (Value.int sg)) (hp0 : -sg.toInt ≤ 0) : En 5 118 none mr_172 (P_172 σ0 a b c p sg) 0 [(0, .ref 0), (1, .int a), (2, .int b), (3, .int c)] [] σ0 := by
  obtain ⟨hl_sg, hu_sg⟩ := WT_int hσ0 (g := 18) hp (by decide +kernel) (l := (-1)) (u := 4) (by decide +kernel) h_sg
  have hF0 : Fr [] σ0 σ0 := Fr_rfl
  refine En_Ps 1 (pc' := 1) (lv' := [(0, .ref 0), (1, .int a), (2, .int b), (3, .int c)]) (st' := [.int a]) rfl ?_
  refine En_callS rfl rfl rfl rfl rfl rfl rfl rfl rfl (c_146 σ0 hσ0 a) (by decide) (by decide) (fun v2 σ3 h1 => ?_)
  obtain ⟨h4, h5, z7, rfl, h6⟩ := h1
  have h8 := Fr_trans hF0 h5 (by decide +kernel)
  refine En_iEq _ rfl rfl (fun h9 => ?_) (fun h9 => ?_)
  · refine En_Ps 1 (pc' := 20) (lv' := [(0, .ref 0), (1, .int a), (2, .int b), (3, .int c)]) (st' := [.int (((Int8.ofInt (-2)).toInt32))]) rfl ?_
    refine En_top (by decide : ((Int8.ofInt (-2)).toInt32).toInt = -2) (fun z10 h11 => ?_)
    exact En_ret (v := some (Value.int z10)) rfl rfl rfl ⟨h4, h8, z10, rfl, trivial⟩
  · refine En_Ps 1 (pc' := 8) (lv' := [(0, .ref 0), (1, .int a), (2, .int b), (3, .int c)]) (st' := [.ref 0]) rfl ?_
    refine En_getK (j := 9) ((h5 _ _ (inW tgz_0 (by decide +kernel))).trans h_p) rfl rfl rfl tgz_0 (by decide +kernel) ?_
    refine En_Ps 1 (pc' := 12) (lv' := [(0, .ref 0), (1, .int a), (2, .int b), (3, .int c)]) (st' := [.int b, .ref p]) rfl ?_
    refine En_callV rfl rfl rfl rfl rfl rfl rfl rfl hp (by decide +kernel) rfl (c_47 σ3 h4 p hp b) (by decide) (by decide) (fun v13 σ14 h12 => ?_)
    obtain ⟨h15, h16, z18, rfl, h17⟩ := h12
    have h19 := Fr_trans h8 h16 (by decide +kernel)
    refine En_iNe _ rfl rfl (fun h20 => ?_) (fun h20 => ?_)
    · refine En_Ps 3 (pc' := 24) (lv' := [(0, .ref 0), (1, .int a), (2, .int b), (3, .int c)]) (st' := [.int b, .int a, .ref 0]) rfl ?_
      refine En_callV rfl rfl rfl rfl rfl rfl rfl rfl tgz_0 (by decide +kernel) rfl (c_115 σ14 h15 a b (geI rfl (by omega)) (leI rfl (by omega)) (geI rfl (by omega)) (leI rfl (by omega)) p hp ((h16 _ _ (inW tgz_0 (by decide +kernel))).trans ((h5 _ _ (inW tgz_0 (by decide +kernel))).trans h_p)) sg ((h16 _ _ (inW hp (by decide +kernel))).trans ((h5 _ _ (inW hp (by decide +kernel))).trans h_sg)) (by first | exact q_a555021d16 hp0 | omega)) (by decide) (by decide) (fun v22 σ23 h21 => ?_)
      obtain ⟨h24, h25, z27, rfl, h26⟩ := h21
      have h28 := Fr_trans h19 h25 (by decide +kernel)
      refine En_Ps 2 (pc' := 30) (lv' := [(4, .int z27), (0, .ref 0), (1, .int a), (2, .int b), (3, .int c)]) (st' := [.int c]) rfl ?_
      rcases (show c.toInt = 0 ∨ c.toInt = 1 ∨ c.toInt = 2 ∨ c.toInt < 0 ∨ 2 < c.toInt by omega) with h29 | h29 | h29 | h29 | h29
      · refine En_swI (t := 56) (n := 0) rfl h29 rfl (by decide +kernel) ?_
        refine En_Ps 1 (pc' := 58) (lv' := [(4, .int z27), (0, .ref 0), (1, .int a), (2, .int b), (3, .int c)]) (st' := [.int z27]) rfl ?_
        exact En_ret (v := some (Value.int z27)) rfl rfl rfl ⟨h24, h28, z27, rfl, trivial⟩
      · refine En_swI (t := 59) (n := 1) rfl h29 rfl (by decide +kernel) ?_
        refine En_Ps 2 (pc' := 62) (lv' := [(4, .int z27), (0, .ref 0), (1, .int a), (2, .int b), (3, .int c)]) (st' := [.int z27, .ref 0]) rfl ?_
        refine En_callV rfl rfl rfl rfl rfl rfl rfl rfl tgz_0 (by decide +kernel) rfl (c_156 σ23 h24 z27 p hp ((h25 _ _ (inW tgz_0 (by decide +kernel))).trans ((h16 _ _ (inW tgz_0 (by decide +kernel))).trans ((h5 _ _ (inW tgz_0 (by decide +kernel))).trans h_p))) sg ((h25 _ _ (inW hp (by decide +kernel))).trans ((h16 _ _ (inW hp (by decide +kernel))).trans ((h5 _ _ (inW hp (by decide +kernel))).trans h_sg))) (by first | exact q_a555021d16 hp0 | omega)) (by decide) (by decide) (fun v31 σ32 h30 => ?_)
        obtain ⟨h33, h34, z36, rfl, h35⟩ := h30
        have h37 := Fr_trans h28 h34 (by decide +kernel)
        exact En_ret (v := some (Value.int z36)) rfl rfl rfl ⟨h33, h37, z36, rfl, trivial⟩
      · refine En_swI (t := 66) (n := 2) rfl h29 rfl (by decide +kernel) ?_
        refine En_Ps 3 (pc' := 70) (lv' := [(4, .int z27), (0, .ref 0), (1, .int a), (2, .int b), (3, .int c)]) (st' := [.int b, .ref 0, .int z27]) rfl ?_
        refine En_callV rfl rfl rfl rfl rfl rfl rfl rfl tgz_0 (by decide +kernel) rfl (c_114 σ23 h24 b (geI rfl (by omega)) (leI rfl (by omega)) p hp ((h25 _ _ (inW tgz_0 (by decide +kernel))).trans ((h16 _ _ (inW tgz_0 (by decide +kernel))).trans ((h5 _ _ (inW tgz_0 (by decide +kernel))).trans h_p))) sg ((h25 _ _ (inW hp (by decide +kernel))).trans ((h16 _ _ (inW hp (by decide +kernel))).trans ((h5 _ _ (inW hp (by decide +kernel))).trans h_sg))) (by first | exact q_a555021d16 hp0 | omega)) (by decide) (by decide) (fun v39 σ40 h38 => ?_)
        obtain ⟨h41, h42, z44, rfl, h43⟩ := h38
        have h45 := Fr_trans h28 h42 (by decide +kernel)
        refine En_Ps 1 (pc' := 74) (lv' := [(4, .int z27), (0, .ref 0), (1, .int a), (2, .int b), (3, .int c)]) (st' := [.int ((z27 ^^^ z44))]) rfl ?_
        refine En_hav (fun z46 => ?_)
        refine En_callS rfl rfl rfl rfl rfl rfl rfl rfl rfl (c_7 σ40 h41 z46) (by decide) (by decide) (fun v48 σ49 h47 => ?_)
        obtain ⟨h50, h51, z53, rfl, h52⟩ := h47
        have h54 := Fr_trans h45 h51 (by decide +kernel)
        exact En_ret (v := some (Value.int z53)) rfl rfl rfl ⟨h50, h54, z53, rfl, trivial⟩
      · refine En_swO (t := 78) rfl (by omega) rfl (by decide +kernel) ?_
        refine En_Ps 1 (pc' := 80) (lv' := [(4, .int z27), (0, .ref 0), (1, .int a), (2, .int b), (3, .int c)]) (st' := [.int (((Int8.ofInt (-2)).toInt32))]) rfl ?_
        refine En_top (by decide : ((Int8.ofInt (-2)).toInt32).toInt = -2) (fun z55 h56 => ?_)
        exact En_ret (v := some (Value.int z55)) rfl rfl rfl ⟨h24, h28, z55, rfl, trivial⟩
      · refine En_swO (t := 78) rfl (by omega) rfl (by decide +kernel) ?_
        refine En_Ps 1 (pc' := 80) (lv' := [(4, .int z27), (0, .ref 0), (1, .int a), (2, .int b), (3, .int c)]) (st' := [.int (((Int8.ofInt (-2)).toInt32))]) rfl ?_
        refine En_top (by decide : ((Int8.ofInt (-2)).toInt32).toInt = -2) (fun z57 h58 => ?_)
        exact En_ret (v := some (Value.int z57)) rfl rfl rfl ⟨h24, h28, z57, rfl, trivial⟩
    · refine En_Ps 1 (pc' := 20) (lv' := [(0, .ref 0), (1, .int a), (2, .int b), (3, .int c)]) (st' := [.int (((Int8.ofInt (-2)).toInt32))]) rfl ?_
      refine En_top (by decide : ((Int8.ofInt (-2)).toInt32).toInt = -2) (fun z59 h60 => ?_)
      exact En_ret (v := some (Value.int z59)) rfl rfl rfl ⟨h15, h19, z59, rfl, trivial⟩
/-- DoorSchool.sure(II)I -/
abbrev P_173 (σ0 : SG) (a : Int32) (b : Int32) (p : Nat) (sg : Int32) : PO := fun v σ => WT σ ∧ Fr [] σ0 σ ∧ ∃ ret : Int32, v = some (Value.int ret) ∧ -ret.toInt - 6 ≤ 0 ∧ ret.toInt - 65535 ≤ 0
set_option maxRecDepth 10000 in
set_option maxHeartbeats 4000000 in
theorem c_173 (σ0 : SG) (hσ0 : WT σ0) (a : Int32) (b : Int32) (p : Nat) (hp : TG p = 18) (h_p : (σ0 0)[9]? = some (Value.ref p)) (sg : Int32) (h_sg : (σ0 p)[1]? = some (Value.int sg)) (hp0 : -sg.toInt ≤ 0) : En 2 47 none mr_173 (P_173 σ0 a b p sg) 0 [(0, .ref 0), (1, .int a), (2, .int b)] [] σ0 := by
  obtain ⟨hl_sg, hu_sg⟩ := WT_int hσ0 (g := 18) hp (by decide +kernel) (l := (-1)) (u := 4) (by decide +kernel) h_sg
  have hF0 : Fr [] σ0 σ0 := Fr_rfl
  refine En_Ps 1 (pc' := 1) (lv' := [(0, .ref 0), (1, .int a), (2, .int b)]) (st' := [.int b]) rfl ?_
  refine En_callS rfl rfl rfl rfl rfl rfl rfl rfl rfl (c_149 σ0 hσ0 b) (by decide) (by decide) (fun v2 σ3 h1 => ?_)
  obtain ⟨h4, h5, z7, rfl, h6⟩ := h1
  have h8 := Fr_trans hF0 h5 (by decide +kernel)
  refine En_iEq _ rfl rfl (fun h9 => ?_) (fun h9 => ?_)
  · refine En_Ps 3 (pc' := 19) (lv' := [(3, .int (((Int8.ofInt (-2)).toInt32))), (0, .ref 0), (1, .int a), (2, .int b)]) (st' := [.int (((Int8.ofInt (-2)).toInt32))]) rfl ?_
    refine En_iEq _ (by decide : ((Int8.ofInt (-2)).toInt32).toInt = -2) rfl (fun hx => by first | exact (q_5b19fa5313 hx).elim | (exfalso; omega)) (fun h10 => ?_)
    refine En_Ps 1 (pc' := 23) (lv' := [(3, .int (((Int8.ofInt (-2)).toInt32))), (0, .ref 0), (1, .int a), (2, .int b)]) (st' := [.int (((Int8.ofInt (-2)).toInt32))]) rfl ?_
    refine En_top (by decide : ((Int8.ofInt (-2)).toInt32).toInt = -2) (fun z11 h12 => ?_)
    exact En_ret (v := some (Value.int z11)) rfl rfl rfl ⟨h4, h8, z11, rfl, ⟨by first | exact q_2583522324 h12 | omega, by first | exact q_7aab8371ca h12 | omega⟩⟩
  · refine En_Ps 2 (pc' := 9) (lv' := [(0, .ref 0), (1, .int a), (2, .int b)]) (st' := [.int a, .ref 0]) rfl ?_
    refine En_callV rfl rfl rfl rfl rfl rfl rfl rfl tgz_0 (by decide +kernel) rfl (c_180 σ3 h4 a p hp ((h5 _ _ (inW tgz_0 (by decide +kernel))).trans h_p) sg ((h5 _ _ (inW hp (by decide +kernel))).trans h_sg) (by first | exact q_a555021d16 hp0 | omega)) (by decide) (by decide) (fun v14 σ15 h13 => ?_)
    obtain ⟨h16, h17, z19, rfl, h18⟩ := h13
    have h20 := Fr_trans h8 h17 (by decide +kernel)
    refine En_Ps 3 (pc' := 19) (lv' := [(3, .int z19), (0, .ref 0), (1, .int a), (2, .int b)]) (st' := [.int z19]) rfl ?_
    refine En_iEq _ rfl rfl (fun h21 => ?_) (fun h21 => ?_)
    · refine En_Ps 1 (pc' := 25) (lv' := [(3, .int z19), (0, .ref 0), (1, .int a), (2, .int b)]) (st' := [.ref 0]) rfl ?_
      refine En_getU (j := 2) (u := 4) (g' := 4) (q := 0) rfl rfl rfl tgz_0 (by decide +kernel) h16 (by decide +kernel) un_4_4 (fun h22 => ?_)
      refine En_Ps 1 (pc' := 29) (lv' := [(3, .int z19), (0, .ref 0), (1, .int a), (2, .int b)]) (st' := [.ref 0, .ref 4]) rfl ?_
      refine En_getU (j := 6) (u := 150) (g' := 32) (q := 0) rfl rfl rfl tgz_0 (by decide +kernel) h16 (by decide +kernel) un_32_150 (fun h24 => ?_)
      refine En_Ps 1 (pc' := 33) (lv' := [(3, .int z19), (0, .ref 0), (1, .int a), (2, .int b)]) (st' := [.int a, .ref 150, .ref 4]) rfl ?_
      refine En_aald (g' := 33) (u := 0) rfl rfl tgz_150 (by decide +kernel) h16 (by omega) (lnI (by decide +kernel : LN _ = 4) (by omega)) (FTsgl (by decide +kernel)) (fun a27 h26 ha27 => ?_)
      refine En_Ps 1 (pc' := 35) (lv' := [(3, .int z19), (0, .ref 0), (1, .int a), (2, .int b)]) (st' := [.int ((Int32.ofInt 1)), .ref a27, .ref 4]) rfl ?_
      have := (by decide : ((Int32.ofInt 1)).toInt = 1)
      refine En_callV rfl rfl rfl rfl rfl rfl rfl rfl ha27 (by decide +kernel) rfl (c_89 σ15 h16 a27 ha27 ((Int32.ofInt 1))) (by decide) (by decide) (fun v29 σ30 h28 => ?_)
      obtain ⟨h31, h32, z34, rfl, h33⟩ := h28
      have h35 := Fr_trans h20 h32 (by decide +kernel)
      refine En_Ps 1 (pc' := 39) (lv' := [(3, .int z19), (0, .ref 0), (1, .int a), (2, .int b)]) (st' := [.ref 0, .int z34, .ref 4]) rfl ?_
      refine En_getK (j := 6) ((h32 _ _ (inW tgz_0 (by decide +kernel))).trans h24) rfl rfl rfl tgz_0 (by decide +kernel) ?_
      refine En_Ps 1 (pc' := 43) (lv' := [(3, .int z19), (0, .ref 0), (1, .int a), (2, .int b)]) (st' := [.int a, .ref 150, .int z34, .ref 4]) rfl ?_
      refine En_aald (g' := 33) (u := 0) rfl rfl tgz_150 (by decide +kernel) h31 (by omega) (lnI (by decide +kernel : LN _ = 4) (by omega)) (FTsgl (by decide +kernel)) (fun a37 h36 ha37 => ?_)
      refine En_Ps 1 (pc' := 45) (lv' := [(3, .int z19), (0, .ref 0), (1, .int a), (2, .int b)]) (st' := [.int ((Int32.ofInt 0)), .ref a37, .int z34, .ref 4]) rfl ?_
      have := (by decide : ((Int32.ofInt 0)).toInt = 0)
      refine En_callV rfl rfl rfl rfl rfl rfl rfl rfl ha37 (by decide +kernel) rfl (c_89 σ30 h31 a37 ha37 ((Int32.ofInt 0))) (by decide) (by decide) (fun v39 σ40 h38 => ?_)
      obtain ⟨h41, h42, z44, rfl, h43⟩ := h38
      have h45 := Fr_trans h35 h42 (by decide +kernel)
      refine En_Ps 1 (pc' := 49) (lv' := [(3, .int z19), (0, .ref 0), (1, .int a), (2, .int b)]) (st' := [.int b, .int z44, .int z34, .ref 4]) rfl ?_
      refine En_iNe _ rfl rfl (fun h46 => ?_) (fun h46 => ?_)
      · refine En_Ps 1 (pc' := 57) (lv' := [(3, .int z19), (0, .ref 0), (1, .int a), (2, .int b)]) (st' := [.int ((Int32.ofInt 0)), .int z44, .int z34, .ref 4]) rfl ?_
        have := (by decide : ((Int32.ofInt 0)).toInt = 0)
        refine En_callV rfl rfl rfl rfl rfl rfl rfl rfl tgz_4 (by decide +kernel) rfl (c_83 σ40 h41 z34 z44 ((Int32.ofInt 0)) (geI (by decide : (Int32.ofInt 0).toInt = 0) (by decide)) (leI (by decide : (Int32.ofInt 0).toInt = 0) (by decide))) (by decide) (by decide) (fun v48 σ49 h47 => ?_)
        obtain ⟨h50, h51, z53, rfl, h52⟩ := h47
        have h54 := Fr_trans h45 h51 (by decide +kernel)
        exact En_ret (v := some (Value.int z53)) rfl rfl rfl ⟨h50, h54, z53, rfl, ⟨by first | exact q_8061444f0d h52.1 | omega, by first | exact q_ef123ba13c h52.2 | omega⟩⟩
      · refine En_Ps 2 (pc' := 57) (lv' := [(3, .int z19), (0, .ref 0), (1, .int a), (2, .int b)]) (st' := [.int ((Int32.ofInt 1)), .int z44, .int z34, .ref 4]) rfl ?_
        have := (by decide : ((Int32.ofInt 1)).toInt = 1)
        refine En_callV rfl rfl rfl rfl rfl rfl rfl rfl tgz_4 (by decide +kernel) rfl (c_83 σ40 h41 z34 z44 ((Int32.ofInt 1)) (geI (by decide : (Int32.ofInt 1).toInt = 1) (by decide)) (leI (by decide : (Int32.ofInt 1).toInt = 1) (by decide))) (by decide) (by decide) (fun v56 σ57 h55 => ?_)
        obtain ⟨h58, h59, z61, rfl, h60⟩ := h55
        have h62 := Fr_trans h45 h59 (by decide +kernel)
        exact En_ret (v := some (Value.int z61)) rfl rfl rfl ⟨h58, h62, z61, rfl, ⟨by first | exact q_8061444f0d h60.1 | omega, by first | exact q_ef123ba13c h60.2 | omega⟩⟩
    · refine En_Ps 1 (pc' := 23) (lv' := [(3, .int z19), (0, .ref 0), (1, .int a), (2, .int b)]) (st' := [.int z19]) rfl ?_
      exact En_ret (v := some (Value.int z19)) rfl rfl rfl ⟨h16, h20, z19, rfl, ⟨by first | exact q_629d629181 h18.1 | omega, by first | exact q_7c313bac4c h21 h18.2.1 | omega⟩⟩
/-- DoorSchool.told(II)I -/
abbrev P_176 (σ0 : SG) (a : Int32) (b : Int32) (p : Nat) (sg : Int32) : PO := fun v σ => WT σ ∧ Fr [] σ0 σ ∧ ∃ ret : Int32, v = some (Value.int ret) ∧ -ret.toInt - 2 ≤ 0 ∧ ret.toInt - 15 ≤ 0
set_option maxRecDepth 10000 in
set_option maxHeartbeats 4000000 in
theorem c_176 (σ0 : SG) (hσ0 : WT σ0) (a : Int32) (b : Int32) (p : Nat) (hp : TG p = 18) (h_p : (σ0 0)[9]? = some (Value.ref p)) (sg : Int32) (h_sg : (σ0 p)[1]? = some (Value.int sg)) (hp0 : -sg.toInt ≤ 0) : En 2 41 none mr_176 (P_176 σ0 a b p sg) 0 [(0, .ref 0), (1, .int a), (2, .int b)] [] σ0 := by
  obtain ⟨hl_sg, hu_sg⟩ := WT_int hσ0 (g := 18) hp (by decide +kernel) (l := (-1)) (u := 4) (by decide +kernel) h_sg
  have hF0 : Fr [] σ0 σ0 := Fr_rfl
  refine En_Ps 1 (pc' := 1) (lv' := [(0, .ref 0), (1, .int a), (2, .int b)]) (st' := [.ref 0]) rfl ?_
  refine En_getK (j := 9) h_p rfl rfl rfl tgz_0 (by decide +kernel) ?_
  refine En_Ps 1 (pc' := 5) (lv' := [(0, .ref 0), (1, .int a), (2, .int b)]) (st' := [.int a, .ref p]) rfl ?_
  refine En_callV rfl rfl rfl rfl rfl rfl rfl rfl hp (by decide +kernel) rfl (c_46 σ0 hσ0 p hp a sg h_sg (by first | exact q_a555021d16 hp0 | omega)) (by decide) (by decide) (fun v2 σ3 h1 => ?_)
  obtain ⟨h4, h5, z7, rfl, h6⟩ := h1
  have h8 := Fr_trans hF0 h5 (by decide +kernel)
  refine En_iEq _ rfl rfl (fun h9 => ?_) (fun h9 => ?_)
  · refine En_Ps 1 (pc' := 20) (lv' := [(0, .ref 0), (1, .int a), (2, .int b)]) (st' := [.int (((Int8.ofInt (-2)).toInt32))]) rfl ?_
    refine En_top (by decide : ((Int8.ofInt (-2)).toInt32).toInt = -2) (fun z10 h11 => ?_)
    exact En_ret (v := some (Value.int z10)) rfl rfl rfl ⟨h4, h8, z10, rfl, ⟨by first | exact q_f35c5d346c h11 | omega, by first | exact q_12a74e12a3 h11 | omega⟩⟩
  · refine En_Ps 1 (pc' := 12) (lv' := [(0, .ref 0), (1, .int a), (2, .int b)]) (st' := [.int b]) rfl ?_
    refine En_callS rfl rfl rfl rfl rfl rfl rfl rfl rfl (c_149 σ3 h4 b) (by decide) (by decide) (fun v13 σ14 h12 => ?_)
    obtain ⟨h15, h16, z18, rfl, h17⟩ := h12
    have h19 := Fr_trans h8 h16 (by decide +kernel)
    refine En_iNe _ rfl rfl (fun h20 => ?_) (fun h20 => ?_)
    · refine En_Ps 1 (pc' := 22) (lv' := [(0, .ref 0), (1, .int a), (2, .int b)]) (st' := [.ref 0]) rfl ?_
      refine En_getU (j := 2) (u := 4) (g' := 4) (q := 0) rfl rfl rfl tgz_0 (by decide +kernel) h15 (by decide +kernel) un_4_4 (fun h21 => ?_)
      refine En_Ps 1 (pc' := 26) (lv' := [(0, .ref 0), (1, .int a), (2, .int b)]) (st' := [.int a, .ref 4]) rfl ?_
      refine En_callV rfl rfl rfl rfl rfl rfl rfl rfl tgz_4 (by decide +kernel) rfl (c_81 σ14 h15 a) (by decide) (by decide) (fun v24 σ25 h23 => ?_)
      obtain ⟨h26, h27, z29, rfl, h28⟩ := h23
      have h30 := Fr_trans h19 h27 (by decide +kernel)
      refine En_Ps 3 (pc' := 32) (lv' := [(3, .int z29), (0, .ref 0), (1, .int a), (2, .int b)]) (st' := [.int ((Int32.ofInt (-1))), .int z29]) rfl ?_
      refine En_icNe _ rfl (by decide : (Int32.ofInt (-1)).toInt = -1) rfl (fun h31 => ?_) (fun h31 => ?_)
      · refine En_Ps 1 (pc' := 38) (lv' := [(3, .int z29), (0, .ref 0), (1, .int a), (2, .int b)]) (st' := [.int b]) rfl ?_
        refine En_iNe _ rfl rfl (fun h32 => ?_) (fun h32 => ?_)
        · refine En_Ps 1 (pc' := 54) (lv' := [(3, .int z29), (0, .ref 0), (1, .int a), (2, .int b)]) (st' := [.ref 0]) rfl ?_
          refine En_getK (j := 2) ((h27 _ _ (inW tgz_0 (by decide +kernel))).trans h21) rfl rfl rfl tgz_0 (by decide +kernel) ?_
          refine En_getU (j := 3) (u := 6) (g' := 6) (q := 0) rfl rfl rfl tgz_4 (by decide +kernel) h26 (by decide +kernel) un_6_6 (fun h33 => ?_)
          refine En_Ps 1 (pc' := 61) (lv' := [(3, .int z29), (0, .ref 0), (1, .int a), (2, .int b)]) (st' := [.int z29, .ref 6]) rfl ?_
          refine En_iald (l := 0) (u := 15) rfl rfl tgz_6 (by decide +kernel) h26 (by first | exact q_b1cade0df5 h31 h28.1 | omega) (lnI (by decide +kernel : LN _ = 81) (by first | exact q_3ac9ed8367 h28.2 | omega)) (FTsgl (by decide +kernel)) (fun z36 h35 h37 h38 => ?_)
          exact En_ret (v := some (Value.int z36)) rfl rfl rfl ⟨h26, h30, z36, rfl, ⟨by first | exact q_ea7f0ffdb1 h37 | omega, by first | exact q_867a9ac627 h38 | omega⟩⟩
        · refine En_Ps 1 (pc' := 42) (lv' := [(3, .int z29), (0, .ref 0), (1, .int a), (2, .int b)]) (st' := [.ref 0]) rfl ?_
          refine En_getK (j := 2) ((h27 _ _ (inW tgz_0 (by decide +kernel))).trans h21) rfl rfl rfl tgz_0 (by decide +kernel) ?_
          refine En_getU (j := 2) (u := 5) (g' := 5) (q := 0) rfl rfl rfl tgz_4 (by decide +kernel) h26 (by decide +kernel) un_5_5 (fun h39 => ?_)
          refine En_Ps 1 (pc' := 49) (lv' := [(3, .int z29), (0, .ref 0), (1, .int a), (2, .int b)]) (st' := [.int z29, .ref 5]) rfl ?_
          refine En_iald (l := 0) (u := 15) rfl rfl tgz_5 (by decide +kernel) h26 (by first | exact q_b1cade0df5 h31 h28.1 | omega) (lnI (by decide +kernel : LN _ = 81) (by first | exact q_3ac9ed8367 h28.2 | omega)) (FTsgl (by decide +kernel)) (fun z42 h41 h43 h44 => ?_)
          refine En_Ps 1 (pc' := 62) (lv' := [(3, .int z29), (0, .ref 0), (1, .int a), (2, .int b)]) (st' := [.int z42]) rfl ?_
          exact En_ret (v := some (Value.int z42)) rfl rfl rfl ⟨h26, h30, z42, rfl, ⟨by first | exact q_ea7f0ffdb1 h43 | omega, by first | exact q_867a9ac627 h44 | omega⟩⟩
      · refine En_Ps 1 (pc' := 36) (lv' := [(3, .int z29), (0, .ref 0), (1, .int a), (2, .int b)]) (st' := [.int ((Int32.ofInt (-1)))]) rfl ?_
        refine En_top (by decide : (Int32.ofInt (-1)).toInt = -1) (fun z45 h46 => ?_)
        exact En_ret (v := some (Value.int z45)) rfl rfl rfl ⟨h26, h30, z45, rfl, ⟨by first | exact q_e1de8c7867 h46 | omega, by first | exact q_af62099904 h46 | omega⟩⟩
    · refine En_Ps 1 (pc' := 20) (lv' := [(0, .ref 0), (1, .int a), (2, .int b)]) (st' := [.int (((Int8.ofInt (-2)).toInt32))]) rfl ?_
      refine En_top (by decide : ((Int8.ofInt (-2)).toInt32).toInt = -2) (fun z47 h48 => ?_)
      exact En_ret (v := some (Value.int z47)) rfl rfl rfl ⟨h15, h19, z47, rfl, ⟨by first | exact q_f35c5d346c h48 | omega, by first | exact q_12a74e12a3 h48 | omega⟩⟩
/-- DoorSchool.trick(II)I -/
abbrev P_178 (σ0 : SG) (a : Int32) (b : Int32) (p : Nat) (sg : Int32) : PO := fun v σ => WT σ ∧ Fr [] σ0 σ ∧ ∃ ret : Int32, v = some (Value.int ret) ∧ -ret.toInt - 2 ≤ 0 ∧ ret.toInt - 15 ≤ 0
set_option maxRecDepth 10000 in
set_option maxHeartbeats 4000000 in
theorem c_178 (σ0 : SG) (hσ0 : WT σ0) (a : Int32) (b : Int32) (p : Nat) (hp : TG p = 18) (h_p : (σ0 0)[9]? = some (Value.ref p)) (sg : Int32) (h_sg : (σ0 p)[1]? = some (Value.int sg)) (hp0 : -sg.toInt ≤ 0) : En 4 92 none mr_178 (P_178 σ0 a b p sg) 0 [(0, .ref 0), (1, .int a), (2, .int b)] [] σ0 := by
  obtain ⟨hl_sg, hu_sg⟩ := WT_int hσ0 (g := 18) hp (by decide +kernel) (l := (-1)) (u := 4) (by decide +kernel) h_sg
  have hF0 : Fr [] σ0 σ0 := Fr_rfl
  refine En_Ps 1 (pc' := 1) (lv' := [(0, .ref 0), (1, .int a), (2, .int b)]) (st' := [.ref 0]) rfl ?_
  refine En_getK (j := 9) h_p rfl rfl rfl tgz_0 (by decide +kernel) ?_
  refine En_Ps 1 (pc' := 5) (lv' := [(0, .ref 0), (1, .int a), (2, .int b)]) (st' := [.int a, .ref p]) rfl ?_
  refine En_callV rfl rfl rfl rfl rfl rfl rfl rfl hp (by decide +kernel) rfl (c_47 σ0 hσ0 p hp a) (by decide) (by decide) (fun v2 σ3 h1 => ?_)
  obtain ⟨h4, h5, z7, rfl, h6⟩ := h1
  have h8 := Fr_trans hF0 h5 (by decide +kernel)
  refine En_iEq _ rfl rfl (fun h9 => ?_) (fun h9 => ?_)
  · refine En_Ps 1 (pc' := 24) (lv' := [(0, .ref 0), (1, .int a), (2, .int b)]) (st' := [.int (((Int8.ofInt (-2)).toInt32))]) rfl ?_
    refine En_top (by decide : ((Int8.ofInt (-2)).toInt32).toInt = -2) (fun z10 h11 => ?_)
    exact En_ret (v := some (Value.int z10)) rfl rfl rfl ⟨h4, h8, z10, rfl, ⟨by first | exact q_f35c5d346c h11 | omega, by first | exact q_12a74e12a3 h11 | omega⟩⟩
  · refine En_Ps 1 (pc' := 12) (lv' := [(0, .ref 0), (1, .int a), (2, .int b)]) (st' := [.ref 0]) rfl ?_
    refine En_getK (j := 9) ((h5 _ _ (inW tgz_0 (by decide +kernel))).trans h_p) rfl rfl rfl tgz_0 (by decide +kernel) ?_
    refine En_Ps 1 (pc' := 16) (lv' := [(0, .ref 0), (1, .int a), (2, .int b)]) (st' := [.int b, .ref p]) rfl ?_
    refine En_callV rfl rfl rfl rfl rfl rfl rfl rfl hp (by decide +kernel) rfl (c_49 σ3 h4 p hp b sg ((h5 _ _ (inW hp (by decide +kernel))).trans h_sg) (by first | exact q_a555021d16 hp0 | omega)) (by decide) (by decide) (fun v13 σ14 h12 => ?_)
    obtain ⟨h15, h16, z18, rfl, h17⟩ := h12
    have h19 := Fr_trans h8 h16 (by decide +kernel)
    refine En_iNe _ rfl rfl (fun h20 => ?_) (fun h20 => ?_)
    · refine En_Ps 2 (pc' := 27) (lv' := [(0, .ref 0), (1, .int a), (2, .int b)]) (st' := [.int a, .ref 0]) rfl ?_
      refine En_callV rfl rfl rfl rfl rfl rfl rfl rfl tgz_0 (by decide +kernel) rfl (c_114 σ14 h15 a (geI rfl (by omega)) (leI rfl (by omega)) p hp ((h16 _ _ (inW tgz_0 (by decide +kernel))).trans ((h5 _ _ (inW tgz_0 (by decide +kernel))).trans h_p)) sg ((h16 _ _ (inW hp (by decide +kernel))).trans ((h5 _ _ (inW hp (by decide +kernel))).trans h_sg)) (by first | exact q_a555021d16 hp0 | omega)) (by decide) (by decide) (fun v22 σ23 h21 => ?_)
      obtain ⟨h24, h25, z27, rfl, h26⟩ := h21
      have h28 := Fr_trans h19 h25 (by decide +kernel)
      refine En_Ps 7 (pc' := 40) (lv' := [(6, .int ((Int32.ofInt 0))), (5, .int ((Int32.ofInt 5))), (4, .int ((Int32.ofInt (-1)))), (3, .int z27), (0, .ref 0), (1, .int a), (2, .int b)]) (st' := []) rfl ?_
      have key40 : ∀ (n40 : Nat) (σ32 : SG) (y29 : Int32) (y30 : Int32) (y31 : Int32), WT σ32 → Fr [] σ0 σ32 → (σ32 0)[9]? = some (Value.ref p) → (σ32 p)[1]? = some (Value.int sg) → (-1) ≤ y29.toInt → y29.toInt ≤ 15 → 0 ≤ y30.toInt → y30.toInt ≤ 5 → 0 ≤ y31.toInt → y31.toInt ≤ 16 → y29.toInt - y31.toInt + 1 ≤ 0 → -y31.toInt + 16 < (n40 : Int) → En 4 92 none mr_178 (P_178 σ0 a b p sg) 40 [(0, .ref 0), (1, .int a), (2, .int b), (3, .int z27), (4, .int y29), (5, .int y30), (6, .int y31)] [] σ32 := by
        intro n40
        induction n40 with
        | zero =>
          intro σ32 y29 y30 y31 h33 h34 h35 h36 h37 h38 h39 h40 h41 h42 h43 h44
          first | exact (q_511f6d33ac h44 h42).elim | (exfalso; omega)
        | succ n40 ih40 =>
          intro σ32 y29 y30 y31 h33 h34 h35 h36 h37 h38 h39 h40 h41 h42 h43 h44
          refine En_Ps 2 (pc' := 43) (lv' := [(0, .ref 0), (1, .int a), (2, .int b), (3, .int z27), (4, .int y29), (5, .int y30), (6, .int y31)]) (st' := [.ref 0, .int y31]) rfl ?_
          refine En_getK (j := 9) h35 rfl rfl rfl tgz_0 (by decide +kernel) ?_
          refine En_callV rfl rfl rfl rfl rfl rfl rfl rfl hp (by decide +kernel) rfl (c_51 σ32 h33 p hp sg h36 (by first | exact q_a555021d16 hp0 | omega)) (by decide) (by decide) (fun v46 σ47 h45 => ?_)
          obtain ⟨h48, h49, z51, rfl, h50⟩ := h45
          have h52 := Fr_trans h34 h49 (by decide +kernel)
          refine En_icGe _ rfl rfl rfl (fun h53 => ?_) (fun h53 => ?_)
          · refine En_Ps 1 (pc' := 94) (lv' := [(0, .ref 0), (1, .int a), (2, .int b), (3, .int z27), (4, .int y29), (5, .int y30), (6, .int y31)]) (st' := [.int y29]) rfl ?_
            exact En_ret (v := some (Value.int y29)) rfl rfl rfl ⟨h48, h52, y29, rfl, ⟨by first | exact q_fe58cd40d0 h37 | omega, by first | exact q_867a9ac627 h38 | omega⟩⟩
          · refine En_Ps 3 (pc' := 56) (lv' := [(0, .ref 0), (1, .int a), (2, .int b), (3, .int z27), (4, .int y29), (5, .int y30), (6, .int y31)]) (st' := [.int ((y31 ^^^ b))]) rfl ?_
            refine En_hav (fun z54 => ?_)
            refine En_callS rfl rfl rfl rfl rfl rfl rfl rfl rfl (c_7 σ47 h48 z54) (by decide) (by decide) (fun v56 σ57 h55 => ?_)
            obtain ⟨h58, h59, z61, rfl, h60⟩ := h55
            have h62 := Fr_trans h52 h59 (by decide +kernel)
            refine En_Ps 3 (pc' := 64) (lv' := [(7, .int z61), (0, .ref 0), (1, .int a), (2, .int b), (3, .int z27), (4, .int y29), (5, .int y30), (6, .int y31)]) (st' := [.int y31, .int z27]) rfl ?_
            refine En_callS rfl rfl rfl rfl rfl rfl rfl rfl rfl (c_108 σ57 h58 z27 y31) (by decide) (by decide) (fun v64 σ65 h63 => ?_)
            obtain ⟨h66, h67, z69, rfl, h68⟩ := h63
            have h70 := Fr_trans h62 h67 (by decide +kernel)
            refine En_Ps 1 (pc' := 68) (lv' := [(7, .int z61), (0, .ref 0), (1, .int a), (2, .int b), (3, .int z27), (4, .int y29), (5, .int y30), (6, .int y31)]) (st' := [.int ((Int32.ofInt 1)), .int z69]) rfl ?_
            refine En_icNe _ rfl (by decide : (Int32.ofInt 1).toInt = 1) rfl (fun h71 => ?_) (fun h71 => ?_)
            · refine En_Ps 1 (pc' := 89) (lv' := [(6, .int ((y31 + Int32.ofInt 1))), (7, .int z61), (0, .ref 0), (1, .int a), (2, .int b), (3, .int z27), (4, .int y29), (5, .int y30)]) (st' := []) rfl ?_
              refine En_lv1 (addI rfl (by decide : (Int32.ofInt 1).toInt = 1) (by first | exact q_465ab79ac1 h41 | omega) (by first | exact q_f3f8e04381 h42 | omega)) (fun z72 h73 => ?_)
              refine En_Ps 1 (pc' := 40) (lv' := [(6, .int z72), (7, .int z61), (0, .ref 0), (1, .int a), (2, .int b), (3, .int z27), (4, .int y29), (5, .int y30)]) (st' := []) rfl ?_
              refine En_lv (lv := [(0, .ref 0), (1, .int a), (2, .int b), (3, .int z27), (4, .int y29), (5, .int y30), (6, .int z72)]) ⟨rfl, rfl, rfl, rfl, rfl, rfl, rfl, trivial⟩ ?_
              exact ih40 σ65 y29 y30 z72 h66 h70 ((h67 _ _ (inW tgz_0 (by decide +kernel))).trans ((h59 _ _ (inW tgz_0 (by decide +kernel))).trans ((h49 _ _ (inW tgz_0 (by decide +kernel))).trans h35))) ((h67 _ _ (inW hp (by decide +kernel))).trans ((h59 _ _ (inW hp (by decide +kernel))).trans ((h49 _ _ (inW hp (by decide +kernel))).trans h36))) (by first | exact q_77b189e83d h37 | omega) (by first | exact q_5a4d8a7e08 h38 | omega) (by first | exact q_58e6e51dcc h39 | omega) (by first | exact q_d9092b5ca1 h40 | omega) (by first | exact q_35104ce9d3 h73 h41 | omega) (by first | exact q_34dc714687 h73 h53 h50.2 | omega) (by first | exact q_6591527e3e h43 h73 | omega) (by first | exact q_c5d740bdff h73 h44 | omega)
            · refine En_Ps 2 (pc' := 75) (lv' := [(7, .int z61), (0, .ref 0), (1, .int a), (2, .int b), (3, .int z27), (4, .int y29), (5, .int y30), (6, .int y31)]) (st' := [.int y30, .int z61]) rfl ?_
              refine En_icGe _ rfl rfl rfl (fun h74 => ?_) (fun h74 => ?_)
              · refine En_Ps 1 (pc' := 89) (lv' := [(6, .int ((y31 + Int32.ofInt 1))), (7, .int z61), (0, .ref 0), (1, .int a), (2, .int b), (3, .int z27), (4, .int y29), (5, .int y30)]) (st' := []) rfl ?_
                refine En_lv1 (addI rfl (by decide : (Int32.ofInt 1).toInt = 1) (by first | exact q_465ab79ac1 h41 | omega) (by first | exact q_f3f8e04381 h42 | omega)) (fun z75 h76 => ?_)
                refine En_Ps 1 (pc' := 40) (lv' := [(6, .int z75), (7, .int z61), (0, .ref 0), (1, .int a), (2, .int b), (3, .int z27), (4, .int y29), (5, .int y30)]) (st' := []) rfl ?_
                refine En_lv (lv := [(0, .ref 0), (1, .int a), (2, .int b), (3, .int z27), (4, .int y29), (5, .int y30), (6, .int z75)]) ⟨rfl, rfl, rfl, rfl, rfl, rfl, rfl, trivial⟩ ?_
                exact ih40 σ65 y29 y30 z75 h66 h70 ((h67 _ _ (inW tgz_0 (by decide +kernel))).trans ((h59 _ _ (inW tgz_0 (by decide +kernel))).trans ((h49 _ _ (inW tgz_0 (by decide +kernel))).trans h35))) ((h67 _ _ (inW hp (by decide +kernel))).trans ((h59 _ _ (inW hp (by decide +kernel))).trans ((h49 _ _ (inW hp (by decide +kernel))).trans h36))) (by first | exact q_77b189e83d h37 | omega) (by first | exact q_5a4d8a7e08 h38 | omega) (by first | exact q_58e6e51dcc h39 | omega) (by first | exact q_d9092b5ca1 h40 | omega) (by first | exact q_35104ce9d3 h76 h41 | omega) (by first | exact q_34dc714687 h76 h53 h50.2 | omega) (by first | exact q_6591527e3e h43 h76 | omega) (by first | exact q_c5d740bdff h76 h44 | omega)
              · refine En_Ps 5 (pc' := 89) (lv' := [(6, .int ((y31 + Int32.ofInt 1))), (4, .int y31), (5, .int z61), (7, .int z61), (0, .ref 0), (1, .int a), (2, .int b), (3, .int z27)]) (st' := []) rfl ?_
                refine En_lv1 (addI rfl (by decide : (Int32.ofInt 1).toInt = 1) (by first | exact q_465ab79ac1 h41 | omega) (by first | exact q_f3f8e04381 h42 | omega)) (fun z77 h78 => ?_)
                refine En_Ps 1 (pc' := 40) (lv' := [(6, .int z77), (4, .int y31), (5, .int z61), (7, .int z61), (0, .ref 0), (1, .int a), (2, .int b), (3, .int z27)]) (st' := []) rfl ?_
                refine En_lv (lv := [(0, .ref 0), (1, .int a), (2, .int b), (3, .int z27), (4, .int y31), (5, .int z61), (6, .int z77)]) ⟨rfl, rfl, rfl, rfl, rfl, rfl, rfl, trivial⟩ ?_
                exact ih40 σ65 y31 z61 z77 h66 h70 ((h67 _ _ (inW tgz_0 (by decide +kernel))).trans ((h59 _ _ (inW tgz_0 (by decide +kernel))).trans ((h49 _ _ (inW tgz_0 (by decide +kernel))).trans h35))) ((h67 _ _ (inW hp (by decide +kernel))).trans ((h59 _ _ (inW hp (by decide +kernel))).trans ((h49 _ _ (inW hp (by decide +kernel))).trans h36))) (by first | exact q_5b439548fc h41 | omega) (by first | exact q_c15b485600 h53 h50.2 | omega) (by first | exact q_ef1e8e38bf h60.1 | omega) (by first | exact q_126a3d8de2 h74 h40 | omega) (by first | exact q_35104ce9d3 h78 h41 | omega) (by first | exact q_34dc714687 h78 h53 h50.2 | omega) (by first | exact q_2fedec469a h78 | omega) (by first | exact q_c5d740bdff h78 h44 | omega)
      have := (by decide : (Int32.ofInt (-1)).toInt = -1)
      have := (by decide : (Int32.ofInt 5).toInt = 5)
      have := (by decide : (Int32.ofInt 0).toInt = 0)
      refine En_lv (lv := [(0, .ref 0), (1, .int a), (2, .int b), (3, .int z27), (4, .int ((Int32.ofInt (-1)))), (5, .int ((Int32.ofInt 5))), (6, .int ((Int32.ofInt 0)))]) ⟨rfl, rfl, rfl, rfl, rfl, rfl, rfl, trivial⟩ ?_
      exact key40 (Int.toNat (16) + 1) σ23 ((Int32.ofInt (-1))) ((Int32.ofInt 5)) ((Int32.ofInt 0)) h24 h28 ((h25 _ _ (inW tgz_0 (by decide +kernel))).trans ((h16 _ _ (inW tgz_0 (by decide +kernel))).trans ((h5 _ _ (inW tgz_0 (by decide +kernel))).trans h_p))) ((h25 _ _ (inW hp (by decide +kernel))).trans ((h16 _ _ (inW hp (by decide +kernel))).trans ((h5 _ _ (inW hp (by decide +kernel))).trans h_sg))) (by decide) (by decide) (by decide) (by decide) (by decide) (by decide) (by omega) (by first | exact toN_lt _ | omega)
    · refine En_Ps 1 (pc' := 24) (lv' := [(0, .ref 0), (1, .int a), (2, .int b)]) (st' := [.int (((Int8.ofInt (-2)).toInt32))]) rfl ?_
      refine En_top (by decide : ((Int8.ofInt (-2)).toInt32).toInt = -2) (fun z79 h80 => ?_)
      exact En_ret (v := some (Value.int z79)) rfl rfl rfl ⟨h15, h19, z79, rfl, ⟨by first | exact q_f35c5d346c h80 | omega, by first | exact q_12a74e12a3 h80 | omega⟩⟩
/-- DoorSchool.tries(II)I -/
abbrev P_179 (σ0 : SG) (a : Int32) (b : Int32) (p : Nat) (sg : Int32) : PO := fun v σ => WT σ ∧ Fr [] σ0 σ ∧ ∃ ret : Int32, v = some (Value.int ret) ∧ -ret.toInt - 2 ≤ 0 ∧ ret.toInt - 63 ≤ 0
set_option maxRecDepth 10000 in
set_option maxHeartbeats 4000000 in
theorem c_179 (σ0 : SG) (hσ0 : WT σ0) (a : Int32) (b : Int32) (p : Nat) (hp : TG p = 18) (h_p : (σ0 0)[9]? = some (Value.ref p)) (sg : Int32) (h_sg : (σ0 p)[1]? = some (Value.int sg)) (hp0 : -sg.toInt ≤ 0) : En 5 119 none mr_179 (P_179 σ0 a b p sg) 0 [(0, .ref 0), (1, .int a), (2, .int b)] [] σ0 := by
  obtain ⟨hl_sg, hu_sg⟩ := WT_int hσ0 (g := 18) hp (by decide +kernel) (l := (-1)) (u := 4) (by decide +kernel) h_sg
  have hF0 : Fr [] σ0 σ0 := Fr_rfl
  refine En_Ps 3 (pc' := 3) (lv' := [(0, .ref 0), (1, .int a), (2, .int b)]) (st' := [.int b, .int a, .ref 0]) rfl ?_
  refine En_callV rfl rfl rfl rfl rfl rfl rfl rfl tgz_0 (by decide +kernel) rfl (c_178 σ0 hσ0 a b p hp h_p sg h_sg (by first | exact q_a555021d16 hp0 | omega)) (by decide) (by decide) (fun v2 σ3 h1 => ?_)
  obtain ⟨h4, h5, z7, rfl, h6⟩ := h1
  have h8 := Fr_trans hF0 h5 (by decide +kernel)
  refine En_Ps 2 (pc' := 8) (lv' := [(3, .int z7), (0, .ref 0), (1, .int a), (2, .int b)]) (st' := [.int z7]) rfl ?_
  refine En_iGe _ rfl rfl (fun h9 => ?_) (fun h9 => ?_)
  · refine En_Ps 3 (pc' := 18) (lv' := [(3, .int z7), (0, .ref 0), (1, .int a), (2, .int b)]) (st' := [.int ((z7 ^^^ b))]) rfl ?_
    refine En_hav (fun z10 => ?_)
    refine En_callS rfl rfl rfl rfl rfl rfl rfl rfl rfl (c_7 σ3 h4 z10) (by decide) (by decide) (fun v12 σ13 h11 => ?_)
    obtain ⟨h14, h15, z17, rfl, h16⟩ := h11
    have h18 := Fr_trans h8 h15 (by decide +kernel)
    exact En_ret (v := some (Value.int z17)) rfl rfl rfl ⟨h14, h18, z17, rfl, ⟨by first | exact q_70a249c7f8 h16.1 | omega, by first | exact q_4b9206e141 h16.2 | omega⟩⟩
  · refine En_Ps 2 (pc' := 21) (lv' := [(3, .int z7), (0, .ref 0), (1, .int a), (2, .int b)]) (st' := [.int z7]) rfl ?_
    exact En_ret (v := some (Value.int z7)) rfl rfl rfl ⟨h4, h8, z7, rfl, ⟨by first | exact q_0dccbb4f83 h6.1 | omega, by first | exact q_133b9801a0 h9 | omega⟩⟩
/-- DoorSchool.way(II)I -/
abbrev P_182 (σ0 : SG) (a : Int32) (b : Int32) (p : Nat) (sg : Int32) : PO := fun v σ => WT σ ∧ Fr [] σ0 σ ∧ ∃ ret : Int32, v = some (Value.int ret) ∧ -ret.toInt - 2 ≤ 0 ∧ ret.toInt - 17 ≤ 0
set_option maxRecDepth 10000 in
set_option maxHeartbeats 4000000 in
theorem c_182 (σ0 : SG) (hσ0 : WT σ0) (a : Int32) (b : Int32) (p : Nat) (hp : TG p = 18) (h_p : (σ0 0)[9]? = some (Value.ref p)) (sg : Int32) (h_sg : (σ0 p)[1]? = some (Value.int sg)) (hp0 : -sg.toInt ≤ 0) : En 4 92 none mr_182 (P_182 σ0 a b p sg) 0 [(0, .ref 0), (1, .int a), (2, .int b)] [] σ0 := by
  obtain ⟨hl_sg, hu_sg⟩ := WT_int hσ0 (g := 18) hp (by decide +kernel) (l := (-1)) (u := 4) (by decide +kernel) h_sg
  have hF0 : Fr [] σ0 σ0 := Fr_rfl
  refine En_Ps 1 (pc' := 1) (lv' := [(0, .ref 0), (1, .int a), (2, .int b)]) (st' := [.ref 0]) rfl ?_
  refine En_getK (j := 9) h_p rfl rfl rfl tgz_0 (by decide +kernel) ?_
  refine En_Ps 1 (pc' := 5) (lv' := [(0, .ref 0), (1, .int a), (2, .int b)]) (st' := [.int a, .ref p]) rfl ?_
  refine En_callV rfl rfl rfl rfl rfl rfl rfl rfl hp (by decide +kernel) rfl (c_47 σ0 hσ0 p hp a) (by decide) (by decide) (fun v2 σ3 h1 => ?_)
  obtain ⟨h4, h5, z7, rfl, h6⟩ := h1
  have h8 := Fr_trans hF0 h5 (by decide +kernel)
  refine En_iEq _ rfl rfl (fun h9 => ?_) (fun h9 => ?_)
  · refine En_Ps 1 (pc' := 20) (lv' := [(0, .ref 0), (1, .int a), (2, .int b)]) (st' := [.int (((Int8.ofInt (-2)).toInt32))]) rfl ?_
    refine En_top (by decide : ((Int8.ofInt (-2)).toInt32).toInt = -2) (fun z10 h11 => ?_)
    exact En_ret (v := some (Value.int z10)) rfl rfl rfl ⟨h4, h8, z10, rfl, ⟨by first | exact q_f35c5d346c h11 | omega, by first | exact q_b87250905e h11 | omega⟩⟩
  · refine En_Ps 1 (pc' := 12) (lv' := [(0, .ref 0), (1, .int a), (2, .int b)]) (st' := [.int b]) rfl ?_
    refine En_callS rfl rfl rfl rfl rfl rfl rfl rfl rfl (c_149 σ3 h4 b) (by decide) (by decide) (fun v13 σ14 h12 => ?_)
    obtain ⟨h15, h16, z18, rfl, h17⟩ := h12
    have h19 := Fr_trans h8 h16 (by decide +kernel)
    refine En_iNe _ rfl rfl (fun h20 => ?_) (fun h20 => ?_)
    · refine En_Ps 6 (pc' := 30) (lv' := [(5, .int ((Int32.ofInt 0))), (4, .int (((Int8.ofInt 17).toInt32))), (3, .int ((Int32.ofInt (-1)))), (0, .ref 0), (1, .int a), (2, .int b)]) (st' := []) rfl ?_
      have key30 : ∀ (n30 : Nat) (σ24 : SG) (y21 : Int32) (y22 : Int32) (y23 : Int32), WT σ24 → Fr [] σ0 σ24 → (σ24 0)[9]? = some (Value.ref p) → (σ24 p)[1]? = some (Value.int sg) → (-1) ≤ y21.toInt → y21.toInt ≤ 2 → 0 ≤ y22.toInt → y22.toInt ≤ 17 → 0 ≤ y23.toInt → y23.toInt ≤ 3 → y21.toInt - y23.toInt + 1 ≤ 0 → -y23.toInt + 3 < (n30 : Int) → En 4 92 none mr_182 (P_182 σ0 a b p sg) 30 [(0, .ref 0), (1, .int a), (2, .int b), (3, .int y21), (4, .int y22), (5, .int y23)] [] σ24 := by
        intro n30
        induction n30 with
        | zero =>
          intro σ24 y21 y22 y23 h25 h26 h27 h28 h29 h30 h31 h32 h33 h34 h35 h36
          first | exact (q_9f1e7068c9 h36 h34).elim | (exfalso; omega)
        | succ n30 ih30 =>
          intro σ24 y21 y22 y23 h25 h26 h27 h28 h29 h30 h31 h32 h33 h34 h35 h36
          refine En_Ps 2 (pc' := 33) (lv' := [(0, .ref 0), (1, .int a), (2, .int b), (3, .int y21), (4, .int y22), (5, .int y23)]) (st' := [.int ((Int32.ofInt 3)), .int y23]) rfl ?_
          refine En_icGe _ rfl (by decide : (Int32.ofInt 3).toInt = 3) rfl (fun h37 => ?_) (fun h37 => ?_)
          · refine En_Ps 1 (pc' := 74) (lv' := [(0, .ref 0), (1, .int a), (2, .int b), (3, .int y21), (4, .int y22), (5, .int y23)]) (st' := [.int b]) rfl ?_
            refine En_iNe _ rfl rfl (fun h38 => ?_) (fun h38 => ?_)
            · refine En_Ps 1 (pc' := 83) (lv' := [(0, .ref 0), (1, .int a), (2, .int b), (3, .int y21), (4, .int y22), (5, .int y23)]) (st' := [.int y22]) rfl ?_
              exact En_ret (v := some (Value.int y22)) rfl rfl rfl ⟨h25, h26, y22, rfl, ⟨by first | exact q_ea7f0ffdb1 h31 | omega, by first | exact q_49910fdb8e h32 | omega⟩⟩
            · refine En_Ps 2 (pc' := 83) (lv' := [(0, .ref 0), (1, .int a), (2, .int b), (3, .int y21), (4, .int y22), (5, .int y23)]) (st' := [.int y21]) rfl ?_
              exact En_ret (v := some (Value.int y21)) rfl rfl rfl ⟨h25, h26, y21, rfl, ⟨by first | exact q_fe58cd40d0 h29 | omega, by first | exact q_3a9328797d h30 | omega⟩⟩
          · refine En_Ps 3 (pc' := 40) (lv' := [(0, .ref 0), (1, .int a), (2, .int b), (3, .int y21), (4, .int y22), (5, .int y23)]) (st' := [.int y23, .int a, .ref 0]) rfl ?_
            refine En_callV rfl rfl rfl rfl rfl rfl rfl rfl tgz_0 (by decide +kernel) rfl (c_184 σ24 h25 a y23 (geI rfl (by omega)) (leI rfl (by omega)) (geI rfl (by first | exact q_58e6e51dcc h33 | omega)) (leI rfl (by first | exact q_f1519f12c0 h37 | omega)) p hp h27 sg h28 (by first | exact q_a555021d16 hp0 | omega)) (by decide) (by decide) (fun v40 σ41 h39 => ?_)
            obtain ⟨h42, h43, z45, rfl, h44⟩ := h39
            have h46 := Fr_trans h26 h43 (by decide +kernel)
            refine En_Ps 1 (pc' := 44) (lv' := [(0, .ref 0), (1, .int a), (2, .int b), (3, .int y21), (4, .int y22), (5, .int y23)]) (st' := [.ref 0, .int z45]) rfl ?_
            refine En_callV rfl rfl rfl rfl rfl rfl rfl rfl tgz_0 (by decide +kernel) rfl (c_160 σ41 h42 p hp ((h43 _ _ (inW tgz_0 (by decide +kernel))).trans h27) sg ((h43 _ _ (inW hp (by decide +kernel))).trans h28) (by first | exact q_a555021d16 hp0 | omega)) (by decide) (by decide) (fun v48 σ49 h47 => ?_)
            obtain ⟨h50, h51, z53, rfl, h52⟩ := h47
            have h54 := Fr_trans h46 h51 (by decide +kernel)
            refine En_Ps 1 (pc' := 48) (lv' := [(0, .ref 0), (1, .int a), (2, .int b), (3, .int y21), (4, .int y22), (5, .int y23)]) (st' := [.int ((z45 ^^^ z53))]) rfl ?_
            refine En_hav (fun z55 => ?_)
            refine En_callS rfl rfl rfl rfl rfl rfl rfl rfl rfl (c_7 σ49 h50 z55) (by decide) (by decide) (fun v57 σ58 h56 => ?_)
            obtain ⟨h59, h60, z62, rfl, h61⟩ := h56
            have h63 := Fr_trans h54 h60 (by decide +kernel)
            refine En_Ps 3 (pc' := 57) (lv' := [(6, .int z62), (0, .ref 0), (1, .int a), (2, .int b), (3, .int y21), (4, .int y22), (5, .int y23)]) (st' := [.int y22, .int z62]) rfl ?_
            refine En_icGe _ rfl rfl rfl (fun h64 => ?_) (fun h64 => ?_)
            · refine En_Ps 1 (pc' := 70) (lv' := [(5, .int ((y23 + Int32.ofInt 1))), (6, .int z62), (0, .ref 0), (1, .int a), (2, .int b), (3, .int y21), (4, .int y22)]) (st' := []) rfl ?_
              refine En_lv1 (addI rfl (by decide : (Int32.ofInt 1).toInt = 1) (by first | exact q_465ab79ac1 h33 | omega) (by first | exact q_6ae830b01d h37 | omega)) (fun z65 h66 => ?_)
              refine En_Ps 1 (pc' := 30) (lv' := [(5, .int z65), (6, .int z62), (0, .ref 0), (1, .int a), (2, .int b), (3, .int y21), (4, .int y22)]) (st' := []) rfl ?_
              refine En_lv (lv := [(0, .ref 0), (1, .int a), (2, .int b), (3, .int y21), (4, .int y22), (5, .int z65)]) ⟨rfl, rfl, rfl, rfl, rfl, rfl, trivial⟩ ?_
              exact ih30 σ58 y21 y22 z65 h59 h63 ((h60 _ _ (inW tgz_0 (by decide +kernel))).trans ((h51 _ _ (inW tgz_0 (by decide +kernel))).trans ((h43 _ _ (inW tgz_0 (by decide +kernel))).trans h27))) ((h60 _ _ (inW hp (by decide +kernel))).trans ((h51 _ _ (inW hp (by decide +kernel))).trans ((h43 _ _ (inW hp (by decide +kernel))).trans h28))) (by first | exact q_77b189e83d h29 | omega) (by first | exact q_a85463bd0d h30 | omega) (by first | exact q_58e6e51dcc h31 | omega) (by first | exact q_009443cf7f h32 | omega) (by first | exact q_35104ce9d3 h66 h33 | omega) (by first | exact q_84805d5d8e h66 h37 | omega) (by first | exact q_6591527e3e h35 h66 | omega) (by first | exact q_6272716eb4 h66 h36 | omega)
            · refine En_Ps 5 (pc' := 70) (lv' := [(5, .int ((y23 + Int32.ofInt 1))), (3, .int y23), (4, .int z62), (6, .int z62), (0, .ref 0), (1, .int a), (2, .int b)]) (st' := []) rfl ?_
              refine En_lv1 (addI rfl (by decide : (Int32.ofInt 1).toInt = 1) (by first | exact q_465ab79ac1 h33 | omega) (by first | exact q_6ae830b01d h37 | omega)) (fun z67 h68 => ?_)
              refine En_Ps 1 (pc' := 30) (lv' := [(5, .int z67), (3, .int y23), (4, .int z62), (6, .int z62), (0, .ref 0), (1, .int a), (2, .int b)]) (st' := []) rfl ?_
              refine En_lv (lv := [(0, .ref 0), (1, .int a), (2, .int b), (3, .int y23), (4, .int z62), (5, .int z67)]) ⟨rfl, rfl, rfl, rfl, rfl, rfl, trivial⟩ ?_
              exact ih30 σ58 y23 z62 z67 h59 h63 ((h60 _ _ (inW tgz_0 (by decide +kernel))).trans ((h51 _ _ (inW tgz_0 (by decide +kernel))).trans ((h43 _ _ (inW tgz_0 (by decide +kernel))).trans h27))) ((h60 _ _ (inW hp (by decide +kernel))).trans ((h51 _ _ (inW hp (by decide +kernel))).trans ((h43 _ _ (inW hp (by decide +kernel))).trans h28))) (by first | exact q_5b439548fc h33 | omega) (by first | exact q_f1519f12c0 h37 | omega) (by first | exact q_ef1e8e38bf h61.1 | omega) (by first | exact q_5f93834205 h64 h32 | omega) (by first | exact q_35104ce9d3 h68 h33 | omega) (by first | exact q_84805d5d8e h68 h37 | omega) (by first | exact q_2fedec469a h68 | omega) (by first | exact q_6272716eb4 h68 h36 | omega)
      have := (by decide : (Int32.ofInt (-1)).toInt = -1)
      have := (by decide : ((Int8.ofInt 17).toInt32).toInt = 17)
      have := (by decide : (Int32.ofInt 0).toInt = 0)
      refine En_lv (lv := [(0, .ref 0), (1, .int a), (2, .int b), (3, .int ((Int32.ofInt (-1)))), (4, .int (((Int8.ofInt 17).toInt32))), (5, .int ((Int32.ofInt 0)))]) ⟨rfl, rfl, rfl, rfl, rfl, rfl, trivial⟩ ?_
      exact key30 (Int.toNat (3) + 1) σ14 ((Int32.ofInt (-1))) (((Int8.ofInt 17).toInt32)) ((Int32.ofInt 0)) h15 h19 ((h16 _ _ (inW tgz_0 (by decide +kernel))).trans ((h5 _ _ (inW tgz_0 (by decide +kernel))).trans h_p)) ((h16 _ _ (inW hp (by decide +kernel))).trans ((h5 _ _ (inW hp (by decide +kernel))).trans h_sg)) (by decide) (by decide) (by decide) (by decide) (by decide) (by decide) (by omega) (by first | exact toN_lt _ | omega)
    · refine En_Ps 1 (pc' := 20) (lv' := [(0, .ref 0), (1, .int a), (2, .int b)]) (st' := [.int (((Int8.ofInt (-2)).toInt32))]) rfl ?_
      refine En_top (by decide : ((Int8.ofInt (-2)).toInt32).toInt = -2) (fun z69 h70 => ?_)
      exact En_ret (v := some (Value.int z69)) rfl rfl rfl ⟨h15, h19, z69, rfl, ⟨by first | exact q_f35c5d346c h70 | omega, by first | exact q_b87250905e h70 | omega⟩⟩
end
