/-- DoorSchool$Lessons.allAs(I)I -/
abbrev P_32 (σ0 : SG) (s : Nat) (a : Int32) : PO := fun v σ => WT σ ∧ Fr [] σ0 σ ∧ ∃ ret : Int32, v = some (.int ret) ∧ -ret.toInt ≤ 0 ∧ ret.toInt - 65535 ≤ 0
set_option maxRecDepth 10000 in
set_option maxHeartbeats 4000000 in
theorem c_32 (σ0 : SG) (hσ0 : WT σ0) (s : Nat) (hs : TG s = 20) (a : Int32) : En 1 21 none mr_32 (P_32 σ0 s a) 0 [(0, .ref s), (1, .int a)] [] σ0 := by
  have hF0 : Fr [] σ0 σ0 := Fr_rfl
  refine En_Ps 4 (pc' := 4) (lv' := [(3, .int ((Int32.ofInt 0))), (2, .int ((Int32.ofInt 0))), (0, .ref s), (1, .int a)]) (st' := []) rfl ?_
  have key4 : ∀ (n4 : Nat) (σ3 : SG) (y1 : Int32) (y2 : Int32), WT σ3 → Fr [] σ0 σ3 → 0 ≤ y1.toInt → y1.toInt ≤ 65535 → 0 ≤ y2.toInt → y2.toInt ≤ 13 → -y2.toInt + 13 < (n4 : Int) → En 1 21 none mr_32 (P_32 σ0 s a) 4 [(0, .ref s), (1, .int a), (2, .int y1), (3, .int y2)] [] σ3 := by
    intro n4
    induction n4 with
    | zero =>
      intro σ3 y1 y2 h4 h5 h6 h7 h8 h9 h10
      first | exact (q_5583ec5aac h10 h9).elim | (exfalso; omega)
    | succ n4 ih4 =>
      intro σ3 y1 y2 h4 h5 h6 h7 h8 h9 h10
      refine En_Ps 2 (pc' := 6) (lv' := [(0, .ref s), (1, .int a), (2, .int y1), (3, .int y2)]) (st' := [.ref s, .int y2]) rfl ?_
      refine En_getI (j := 2) (l := 0) (u := 13) rfl rfl rfl hs (by decide +kernel) h4 (by decide +kernel) (fun z12 h11 h13 h14 => ?_)
      refine En_icGe _ rfl rfl rfl (fun h15 => ?_) (fun h15 => ?_)
      · refine En_Ps 1 (pc' := 44) (lv' := [(0, .ref s), (1, .int a), (2, .int y1), (3, .int y2)]) (st' := [.int y1]) rfl ?_
        exact En_ret (v := some (.int y1)) rfl rfl rfl ⟨h4, h5, y1, rfl, ⟨by first | exact q_c803b490ef h6 | omega, by first | exact q_e7edf0f95a h7 | omega⟩⟩
      · refine En_Ps 2 (pc' := 14) (lv' := [(0, .ref s), (1, .int a), (2, .int y1), (3, .int y2)]) (st' := [.ref s, .int a]) rfl ?_
        refine En_getR (j := 0) (g' := 21) (u := 0) rfl rfl rfl hs (by decide +kernel) h4 (by decide +kernel) (fun a17 h16 ha17 => ?_)
        refine En_Ps 1 (pc' := 18) (lv' := [(0, .ref s), (1, .int a), (2, .int y1), (3, .int y2)]) (st' := [.int y2, .ref a17, .int a]) rfl ?_
        refine En_iald (l := 0) (u := 15) rfl rfl ha17 (by decide +kernel) h4 (by first | exact q_58e6e51dcc h8 | omega) (lnI (by decide +kernel : LN _ = 13) (by first | exact q_314deb8953 h15 h14 | omega)) (FTsgl (by decide +kernel)) (fun z19 h18 h20 h21 => ?_)
        refine En_callS rfl rfl rfl rfl rfl rfl rfl rfl rfl (c_108 σ3 h4 a z19) (by decide) (by decide) (fun v23 σ24 h22 => ?_)
        obtain ⟨h25, h26, z28, rfl, h27⟩ := h22
        have h29 := Fr_trans h5 h26 (by decide +kernel)
        refine En_Ps 1 (pc' := 23) (lv' := [(0, .ref s), (1, .int a), (2, .int y1), (3, .int y2)]) (st' := [.ref s, .int z28]) rfl ?_
        refine En_getR (j := 1) (g' := 22) (u := 0) rfl rfl rfl hs (by decide +kernel) h25 (by decide +kernel) (fun a31 h30 ha31 => ?_)
        refine En_Ps 1 (pc' := 27) (lv' := [(0, .ref s), (1, .int a), (2, .int y1), (3, .int y2)]) (st' := [.int y2, .ref a31, .int z28]) rfl ?_
        refine En_iald (l := 0) (u := 1) rfl rfl ha31 (by decide +kernel) h25 (by first | exact q_58e6e51dcc h8 | omega) (lnI (by decide +kernel : LN _ = 13) (by first | exact q_314deb8953 h15 h14 | omega)) (FTsgl (by decide +kernel)) (fun z33 h32 h34 h35 => ?_)
        refine En_icNe _ rfl rfl rfl (fun h36 => ?_) (fun h36 => ?_)
        · refine En_Ps 1 (pc' := 40) (lv' := [(3, .int ((y2 + Int32.ofInt 1))), (0, .ref s), (1, .int a), (2, .int y1)]) (st' := []) rfl ?_
          refine En_lv1 (addI rfl (by decide : (Int32.ofInt 1).toInt = 1) (by first | exact q_465ab79ac1 h8 | omega) (by first | exact q_d22f73d43b h9 | omega)) (fun z37 h38 => ?_)
          refine En_Ps 1 (pc' := 4) (lv' := [(3, .int z37), (0, .ref s), (1, .int a), (2, .int y1)]) (st' := []) rfl ?_
          refine En_lv (lv := [(0, .ref s), (1, .int a), (2, .int y1), (3, .int z37)]) ⟨rfl, rfl, rfl, rfl, trivial⟩ ?_
          exact ih4 σ24 y1 z37 h25 h29 (by first | exact q_58e6e51dcc h6 | omega) (by first | exact q_36eb0a70bf h7 | omega) (by first | exact q_35104ce9d3 h38 h8 | omega) (by first | exact q_96e029a9d9 h38 h15 h14 | omega) (by first | exact q_20fedeb4b2 h38 h10 | omega)
        · refine En_Ps 4 (pc' := 35) (lv' := [(0, .ref s), (1, .int a), (2, .int y1), (3, .int y2)]) (st' := [.int ((((Int32.ofInt 1)) <<< (y2 &&& 31))), .int y1]) rfl ?_
          refine En_rng (shl1_p 12 rfl (by omega) (by omega) (by decide)) (fun z39 h40 h41 => ?_)
          refine En_Ps 1 (pc' := 36) (lv' := [(0, .ref s), (1, .int a), (2, .int y1), (3, .int y2)]) (st' := [.int ((y1 ||| z39))]) rfl ?_
          refine En_rng (l := 0) (u := 65535) (or_rng 16 rfl rfl (by omega) (by omega) (by omega) (by omega) (by decide)) (fun z42 h43 h44 => ?_)
          refine En_Ps 2 (pc' := 40) (lv' := [(3, .int ((y2 + Int32.ofInt 1))), (2, .int z42), (0, .ref s), (1, .int a)]) (st' := []) rfl ?_
          refine En_lv1 (addI rfl (by decide : (Int32.ofInt 1).toInt = 1) (by first | exact q_465ab79ac1 h8 | omega) (by first | exact q_d22f73d43b h9 | omega)) (fun z45 h46 => ?_)
          refine En_Ps 1 (pc' := 4) (lv' := [(3, .int z45), (2, .int z42), (0, .ref s), (1, .int a)]) (st' := []) rfl ?_
          refine En_lv (lv := [(0, .ref s), (1, .int a), (2, .int z42), (3, .int z45)]) ⟨rfl, rfl, rfl, rfl, trivial⟩ ?_
          exact ih4 σ24 z42 z45 h25 h29 (by first | exact q_58e6e51dcc h43 | omega) (by first | exact q_36eb0a70bf h44 | omega) (by first | exact q_35104ce9d3 h46 h8 | omega) (by first | exact q_96e029a9d9 h46 h15 h14 | omega) (by first | exact q_20fedeb4b2 h46 h10 | omega)
  have := (by decide : (Int32.ofInt 0).toInt = 0)
  have := (by decide : (Int32.ofInt 0).toInt = 0)
  refine En_lv (lv := [(0, .ref s), (1, .int a), (2, .int ((Int32.ofInt 0))), (3, .int ((Int32.ofInt 0)))]) ⟨rfl, rfl, rfl, rfl, trivial⟩ ?_
  exact key4 (Int.toNat (13) + 1) σ0 ((Int32.ofInt 0)) ((Int32.ofInt 0)) hσ0 hF0 (by decide) (by decide) (by decide) (by decide) (by first | exact toN_lt _ | omega)
/-- DoorSchool$Lessons.firstNotAs(I)I -/
abbrev P_34 (σ0 : SG) (s : Nat) (a : Int32) : PO := fun v σ => WT σ ∧ Fr [] σ0 σ ∧ ∃ ret : Int32, v = some (.int ret) ∧ -ret.toInt - 1 ≤ 0 ∧ ret.toInt - 12 ≤ 0
set_option maxRecDepth 10000 in
set_option maxHeartbeats 4000000 in
theorem c_34 (σ0 : SG) (hσ0 : WT σ0) (s : Nat) (hs : TG s = 20) (a : Int32) : En 1 21 none mr_34 (P_34 σ0 s a) 0 [(0, .ref s), (1, .int a)] [] σ0 := by
  have hF0 : Fr [] σ0 σ0 := Fr_rfl
  refine En_Ps 2 (pc' := 2) (lv' := [(2, .int ((Int32.ofInt 0))), (0, .ref s), (1, .int a)]) (st' := []) rfl ?_
  have key2 : ∀ (n2 : Nat) (σ2 : SG) (y1 : Int32), WT σ2 → Fr [] σ0 σ2 → 0 ≤ y1.toInt → y1.toInt ≤ 13 → -y1.toInt + 13 < (n2 : Int) → En 1 21 none mr_34 (P_34 σ0 s a) 2 [(0, .ref s), (1, .int a), (2, .int y1)] [] σ2 := by
    intro n2
    induction n2 with
    | zero =>
      intro σ2 y1 h3 h4 h5 h6 h7
      first | exact (q_5583ec5aac h7 h6).elim | (exfalso; omega)
    | succ n2 ih2 =>
      intro σ2 y1 h3 h4 h5 h6 h7
      refine En_Ps 2 (pc' := 4) (lv' := [(0, .ref s), (1, .int a), (2, .int y1)]) (st' := [.ref s, .int y1]) rfl ?_
      refine En_getI (j := 2) (l := 0) (u := 13) rfl rfl rfl hs (by decide +kernel) h3 (by decide +kernel) (fun z9 h8 h10 h11 => ?_)
      refine En_icGe _ rfl rfl rfl (fun h12 => ?_) (fun h12 => ?_)
      · refine En_Ps 1 (pc' := 38) (lv' := [(0, .ref s), (1, .int a), (2, .int y1)]) (st' := [.int ((Int32.ofInt (-1)))]) rfl ?_
        refine En_top (by decide : (Int32.ofInt (-1)).toInt = -1) (fun z13 h14 => ?_)
        exact En_ret (v := some (.int z13)) rfl rfl rfl ⟨h3, h4, z13, rfl, ⟨by first | exact q_6ba54b61e9 h14 | omega, by first | exact q_af8bea0708 h14 | omega⟩⟩
      · refine En_Ps 2 (pc' := 12) (lv' := [(0, .ref s), (1, .int a), (2, .int y1)]) (st' := [.ref s, .int a]) rfl ?_
        refine En_getR (j := 0) (g' := 21) (u := 0) rfl rfl rfl hs (by decide +kernel) h3 (by decide +kernel) (fun a16 h15 ha16 => ?_)
        refine En_Ps 1 (pc' := 16) (lv' := [(0, .ref s), (1, .int a), (2, .int y1)]) (st' := [.int y1, .ref a16, .int a]) rfl ?_
        refine En_iald (l := 0) (u := 15) rfl rfl ha16 (by decide +kernel) h3 (by first | exact q_58e6e51dcc h5 | omega) (lnI (by decide +kernel : LN _ = 13) (by first | exact q_314deb8953 h12 h11 | omega)) (FTsgl (by decide +kernel)) (fun z18 h17 h19 h20 => ?_)
        refine En_callS rfl rfl rfl rfl rfl rfl rfl rfl rfl (c_108 σ2 h3 a z18) (by decide) (by decide) (fun v22 σ23 h21 => ?_)
        obtain ⟨h24, h25, z27, rfl, h26⟩ := h21
        have h28 := Fr_trans h4 h25 (by decide +kernel)
        refine En_Ps 1 (pc' := 21) (lv' := [(0, .ref s), (1, .int a), (2, .int y1)]) (st' := [.ref s, .int z27]) rfl ?_
        refine En_getR (j := 1) (g' := 22) (u := 0) rfl rfl rfl hs (by decide +kernel) h24 (by decide +kernel) (fun a30 h29 ha30 => ?_)
        refine En_Ps 1 (pc' := 25) (lv' := [(0, .ref s), (1, .int a), (2, .int y1)]) (st' := [.int y1, .ref a30, .int z27]) rfl ?_
        refine En_iald (l := 0) (u := 1) rfl rfl ha30 (by decide +kernel) h24 (by first | exact q_58e6e51dcc h5 | omega) (lnI (by decide +kernel : LN _ = 13) (by first | exact q_314deb8953 h12 h11 | omega)) (FTsgl (by decide +kernel)) (fun z32 h31 h33 h34 => ?_)
        refine En_icEq _ rfl rfl rfl (fun h35 => ?_) (fun h35 => ?_)
        · refine En_Ps 1 (pc' := 34) (lv' := [(2, .int ((y1 + Int32.ofInt 1))), (0, .ref s), (1, .int a)]) (st' := []) rfl ?_
          refine En_lv1 (addI rfl (by decide : (Int32.ofInt 1).toInt = 1) (by first | exact q_465ab79ac1 h5 | omega) (by first | exact q_d22f73d43b h6 | omega)) (fun z36 h37 => ?_)
          refine En_Ps 1 (pc' := 2) (lv' := [(2, .int z36), (0, .ref s), (1, .int a)]) (st' := []) rfl ?_
          refine En_lv (lv := [(0, .ref s), (1, .int a), (2, .int z36)]) ⟨rfl, rfl, rfl, trivial⟩ ?_
          exact ih2 σ23 z36 h24 h28 (by first | exact q_35104ce9d3 h37 h5 | omega) (by first | exact q_96e029a9d9 h37 h12 h11 | omega) (by first | exact q_20fedeb4b2 h37 h7 | omega)
        · refine En_Ps 1 (pc' := 30) (lv' := [(0, .ref s), (1, .int a), (2, .int y1)]) (st' := [.int y1]) rfl ?_
          exact En_ret (v := some (.int y1)) rfl rfl rfl ⟨h24, h28, y1, rfl, ⟨by first | exact q_565e7b05df h5 | omega, by first | exact q_8ee767184a h12 h11 | omega⟩⟩
  have := (by decide : (Int32.ofInt 0).toInt = 0)
  refine En_lv (lv := [(0, .ref s), (1, .int a), (2, .int ((Int32.ofInt 0)))]) ⟨rfl, rfl, rfl, trivial⟩ ?_
  exact key2 (Int.toNat (13) + 1) σ0 ((Int32.ofInt 0)) hσ0 hF0 (by decide) (by decide) (by first | exact toN_lt _ | omega)
/-- DoorSchool$Plan.exists()Z -/
abbrev P_43 (σ0 : SG) (s : Nat) : PO := fun v σ => WT σ ∧ Fr [] σ0 σ ∧ ∃ ret : Int32, v = some (.int ret) ∧ -ret.toInt ≤ 0 ∧ ret.toInt - 1 ≤ 0
set_option maxRecDepth 10000 in
set_option maxHeartbeats 4000000 in
theorem c_43 (σ0 : SG) (hσ0 : WT σ0) (s : Nat) (hs : TG s = 18) : En 0 0 none mr_43 (P_43 σ0 s) 0 [(0, .ref s)] [] σ0 := by
  have hF0 : Fr [] σ0 σ0 := Fr_rfl
  refine En_Ps 1 (pc' := 1) (lv' := [(0, .ref s)]) (st' := [.ref s]) rfl ?_
  refine En_getI (j := 0) (l := 0) (u := 1601) rfl rfl rfl hs (by decide +kernel) hσ0 (by decide +kernel) (fun z2 h1 h3 h4 => ?_)
  refine En_iLe _ rfl rfl (fun h5 => ?_) (fun h5 => ?_)
  · refine En_Ps 1 (pc' := 12) (lv' := [(0, .ref s)]) (st' := [.int ((Int32.ofInt 0))]) rfl ?_
    refine En_top (by decide : (Int32.ofInt 0).toInt = 0) (fun z6 h7 => ?_)
    exact En_ret (v := some (.int z6)) rfl rfl (retZ rfl rfl (by first | exact q_55451d0a83 h7 | omega) (by first | exact q_87849c3859 h7 | omega)) ⟨hσ0, hF0, z6, rfl, ⟨by first | exact q_097a37c2ae h7 | omega, by first | exact q_e269517bee h7 | omega⟩⟩
  · refine En_Ps 2 (pc' := 12) (lv' := [(0, .ref s)]) (st' := [.int ((Int32.ofInt 1))]) rfl ?_
    refine En_top (by decide : (Int32.ofInt 1).toInt = 1) (fun z8 h9 => ?_)
    exact En_ret (v := some (.int z8)) rfl rfl (retZ rfl rfl (by first | exact q_2b07c97645 h9 | omega) (by first | exact q_d9e7cbb253 h9 | omega)) ⟨hσ0, hF0, z8, rfl, ⟨by first | exact q_ad3eee31ca h9 | omega, by first | exact q_81cf297dc4 h9 | omega⟩⟩
/-- DoorSchool$Plan.knocks()I -/
abbrev P_51 (σ0 : SG) (s : Nat) (sg : Int32) : PO := fun v σ => WT σ ∧ Fr [] σ0 σ ∧ ∃ ret : Int32, v = some (.int ret) ∧ -ret.toInt + 1 ≤ 0 ∧ ret.toInt - 16 ≤ 0
set_option maxRecDepth 10000 in
set_option maxHeartbeats 4000000 in
theorem c_51 (σ0 : SG) (hσ0 : WT σ0) (s : Nat) (hs : TG s = 18) (sg : Int32) (h_sg : (σ0 s)[1]? = some (.int sg)) (hp0 : -sg.toInt ≤ 0) : En 0 0 none mr_51 (P_51 σ0 s sg) 0 [(0, .ref s)] [] σ0 := by
  obtain ⟨hl_sg, hu_sg⟩ := WT_int hσ0 (g := 18) hs (by decide +kernel) (l := (-1)) (u := 4) (by decide +kernel) h_sg
  have hF0 : Fr [] σ0 σ0 := Fr_rfl
  refine En_Ps 2 (pc' := 2) (lv' := [(0, .ref s)]) (st' := [.ref s, .int ((Int32.ofInt 1))]) rfl ?_
  refine En_getK (j := 1) h_sg rfl rfl rfl hs (by decide +kernel) ?_
  refine En_Ps 1 (pc' := 6) (lv' := [(0, .ref s)]) (st' := [.int ((((Int32.ofInt 1)) <<< (sg &&& 31)))]) rfl ?_
  refine En_rng (shl1_p 4 rfl (by omega) (by omega) (by decide)) (fun z1 h2 h3 => ?_)
  exact En_ret (v := some (.int z1)) rfl rfl rfl ⟨hσ0, hF0, z1, rfl, ⟨by first | exact q_996bab80f3 h2 | omega, by first | exact q_774c92aa9b h3 | omega⟩⟩
/-- DoorSchool$Plan.isDeeds(I)Z -/
abbrev P_46 (σ0 : SG) (s : Nat) (a : Int32) (sg : Int32) : PO := fun v σ => WT σ ∧ Fr [] σ0 σ ∧ ∃ ret : Int32, v = some (.int ret) ∧ -ret.toInt ≤ 0 ∧ ret.toInt - 1 ≤ 0 ∧ (ret.toInt - 1 ≤ 0 ∧ -ret.toInt + 1 ≤ 0 → -a.toInt ≤ 0 ∧ a.toInt - 65535 ≤ 0)
set_option maxRecDepth 10000 in
set_option maxHeartbeats 4000000 in
theorem c_46 (σ0 : SG) (hσ0 : WT σ0) (s : Nat) (hs : TG s = 18) (a : Int32) (sg : Int32) (h_sg : (σ0 s)[1]? = some (.int sg)) (hp0 : -sg.toInt ≤ 0) : En 1 20 none mr_46 (P_46 σ0 s a sg) 0 [(0, .ref s), (1, .int a)] [] σ0 := by
  obtain ⟨hl_sg, hu_sg⟩ := WT_int hσ0 (g := 18) hs (by decide +kernel) (l := (-1)) (u := 4) (by decide +kernel) h_sg
  have hF0 : Fr [] σ0 σ0 := Fr_rfl
  refine En_Ps 1 (pc' := 1) (lv' := [(0, .ref s), (1, .int a)]) (st' := [.ref s]) rfl ?_
  refine En_callV rfl rfl rfl rfl rfl rfl rfl rfl hs (by decide +kernel) rfl (c_43 σ0 hσ0 s hs) (by decide) (by decide) (fun v2 σ3 h1 => ?_)
  obtain ⟨h4, h5, z7, rfl, h6⟩ := h1
  have h8 := Fr_trans hF0 h5 (by decide +kernel)
  refine En_iEq _ rfl rfl (fun h9 => ?_) (fun h9 => ?_)
  · refine En_Ps 1 (pc' := 26) (lv' := [(0, .ref s), (1, .int a)]) (st' := [.int ((Int32.ofInt 0))]) rfl ?_
    refine En_top (by decide : (Int32.ofInt 0).toInt = 0) (fun z10 h11 => ?_)
    exact En_ret (v := some (.int z10)) rfl rfl (retZ rfl rfl (by first | exact q_55451d0a83 h11 | omega) (by first | exact q_87849c3859 h11 | omega)) ⟨h4, h8, z10, rfl, ⟨by first | exact q_097a37c2ae h11 | omega, by first | exact q_e269517bee h11 | omega, fun _ => by omega⟩⟩
  · refine En_Ps 1 (pc' := 8) (lv' := [(0, .ref s), (1, .int a)]) (st' := [.int a]) rfl ?_
    refine En_iLt _ rfl rfl (fun h12 => ?_) (fun h12 => ?_)
    · refine En_Ps 1 (pc' := 26) (lv' := [(0, .ref s), (1, .int a)]) (st' := [.int ((Int32.ofInt 0))]) rfl ?_
      refine En_top (by decide : (Int32.ofInt 0).toInt = 0) (fun z13 h14 => ?_)
      exact En_ret (v := some (.int z13)) rfl rfl (retZ rfl rfl (by first | exact q_55451d0a83 h14 | omega) (by first | exact q_87849c3859 h14 | omega)) ⟨h4, h8, z13, rfl, ⟨by first | exact q_097a37c2ae h14 | omega, by first | exact q_e269517bee h14 | omega, fun _ => by omega⟩⟩
    · refine En_Ps 3 (pc' := 14) (lv' := [(0, .ref s), (1, .int a)]) (st' := [.ref s, .int ((Int32.ofInt 1)), .int a]) rfl ?_
      refine En_callV rfl rfl rfl rfl rfl rfl rfl rfl hs (by decide +kernel) rfl (c_51 σ3 h4 s hs sg ((h5 _ _ (inW hs (by decide +kernel))).trans h_sg) (by first | exact q_a555021d16 hp0 | omega)) (by decide) (by decide) (fun v16 σ17 h15 => ?_)
      obtain ⟨h18, h19, z21, rfl, h20⟩ := h15
      have h22 := Fr_trans h8 h19 (by decide +kernel)
      refine En_Ps 1 (pc' := 18) (lv' := [(0, .ref s), (1, .int a)]) (st' := [.int ((((Int32.ofInt 1)) <<< (z21 &&& 31))), .int a]) rfl ?_
      refine En_rng (shl1_p 16 rfl (by omega) (by omega) (by decide)) (fun z23 h24 h25 => ?_)
      refine En_icGe _ rfl rfl rfl (fun h26 => ?_) (fun h26 => ?_)
      · refine En_Ps 1 (pc' := 26) (lv' := [(0, .ref s), (1, .int a)]) (st' := [.int ((Int32.ofInt 0))]) rfl ?_
        refine En_top (by decide : (Int32.ofInt 0).toInt = 0) (fun z27 h28 => ?_)
        exact En_ret (v := some (.int z27)) rfl rfl (retZ rfl rfl (by first | exact q_55451d0a83 h28 | omega) (by first | exact q_87849c3859 h28 | omega)) ⟨h18, h22, z27, rfl, ⟨by first | exact q_097a37c2ae h28 | omega, by first | exact q_e269517bee h28 | omega, fun _ => by omega⟩⟩
      · refine En_Ps 2 (pc' := 26) (lv' := [(0, .ref s), (1, .int a)]) (st' := [.int ((Int32.ofInt 1))]) rfl ?_
        refine En_top (by decide : (Int32.ofInt 1).toInt = 1) (fun z29 h30 => ?_)
        exact En_ret (v := some (.int z29)) rfl rfl (retZ rfl rfl (by first | exact q_2b07c97645 h30 | omega) (by first | exact q_d9e7cbb253 h30 | omega)) ⟨h18, h22, z29, rfl, ⟨by first | exact q_ad3eee31ca h30 | omega, by first | exact q_81cf297dc4 h30 | omega, fun _ => by omega⟩⟩
/-- DoorSchool$Plan.isDoor(I)Z -/
abbrev P_47 (σ0 : SG) (s : Nat) (a : Int32) : PO := fun v σ => WT σ ∧ Fr [] σ0 σ ∧ ∃ ret : Int32, v = some (.int ret) ∧ -ret.toInt ≤ 0 ∧ ret.toInt - 1 ≤ 0 ∧ (ret.toInt - 1 ≤ 0 ∧ -ret.toInt + 1 ≤ 0 → -a.toInt ≤ 0 ∧ a.toInt - 3 ≤ 0)
set_option maxRecDepth 10000 in
set_option maxHeartbeats 4000000 in
theorem c_47 (σ0 : SG) (hσ0 : WT σ0) (s : Nat) (hs : TG s = 18) (a : Int32) : En 0 0 none mr_47 (P_47 σ0 s a) 0 [(0, .ref s), (1, .int a)] [] σ0 := by
  have hF0 : Fr [] σ0 σ0 := Fr_rfl
  refine En_Ps 1 (pc' := 1) (lv' := [(0, .ref s), (1, .int a)]) (st' := [.int a]) rfl ?_
  refine En_iLt _ rfl rfl (fun h1 => ?_) (fun h1 => ?_)
  · refine En_Ps 1 (pc' := 17) (lv' := [(0, .ref s), (1, .int a)]) (st' := [.int ((Int32.ofInt 0))]) rfl ?_
    refine En_top (by decide : (Int32.ofInt 0).toInt = 0) (fun z2 h3 => ?_)
    exact En_ret (v := some (.int z2)) rfl rfl (retZ rfl rfl (by first | exact q_55451d0a83 h3 | omega) (by first | exact q_87849c3859 h3 | omega)) ⟨hσ0, hF0, z2, rfl, ⟨by first | exact q_097a37c2ae h3 | omega, by first | exact q_e269517bee h3 | omega, fun _ => by omega⟩⟩
  · refine En_Ps 2 (pc' := 6) (lv' := [(0, .ref s), (1, .int a)]) (st' := [.ref s, .int a]) rfl ?_
    refine En_getI (j := 3) (l := 0) (u := 4) rfl rfl rfl hs (by decide +kernel) hσ0 (by decide +kernel) (fun z5 h4 h6 h7 => ?_)
    refine En_icGe _ rfl rfl rfl (fun h8 => ?_) (fun h8 => ?_)
    · refine En_Ps 1 (pc' := 17) (lv' := [(0, .ref s), (1, .int a)]) (st' := [.int ((Int32.ofInt 0))]) rfl ?_
      refine En_top (by decide : (Int32.ofInt 0).toInt = 0) (fun z9 h10 => ?_)
      exact En_ret (v := some (.int z9)) rfl rfl (retZ rfl rfl (by first | exact q_55451d0a83 h10 | omega) (by first | exact q_87849c3859 h10 | omega)) ⟨hσ0, hF0, z9, rfl, ⟨by first | exact q_097a37c2ae h10 | omega, by first | exact q_e269517bee h10 | omega, fun _ => by omega⟩⟩
    · refine En_Ps 2 (pc' := 17) (lv' := [(0, .ref s), (1, .int a)]) (st' := [.int ((Int32.ofInt 1))]) rfl ?_
      refine En_top (by decide : (Int32.ofInt 1).toInt = 1) (fun z11 h12 => ?_)
      exact En_ret (v := some (.int z11)) rfl rfl (retZ rfl rfl (by first | exact q_2b07c97645 h12 | omega) (by first | exact q_d9e7cbb253 h12 | omega)) ⟨hσ0, hF0, z11, rfl, ⟨by first | exact q_ad3eee31ca h12 | omega, by first | exact q_81cf297dc4 h12 | omega, fun _ => by omega⟩⟩
/-- DoorSchool$Plan.isHouse(I)Z -/
abbrev P_48 (σ0 : SG) (s : Nat) (a : Int32) : PO := fun v σ => WT σ ∧ Fr [] σ0 σ ∧ ∃ ret : Int32, v = some (.int ret) ∧ -ret.toInt ≤ 0 ∧ ret.toInt - 1 ≤ 0 ∧ (ret.toInt - 1 ≤ 0 ∧ -ret.toInt + 1 ≤ 0 → -a.toInt ≤ 0 ∧ a.toInt - 3 ≤ 0)
set_option maxRecDepth 10000 in
set_option maxHeartbeats 4000000 in
theorem c_48 (σ0 : SG) (hσ0 : WT σ0) (s : Nat) (hs : TG s = 18) (a : Int32) : En 0 0 none mr_48 (P_48 σ0 s a) 0 [(0, .ref s), (1, .int a)] [] σ0 := by
  have hF0 : Fr [] σ0 σ0 := Fr_rfl
  refine En_Ps 1 (pc' := 1) (lv' := [(0, .ref s), (1, .int a)]) (st' := [.int a]) rfl ?_
  refine En_iLt _ rfl rfl (fun h1 => ?_) (fun h1 => ?_)
  · refine En_Ps 1 (pc' := 17) (lv' := [(0, .ref s), (1, .int a)]) (st' := [.int ((Int32.ofInt 0))]) rfl ?_
    refine En_top (by decide : (Int32.ofInt 0).toInt = 0) (fun z2 h3 => ?_)
    exact En_ret (v := some (.int z2)) rfl rfl (retZ rfl rfl (by first | exact q_55451d0a83 h3 | omega) (by first | exact q_87849c3859 h3 | omega)) ⟨hσ0, hF0, z2, rfl, ⟨by first | exact q_097a37c2ae h3 | omega, by first | exact q_e269517bee h3 | omega, fun _ => by omega⟩⟩
  · refine En_Ps 2 (pc' := 6) (lv' := [(0, .ref s), (1, .int a)]) (st' := [.ref s, .int a]) rfl ?_
    refine En_getI (j := 8) (l := 0) (u := 4) rfl rfl rfl hs (by decide +kernel) hσ0 (by decide +kernel) (fun z5 h4 h6 h7 => ?_)
    refine En_icGe _ rfl rfl rfl (fun h8 => ?_) (fun h8 => ?_)
    · refine En_Ps 1 (pc' := 17) (lv' := [(0, .ref s), (1, .int a)]) (st' := [.int ((Int32.ofInt 0))]) rfl ?_
      refine En_top (by decide : (Int32.ofInt 0).toInt = 0) (fun z9 h10 => ?_)
      exact En_ret (v := some (.int z9)) rfl rfl (retZ rfl rfl (by first | exact q_55451d0a83 h10 | omega) (by first | exact q_87849c3859 h10 | omega)) ⟨hσ0, hF0, z9, rfl, ⟨by first | exact q_097a37c2ae h10 | omega, by first | exact q_e269517bee h10 | omega, fun _ => by omega⟩⟩
    · refine En_Ps 2 (pc' := 17) (lv' := [(0, .ref s), (1, .int a)]) (st' := [.int ((Int32.ofInt 1))]) rfl ?_
      refine En_top (by decide : (Int32.ofInt 1).toInt = 1) (fun z11 h12 => ?_)
      exact En_ret (v := some (.int z11)) rfl rfl (retZ rfl rfl (by first | exact q_2b07c97645 h12 | omega) (by first | exact q_d9e7cbb253 h12 | omega)) ⟨hσ0, hF0, z11, rfl, ⟨by first | exact q_ad3eee31ca h12 | omega, by first | exact q_81cf297dc4 h12 | omega, fun _ => by omega⟩⟩
/-- DoorSchool$Plan.isKnock(I)Z -/
abbrev P_49 (σ0 : SG) (s : Nat) (a : Int32) (sg : Int32) : PO := fun v σ => WT σ ∧ Fr [] σ0 σ ∧ ∃ ret : Int32, v = some (.int ret) ∧ -ret.toInt ≤ 0 ∧ ret.toInt - 1 ≤ 0 ∧ (ret.toInt - 1 ≤ 0 ∧ -ret.toInt + 1 ≤ 0 → -a.toInt ≤ 0 ∧ a.toInt - 15 ≤ 0)
set_option maxRecDepth 10000 in
set_option maxHeartbeats 4000000 in
theorem c_49 (σ0 : SG) (hσ0 : WT σ0) (s : Nat) (hs : TG s = 18) (a : Int32) (sg : Int32) (h_sg : (σ0 s)[1]? = some (.int sg)) (hp0 : -sg.toInt ≤ 0) : En 1 20 none mr_49 (P_49 σ0 s a sg) 0 [(0, .ref s), (1, .int a)] [] σ0 := by
  obtain ⟨hl_sg, hu_sg⟩ := WT_int hσ0 (g := 18) hs (by decide +kernel) (l := (-1)) (u := 4) (by decide +kernel) h_sg
  have hF0 : Fr [] σ0 σ0 := Fr_rfl
  refine En_Ps 1 (pc' := 1) (lv' := [(0, .ref s), (1, .int a)]) (st' := [.ref s]) rfl ?_
  refine En_callV rfl rfl rfl rfl rfl rfl rfl rfl hs (by decide +kernel) rfl (c_43 σ0 hσ0 s hs) (by decide) (by decide) (fun v2 σ3 h1 => ?_)
  obtain ⟨h4, h5, z7, rfl, h6⟩ := h1
  have h8 := Fr_trans hF0 h5 (by decide +kernel)
  refine En_iEq _ rfl rfl (fun h9 => ?_) (fun h9 => ?_)
  · refine En_Ps 1 (pc' := 24) (lv' := [(0, .ref s), (1, .int a)]) (st' := [.int ((Int32.ofInt 0))]) rfl ?_
    refine En_top (by decide : (Int32.ofInt 0).toInt = 0) (fun z10 h11 => ?_)
    exact En_ret (v := some (.int z10)) rfl rfl (retZ rfl rfl (by first | exact q_55451d0a83 h11 | omega) (by first | exact q_87849c3859 h11 | omega)) ⟨h4, h8, z10, rfl, ⟨by first | exact q_097a37c2ae h11 | omega, by first | exact q_e269517bee h11 | omega, fun _ => by omega⟩⟩
  · refine En_Ps 1 (pc' := 8) (lv' := [(0, .ref s), (1, .int a)]) (st' := [.int a]) rfl ?_
    refine En_iLt _ rfl rfl (fun h12 => ?_) (fun h12 => ?_)
    · refine En_Ps 1 (pc' := 24) (lv' := [(0, .ref s), (1, .int a)]) (st' := [.int ((Int32.ofInt 0))]) rfl ?_
      refine En_top (by decide : (Int32.ofInt 0).toInt = 0) (fun z13 h14 => ?_)
      exact En_ret (v := some (.int z13)) rfl rfl (retZ rfl rfl (by first | exact q_55451d0a83 h14 | omega) (by first | exact q_87849c3859 h14 | omega)) ⟨h4, h8, z13, rfl, ⟨by first | exact q_097a37c2ae h14 | omega, by first | exact q_e269517bee h14 | omega, fun _ => by omega⟩⟩
    · refine En_Ps 2 (pc' := 13) (lv' := [(0, .ref s), (1, .int a)]) (st' := [.ref s, .int a]) rfl ?_
      refine En_callV rfl rfl rfl rfl rfl rfl rfl rfl hs (by decide +kernel) rfl (c_51 σ3 h4 s hs sg ((h5 _ _ (inW hs (by decide +kernel))).trans h_sg) (by first | exact q_a555021d16 hp0 | omega)) (by decide) (by decide) (fun v16 σ17 h15 => ?_)
      obtain ⟨h18, h19, z21, rfl, h20⟩ := h15
      have h22 := Fr_trans h8 h19 (by decide +kernel)
      refine En_icGe _ rfl rfl rfl (fun h23 => ?_) (fun h23 => ?_)
      · refine En_Ps 1 (pc' := 24) (lv' := [(0, .ref s), (1, .int a)]) (st' := [.int ((Int32.ofInt 0))]) rfl ?_
        refine En_top (by decide : (Int32.ofInt 0).toInt = 0) (fun z24 h25 => ?_)
        exact En_ret (v := some (.int z24)) rfl rfl (retZ rfl rfl (by first | exact q_55451d0a83 h25 | omega) (by first | exact q_87849c3859 h25 | omega)) ⟨h18, h22, z24, rfl, ⟨by first | exact q_097a37c2ae h25 | omega, by first | exact q_e269517bee h25 | omega, fun _ => by omega⟩⟩
      · refine En_Ps 2 (pc' := 24) (lv' := [(0, .ref s), (1, .int a)]) (st' := [.int ((Int32.ofInt 1))]) rfl ?_
        refine En_top (by decide : (Int32.ofInt 1).toInt = 1) (fun z26 h27 => ?_)
        exact En_ret (v := some (.int z26)) rfl rfl (retZ rfl rfl (by first | exact q_2b07c97645 h27 | omega) (by first | exact q_d9e7cbb253 h27 | omega)) ⟨h18, h22, z26, rfl, ⟨by first | exact q_ad3eee31ca h27 | omega, by first | exact q_81cf297dc4 h27 | omega, fun _ => by omega⟩⟩
/-- DoorSchool$Plan.isRule(II)Z -/
abbrev P_50 (σ0 : SG) (s : Nat) (a : Int32) (b : Int32) (sg : Int32) : PO := fun v σ => WT σ ∧ Fr [] σ0 σ ∧ ∃ ret : Int32, v = some (.int ret) ∧ -ret.toInt ≤ 0 ∧ ret.toInt - 1 ≤ 0 ∧ (ret.toInt - 1 ≤ 0 ∧ -ret.toInt + 1 ≤ 0 → -a.toInt ≤ 0 ∧ a.toInt - 15 ≤ 0 ∧ -b.toInt ≤ 0 ∧ b.toInt - 15 ≤ 0)
set_option maxRecDepth 10000 in
set_option maxHeartbeats 4000000 in
theorem c_50 (σ0 : SG) (hσ0 : WT σ0) (s : Nat) (hs : TG s = 18) (a : Int32) (b : Int32) (sg : Int32) (h_sg : (σ0 s)[1]? = some (.int sg)) (hp0 : -sg.toInt ≤ 0) : En 2 41 none mr_50 (P_50 σ0 s a b sg) 0 [(0, .ref s), (1, .int a), (2, .int b)] [] σ0 := by
  obtain ⟨hl_sg, hu_sg⟩ := WT_int hσ0 (g := 18) hs (by decide +kernel) (l := (-1)) (u := 4) (by decide +kernel) h_sg
  have hF0 : Fr [] σ0 σ0 := Fr_rfl
  refine En_Ps 2 (pc' := 2) (lv' := [(0, .ref s), (1, .int a), (2, .int b)]) (st' := [.int a, .ref s]) rfl ?_
  refine En_callV rfl rfl rfl rfl rfl rfl rfl rfl hs (by decide +kernel) rfl (c_49 σ0 hσ0 s hs a sg h_sg (by first | exact q_a555021d16 hp0 | omega)) (by decide) (by decide) (fun v2 σ3 h1 => ?_)
  obtain ⟨h4, h5, z7, rfl, h6⟩ := h1
  have h8 := Fr_trans hF0 h5 (by decide +kernel)
  refine En_iEq _ rfl rfl (fun h9 => ?_) (fun h9 => ?_)
  · refine En_Ps 1 (pc' := 21) (lv' := [(0, .ref s), (1, .int a), (2, .int b)]) (st' := [.int ((Int32.ofInt 0))]) rfl ?_
    refine En_top (by decide : (Int32.ofInt 0).toInt = 0) (fun z10 h11 => ?_)
    exact En_ret (v := some (.int z10)) rfl rfl (retZ rfl rfl (by first | exact q_55451d0a83 h11 | omega) (by first | exact q_87849c3859 h11 | omega)) ⟨h4, h8, z10, rfl, ⟨by first | exact q_097a37c2ae h11 | omega, by first | exact q_e269517bee h11 | omega, fun _ => by omega⟩⟩
  · refine En_Ps 4 (pc' := 12) (lv' := [(0, .ref s), (1, .int a), (2, .int b)]) (st' := [.int ((a ^^^ ((Int32.ofInt (-1))))), .int b]) rfl ?_
    refine En_nam (fun z12 h13 => ?_)
    refine En_Ps 1 (pc' := 13) (lv' := [(0, .ref s), (1, .int a), (2, .int b)]) (st' := [.int ((b &&& z12))]) rfl ?_
    refine En_nam (fun z14 h15 => ?_)
    refine En_iNe _ rfl rfl (fun h16 => ?_) (fun h16 => ?_)
    · refine En_Ps 1 (pc' := 21) (lv' := [(0, .ref s), (1, .int a), (2, .int b)]) (st' := [.int ((Int32.ofInt 0))]) rfl ?_
      refine En_top (by decide : (Int32.ofInt 0).toInt = 0) (fun z17 h18 => ?_)
      exact En_ret (v := some (.int z17)) rfl rfl (retZ rfl rfl (by first | exact q_55451d0a83 h18 | omega) (by first | exact q_87849c3859 h18 | omega)) ⟨h4, h8, z17, rfl, ⟨by first | exact q_097a37c2ae h18 | omega, by first | exact q_e269517bee h18 | omega, fun _ => by omega⟩⟩
    · obtain ⟨h19, h20⟩ := andn_zero h15 h13 h16 rfl rfl (by omega)
      refine En_Ps 2 (pc' := 21) (lv' := [(0, .ref s), (1, .int a), (2, .int b)]) (st' := [.int ((Int32.ofInt 1))]) rfl ?_
      refine En_top (by decide : (Int32.ofInt 1).toInt = 1) (fun z21 h22 => ?_)
      exact En_ret (v := some (.int z21)) rfl rfl (retZ rfl rfl (by first | exact q_2b07c97645 h22 | omega) (by first | exact q_d9e7cbb253 h22 | omega)) ⟨h4, h8, z21, rfl, ⟨by first | exact q_ad3eee31ca h22 | omega, by first | exact q_81cf297dc4 h22 | omega, fun _ => by omega⟩⟩
/-- DoorSchool$Plan.modelOf(I)LDoorSchool$Door; -/
abbrev P_52 (σ0 : SG) (s : Nat) (a : Int32) : PO := fun v σ => WT σ ∧ Fr [] σ0 σ ∧ ∃ ret : Nat, TG ret = 28 ∧ v = some (.ref ret) ∧ True
set_option maxRecDepth 10000 in
set_option maxHeartbeats 4000000 in
theorem c_52 (σ0 : SG) (hσ0 : WT σ0) (s : Nat) (hs : TG s = 18) (a : Int32) (hl_a : 0 ≤ a.toInt) (hu_a : a.toInt ≤ 3) : En 0 0 none mr_52 (P_52 σ0 s a) 0 [(0, .ref s), (1, .int a)] [] σ0 := by
  have hF0 : Fr [] σ0 σ0 := Fr_rfl
  refine En_Ps 1 (pc' := 1) (lv' := [(0, .ref s), (1, .int a)]) (st' := [.ref s]) rfl ?_
  refine En_getR (j := 4) (g' := 19) (u := 0) rfl rfl rfl hs (by decide +kernel) hσ0 (by decide +kernel) (fun a2 h1 ha2 => ?_)
  refine En_Ps 1 (pc' := 5) (lv' := [(0, .ref s), (1, .int a)]) (st' := [.int a, .ref a2]) rfl ?_
  refine En_aald (g' := 28) (u := 0) rfl rfl ha2 (by decide +kernel) hσ0 (by first | exact q_58e6e51dcc hl_a | omega) (lnI (by decide +kernel : LN _ = 4) (by first | exact q_f3bb6f88f7 hu_a | omega)) (FTsgl (by decide +kernel)) (fun a4 h3 ha4 => ?_)
  refine En_getI (j := 3) (l := (-1)) (u := 3) rfl rfl rfl ha4 (by decide +kernel) hσ0 (by decide +kernel) (fun z6 h5 h7 h8 => ?_)
  refine En_Ps 3 (pc' := 12) (lv' := [(2, .int z6), (0, .ref s), (1, .int a)]) (st' := [.int ((Int32.ofInt (-1))), .int z6]) rfl ?_
  refine En_icNe _ rfl (by decide : (Int32.ofInt (-1)).toInt = -1) rfl (fun h9 => ?_) (fun h9 => ?_)
  · refine En_Ps 1 (pc' := 25) (lv' := [(2, .int z6), (0, .ref s), (1, .int a)]) (st' := [.ref s]) rfl ?_
    refine En_getK (j := 4) h1 rfl rfl rfl hs (by decide +kernel) ?_
    refine En_Ps 1 (pc' := 29) (lv' := [(2, .int z6), (0, .ref s), (1, .int a)]) (st' := [.int z6, .ref a2]) rfl ?_
    refine En_aald (g' := 28) (u := 0) rfl rfl ha2 (by decide +kernel) hσ0 (by first | exact q_eab05c2344 h9 h7 | omega) (lnI (by decide +kernel : LN _ = 4) (by first | exact q_f3bb6f88f7 h8 | omega)) (FTsgl (by decide +kernel)) (fun a11 h10 ha11 => ?_)
    exact En_ret (v := some (.ref a11)) rfl rfl rfl ⟨hσ0, hF0, a11, ha11, rfl, trivial⟩
  · refine En_Ps 1 (pc' := 16) (lv' := [(2, .int z6), (0, .ref s), (1, .int a)]) (st' := [.ref s]) rfl ?_
    refine En_getK (j := 4) h1 rfl rfl rfl hs (by decide +kernel) ?_
    refine En_Ps 1 (pc' := 20) (lv' := [(2, .int z6), (0, .ref s), (1, .int a)]) (st' := [.int a, .ref a2]) rfl ?_
    refine En_aald (g' := 28) (u := 0) rfl rfl ha2 (by decide +kernel) hσ0 (by first | exact q_58e6e51dcc hl_a | omega) (lnI (by decide +kernel : LN _ = 4) (by first | exact q_f3bb6f88f7 hu_a | omega)) (FTsgl (by decide +kernel)) (fun a13 h12 ha13 => ?_)
    refine En_Ps 1 (pc' := 30) (lv' := [(2, .int z6), (0, .ref s), (1, .int a)]) (st' := [.ref a13]) rfl ?_
    exact En_ret (v := some (.ref a13)) rfl rfl rfl ⟨hσ0, hF0, a13, ha13, rfl, trivial⟩
