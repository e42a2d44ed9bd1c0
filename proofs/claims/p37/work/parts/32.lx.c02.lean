/-- DoorSchool$Plan.exists()Z -/
abbrev P_43 (σ0 : SG) (s : Nat) : PO := fun v σ => WT σ ∧ Fr [] σ0 σ ∧ ∃ ret : Int32, v = some (.int ret) ∧ -ret.toInt ≤ 0 ∧ ret.toInt - 1 ≤ 0
set_option maxRecDepth 10000 in
set_option maxHeartbeats 4000000 in
theorem c_43 (σ0 : SG) (hσ0 : WT σ0) (s : Nat) (hs : TG s = 18) : En 0 0 none mr_43 (P_43 σ0 s) 0 [(0, .ref s)] [] σ0 := by
  have hF0 : Fr [] σ0 σ0 := Fr_rfl
  refine En_Ps 1 (pc' := 1) (lv' := [(0, .ref s)]) (st' := [.ref s]) rfl ?_
  refine En_getI (j := 0) (l := 0) (u := 1601) rfl rfl rfl hs (by decide +kernel) hσ0 (by decide +kernel) (fun z2 h1 h3 h4 => ?_)
  refine En_iLe _ rfl rfl (fun h5 => ?_) (fun h5 => ?_)
  · refine En_Ps 1 (pc' := 12) (lv' := [(0, .ref s)]) (st' := [.int ((Int32.ofInt 0))]) rfl ?_
    refine En_top (by decide : (Int32.ofInt 0).toInt = 0) (fun z6 h7 => ?_)
    exact En_ret (v := some (.int z6)) rfl rfl (retZ rfl rfl (by omega) (by omega)) ⟨hσ0, hF0, z6, rfl, (by omega)⟩
  · refine En_Ps 2 (pc' := 12) (lv' := [(0, .ref s)]) (st' := [.int ((Int32.ofInt 1))]) rfl ?_
    refine En_top (by decide : (Int32.ofInt 1).toInt = 1) (fun z8 h9 => ?_)
    exact En_ret (v := some (.int z8)) rfl rfl (retZ rfl rfl (by omega) (by omega)) ⟨hσ0, hF0, z8, rfl, (by omega)⟩
/-- DoorSchool$Plan.knocks()I -/
abbrev P_51 (σ0 : SG) (s : Nat) (sg : Int32) : PO := fun v σ => WT σ ∧ Fr [] σ0 σ ∧ ∃ ret : Int32, v = some (.int ret) ∧ -ret.toInt + 1 ≤ 0 ∧ ret.toInt - 16 ≤ 0
set_option maxRecDepth 10000 in
set_option maxHeartbeats 4000000 in
theorem c_51 (σ0 : SG) (hσ0 : WT σ0) (s : Nat) (hs : TG s = 18) (sg : Int32) (h_sg : (σ0 s)[1]? = some (.int sg)) (hp0 : -sg.toInt ≤ 0) : En 0 0 none mr_51 (P_51 σ0 s sg) 0 [(0, .ref s)] [] σ0 := by
  obtain ⟨hl_sg, hu_sg⟩ := WT_int hσ0 (g := 18) hs (by decide +kernel) (l := (-1)) (u := 4) (by decide +kernel) h_sg
  have hF0 : Fr [] σ0 σ0 := Fr_rfl
  refine En_Ps 2 (pc' := 2) (lv' := [(0, .ref s)]) (st' := [.ref s, .int ((Int32.ofInt 1))]) rfl ?_
  refine En_getK (j := 1) h_sg rfl rfl rfl hs (by decide +kernel) ?_
  refine En_Ps 1 (pc' := 6) (lv' := [(0, .ref s)]) (st' := [.int ((((Int32.ofInt 1)) <<< (sg &&& 31)))]) rfl ?_
  refine En_rng (shl1_p 4 rfl (by omega) (by omega) (by decide)) (fun z1 h2 h3 => ?_)
  exact En_ret (v := some (.int z1)) rfl rfl rfl ⟨hσ0, hF0, z1, rfl, (by omega)⟩
/-- DoorSchool$Plan.isDeeds(I)Z -/
abbrev P_46 (σ0 : SG) (s : Nat) (a : Int32) (sg : Int32) : PO := fun v σ => WT σ ∧ Fr [] σ0 σ ∧ ∃ ret : Int32, v = some (.int ret) ∧ -ret.toInt ≤ 0 ∧ ret.toInt - 1 ≤ 0 ∧ (ret.toInt - 1 ≤ 0 ∧ -ret.toInt + 1 ≤ 0 → -a.toInt ≤ 0 ∧ a.toInt - 65535 ≤ 0)
set_option maxRecDepth 10000 in
set_option maxHeartbeats 4000000 in
theorem c_46 (σ0 : SG) (hσ0 : WT σ0) (s : Nat) (hs : TG s = 18) (a : Int32) (sg : Int32) (h_sg : (σ0 s)[1]? = some (.int sg)) (hp0 : -sg.toInt ≤ 0) : En 1 20 none mr_46 (P_46 σ0 s a sg) 0 [(0, .ref s), (1, .int a)] [] σ0 := by
  obtain ⟨hl_sg, hu_sg⟩ := WT_int hσ0 (g := 18) hs (by decide +kernel) (l := (-1)) (u := 4) (by decide +kernel) h_sg
  have hF0 : Fr [] σ0 σ0 := Fr_rfl
  refine En_Ps 1 (pc' := 1) (lv' := [(0, .ref s), (1, .int a)]) (st' := [.ref s]) rfl ?_
  refine En_callV rfl rfl rfl rfl rfl rfl rfl rfl hs (by decide +kernel) rfl (c_43 σ0 hσ0 s hs) (by decide) (by decide) (fun v2 σ3 h1 => ?_)
  obtain ⟨h4, h5, z7, rfl, h6⟩ := h1
  have h8 := Fr_trans hF0 h5 (by decide +kernel)
  refine En_iEq _ rfl rfl (fun h9 => ?_) (fun h9 => ?_)
  · refine En_Ps 1 (pc' := 26) (lv' := [(0, .ref s), (1, .int a)]) (st' := [.int ((Int32.ofInt 0))]) rfl ?_
    refine En_top (by decide : (Int32.ofInt 0).toInt = 0) (fun z10 h11 => ?_)
    exact En_ret (v := some (.int z10)) rfl rfl (retZ rfl rfl (by omega) (by omega)) ⟨h4, h8, z10, rfl, (by omega)⟩
  · refine En_Ps 1 (pc' := 8) (lv' := [(0, .ref s), (1, .int a)]) (st' := [.int a]) rfl ?_
    refine En_iLt _ rfl rfl (fun h12 => ?_) (fun h12 => ?_)
    · refine En_Ps 1 (pc' := 26) (lv' := [(0, .ref s), (1, .int a)]) (st' := [.int ((Int32.ofInt 0))]) rfl ?_
      refine En_top (by decide : (Int32.ofInt 0).toInt = 0) (fun z13 h14 => ?_)
      exact En_ret (v := some (.int z13)) rfl rfl (retZ rfl rfl (by omega) (by omega)) ⟨h4, h8, z13, rfl, (by omega)⟩
    · refine En_Ps 3 (pc' := 14) (lv' := [(0, .ref s), (1, .int a)]) (st' := [.ref s, .int ((Int32.ofInt 1)), .int a]) rfl ?_
      refine En_callV rfl rfl rfl rfl rfl rfl rfl rfl hs (by decide +kernel) rfl (c_51 σ3 h4 s hs sg ((h5 _ _ (inW hs (by decide +kernel))).trans h_sg) (by omega)) (by decide) (by decide) (fun v16 σ17 h15 => ?_)
      obtain ⟨h18, h19, z21, rfl, h20⟩ := h15
      have h22 := Fr_trans h8 h19 (by decide +kernel)
      refine En_Ps 1 (pc' := 18) (lv' := [(0, .ref s), (1, .int a)]) (st' := [.int ((((Int32.ofInt 1)) <<< (z21 &&& 31))), .int a]) rfl ?_
      refine En_rng (shl1_p 16 rfl (by omega) (by omega) (by decide)) (fun z23 h24 h25 => ?_)
      refine En_icGe _ rfl rfl rfl (fun h26 => ?_) (fun h26 => ?_)
      · refine En_Ps 1 (pc' := 26) (lv' := [(0, .ref s), (1, .int a)]) (st' := [.int ((Int32.ofInt 0))]) rfl ?_
        refine En_top (by decide : (Int32.ofInt 0).toInt = 0) (fun z27 h28 => ?_)
        exact En_ret (v := some (.int z27)) rfl rfl (retZ rfl rfl (by omega) (by omega)) ⟨h18, h22, z27, rfl, (by omega)⟩
      · refine En_Ps 2 (pc' := 26) (lv' := [(0, .ref s), (1, .int a)]) (st' := [.int ((Int32.ofInt 1))]) rfl ?_
        refine En_top (by decide : (Int32.ofInt 1).toInt = 1) (fun z29 h30 => ?_)
        exact En_ret (v := some (.int z29)) rfl rfl (retZ rfl rfl (by omega) (by omega)) ⟨h18, h22, z29, rfl, (by omega)⟩
/-- DoorSchool$Plan.isHouse(I)Z -/
abbrev P_48 (σ0 : SG) (s : Nat) (a : Int32) : PO := fun v σ => WT σ ∧ Fr [] σ0 σ ∧ ∃ ret : Int32, v = some (.int ret) ∧ -ret.toInt ≤ 0 ∧ ret.toInt - 1 ≤ 0 ∧ (ret.toInt - 1 ≤ 0 ∧ -ret.toInt + 1 ≤ 0 → -a.toInt ≤ 0 ∧ a.toInt - 3 ≤ 0)
set_option maxRecDepth 10000 in
set_option maxHeartbeats 4000000 in
theorem c_48 (σ0 : SG) (hσ0 : WT σ0) (s : Nat) (hs : TG s = 18) (a : Int32) : En 0 0 none mr_48 (P_48 σ0 s a) 0 [(0, .ref s), (1, .int a)] [] σ0 := by
  have hF0 : Fr [] σ0 σ0 := Fr_rfl
  refine En_Ps 1 (pc' := 1) (lv' := [(0, .ref s), (1, .int a)]) (st' := [.int a]) rfl ?_
  refine En_iLt _ rfl rfl (fun h1 => ?_) (fun h1 => ?_)
  · refine En_Ps 1 (pc' := 17) (lv' := [(0, .ref s), (1, .int a)]) (st' := [.int ((Int32.ofInt 0))]) rfl ?_
    refine En_top (by decide : (Int32.ofInt 0).toInt = 0) (fun z2 h3 => ?_)
    exact En_ret (v := some (.int z2)) rfl rfl (retZ rfl rfl (by omega) (by omega)) ⟨hσ0, hF0, z2, rfl, (by omega)⟩
  · refine En_Ps 2 (pc' := 6) (lv' := [(0, .ref s), (1, .int a)]) (st' := [.ref s, .int a]) rfl ?_
    refine En_getI (j := 8) (l := 0) (u := 4) rfl rfl rfl hs (by decide +kernel) hσ0 (by decide +kernel) (fun z5 h4 h6 h7 => ?_)
    refine En_icGe _ rfl rfl rfl (fun h8 => ?_) (fun h8 => ?_)
    · refine En_Ps 1 (pc' := 17) (lv' := [(0, .ref s), (1, .int a)]) (st' := [.int ((Int32.ofInt 0))]) rfl ?_
      refine En_top (by decide : (Int32.ofInt 0).toInt = 0) (fun z9 h10 => ?_)
      exact En_ret (v := some (.int z9)) rfl rfl (retZ rfl rfl (by omega) (by omega)) ⟨hσ0, hF0, z9, rfl, (by omega)⟩
    · refine En_Ps 2 (pc' := 17) (lv' := [(0, .ref s), (1, .int a)]) (st' := [.int ((Int32.ofInt 1))]) rfl ?_
      refine En_top (by decide : (Int32.ofInt 1).toInt = 1) (fun z11 h12 => ?_)
      exact En_ret (v := some (.int z11)) rfl rfl (retZ rfl rfl (by omega) (by omega)) ⟨hσ0, hF0, z11, rfl, (by omega)⟩
/-- DoorSchool$Plan.modelOf(I)LDoorSchool$Door; -/
abbrev P_52 (σ0 : SG) (s : Nat) (a : Int32) : PO := fun v σ => WT σ ∧ Fr [] σ0 σ ∧ ∃ ret : Nat, TG ret = 28 ∧ v = some (.ref ret) ∧ True
set_option maxRecDepth 10000 in
set_option maxHeartbeats 4000000 in
theorem c_52 (σ0 : SG) (hσ0 : WT σ0) (s : Nat) (hs : TG s = 18) (a : Int32) (hl_a : 0 ≤ a.toInt) (hu_a : a.toInt ≤ 3) : En 0 0 none mr_52 (P_52 σ0 s a) 0 [(0, .ref s), (1, .int a)] [] σ0 := by
  have hF0 : Fr [] σ0 σ0 := Fr_rfl
  refine En_Ps 1 (pc' := 1) (lv' := [(0, .ref s), (1, .int a)]) (st' := [.ref s]) rfl ?_
  refine En_getR (j := 4) (g' := 19) (u := 0) rfl rfl rfl hs (by decide +kernel) hσ0 (by decide +kernel) (fun a2 h1 ha2 => ?_)
  refine En_Ps 1 (pc' := 5) (lv' := [(0, .ref s), (1, .int a)]) (st' := [.int a, .ref a2]) rfl ?_
  refine En_aald (g' := 28) (u := 0) rfl rfl ha2 (by decide +kernel) hσ0 (by omega) (lnI (by decide +kernel : LN _ = 4) (by omega)) (FTsgl (by decide +kernel)) (fun a4 h3 ha4 => ?_)
  refine En_getI (j := 3) (l := (-1)) (u := 3) rfl rfl rfl ha4 (by decide +kernel) hσ0 (by decide +kernel) (fun z6 h5 h7 h8 => ?_)
  refine En_Ps 3 (pc' := 12) (lv' := [(2, .int z6), (0, .ref s), (1, .int a)]) (st' := [.int ((Int32.ofInt (-1))), .int z6]) rfl ?_
  refine En_icNe _ rfl (by decide : (Int32.ofInt (-1)).toInt = -1) rfl (fun h9 => ?_) (fun h9 => ?_)
  · refine En_Ps 1 (pc' := 25) (lv' := [(2, .int z6), (0, .ref s), (1, .int a)]) (st' := [.ref s]) rfl ?_
    refine En_getK (j := 4) h1 rfl rfl rfl hs (by decide +kernel) ?_
    refine En_Ps 1 (pc' := 29) (lv' := [(2, .int z6), (0, .ref s), (1, .int a)]) (st' := [.int z6, .ref a2]) rfl ?_
    refine En_aald (g' := 28) (u := 0) rfl rfl ha2 (by decide +kernel) hσ0 (by omega) (lnI (by decide +kernel : LN _ = 4) (by omega)) (FTsgl (by decide +kernel)) (fun a11 h10 ha11 => ?_)
    exact En_ret (v := some (.ref a11)) rfl rfl rfl ⟨hσ0, hF0, a11, ha11, rfl, trivial⟩
  · refine En_Ps 1 (pc' := 16) (lv' := [(2, .int z6), (0, .ref s), (1, .int a)]) (st' := [.ref s]) rfl ?_
    refine En_getK (j := 4) h1 rfl rfl rfl hs (by decide +kernel) ?_
    refine En_Ps 1 (pc' := 20) (lv' := [(2, .int z6), (0, .ref s), (1, .int a)]) (st' := [.int a, .ref a2]) rfl ?_
    refine En_aald (g' := 28) (u := 0) rfl rfl ha2 (by decide +kernel) hσ0 (by omega) (lnI (by decide +kernel : LN _ = 4) (by omega)) (FTsgl (by decide +kernel)) (fun a13 h12 ha13 => ?_)
    refine En_Ps 1 (pc' := 30) (lv' := [(2, .int z6), (0, .ref s), (1, .int a)]) (st' := [.ref a13]) rfl ?_
    exact En_ret (v := some (.ref a13)) rfl rfl rfl ⟨hσ0, hF0, a13, ha13, rfl, trivial⟩
