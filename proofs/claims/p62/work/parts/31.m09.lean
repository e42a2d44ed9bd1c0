/-- DoorSchoolModel.takes(Ljava/lang/String;)Z -/
abbrev P_318s9 (σ0 : SG) (f : Int32) : PO := fun v σ => WT σ ∧ Fr [(35, 8), (35, 9), (35, 10), (35, 11)] σ0 σ ∧ ∃ f1 : Int32, (σ 159)[8]? = some (.int f1) ∧ ∃ ret : Int32, v = some (.int ret) ∧ -ret.toInt ≤ 0 ∧ ret.toInt - 1 ≤ 0 ∧ -f1.toInt ≤ 0 ∧ f1.toInt - 1600 ≤ 0 ∧ -f1.toInt + f.toInt ≤ 0 ∧ f1.toInt - f.toInt - 1600 ≤ 0 ∧ f.toInt - f1.toInt ≤ 0 ∧ ((ret.toInt = 0 → σ0 = σ) ∧ ret.toInt = isA9 σ0)
set_option maxRecDepth 10000 in
set_option maxHeartbeats 4000000 in
theorem c_318s9 (σ0 : SG) (hσ0 : WT σ0) (f : Int32) (h_f : (σ0 159)[8]? = some (.int f)) : En 5 113 none mr_318 (P_318s9 σ0 f) 0 [(0, .ref 159), (1, .retAddr 19)] [] σ0 := by
  obtain ⟨hl_f, hu_f⟩ := WT_int hσ0 (g := 35) (by decide +kernel) (by decide +kernel) (l := 0) (u := 1600) (by decide +kernel) h_f
  have hF0 : Fr [(35, 8), (35, 9), (35, 10), (35, 11)] σ0 σ0 := Fr_rfl
  refine En_Ps 2 (pc' := 2) (lv' := [(0, .ref 159), (1, .retAddr 19)]) (st' := [.retAddr 19, .ref 159]) rfl ?_
  refine En_callV rfl rfl rfl rfl rfl rfl rfl rfl (by decide +kernel : TG 159 = 35) (by decide +kernel) rfl (c_251s9 σ0 hσ0) (by decide) (by decide) (fun v2 σ3 h1 => ?_)
  obtain ⟨h4, h5, z7, rfl, h6⟩ := h1
  have h8 := h6.2.2
  obtain rfl : σ0 = σ3 := Fr_nil h5
  refine En_Ps 2 (pc' := 7) (lv' := [(2, .int z7), (0, .ref 159), (1, .retAddr 19)]) (st' := [.int z7]) rfl ?_
  refine En_iEq _ rfl rfl (fun h9 => ?_) (fun h9 => ?_)
  · refine En_Ps 1 (pc' := 15) (lv' := [(2, .int z7), (0, .ref 159), (1, .retAddr 19)]) (st' := [.int z7]) rfl ?_
    exact En_ret (v := some (.int z7)) rfl rfl (retZ rfl rfl (by omega) (by omega)) ⟨hσ0, hF0, f, h_f, z7, rfl, ⟨by omega, by omega, by omega, by omega, by omega, by omega, by omega, ⟨fun hz => rfl, by omega⟩⟩⟩
  · refine En_Ps 1 (pc' := 11) (lv' := [(2, .int z7), (0, .ref 159), (1, .retAddr 19)]) (st' := [.ref 159]) rfl ?_
    refine En_callV rfl rfl rfl rfl rfl rfl rfl rfl (by decide +kernel : TG 159 = 35) (by decide +kernel) rfl (c_189 σ0 hσ0 f h_f) (by decide) (by decide) (fun v11 σ12 h10 => ?_)
    obtain ⟨h13, h14, z16, h17, z18, h19, rfl, h15⟩ := h10
    have h20 := Fr_trans hF0 h14 (by decide +kernel)
    refine En_Ps 1 (pc' := 15) (lv' := [(2, .int z7), (0, .ref 159), (1, .retAddr 19)]) (st' := [.int z7]) rfl ?_
    exact En_ret (v := some (.int z7)) rfl rfl (retZ rfl rfl (by omega) (by omega)) ⟨h13, h20, z16, h17, z7, rfl, ⟨by omega, by omega, by omega, by omega, by omega, by omega, by omega, ⟨fun hz => absurd hz (by omega), by omega⟩⟩⟩
/-- DoorSchoolModel.takes(Ljava/lang/String;)Z -/
abbrev P_318s10 (σ0 : SG) (f : Int32) : PO := fun v σ => WT σ ∧ Fr [(35, 8), (35, 9), (35, 10), (35, 11)] σ0 σ ∧ ∃ f1 : Int32, (σ 159)[8]? = some (.int f1) ∧ ∃ ret : Int32, v = some (.int ret) ∧ -ret.toInt ≤ 0 ∧ ret.toInt - 1 ≤ 0 ∧ -f1.toInt ≤ 0 ∧ f1.toInt - 1600 ≤ 0 ∧ -f1.toInt + f.toInt ≤ 0 ∧ f1.toInt - f.toInt - 1600 ≤ 0 ∧ f.toInt - f1.toInt ≤ 0 ∧ ((ret.toInt = 0 → σ0 = σ) ∧ ret.toInt = isA10 σ0)
set_option maxRecDepth 10000 in
set_option maxHeartbeats 4000000 in
theorem c_318s10 (σ0 : SG) (hσ0 : WT σ0) (f : Int32) (h_f : (σ0 159)[8]? = some (.int f)) : En 5 113 none mr_318 (P_318s10 σ0 f) 0 [(0, .ref 159), (1, .retAddr 21)] [] σ0 := by
  obtain ⟨hl_f, hu_f⟩ := WT_int hσ0 (g := 35) (by decide +kernel) (by decide +kernel) (l := 0) (u := 1600) (by decide +kernel) h_f
  have hF0 : Fr [(35, 8), (35, 9), (35, 10), (35, 11)] σ0 σ0 := Fr_rfl
  refine En_Ps 2 (pc' := 2) (lv' := [(0, .ref 159), (1, .retAddr 21)]) (st' := [.retAddr 21, .ref 159]) rfl ?_
  refine En_callV rfl rfl rfl rfl rfl rfl rfl rfl (by decide +kernel : TG 159 = 35) (by decide +kernel) rfl (c_251s10 σ0 hσ0) (by decide) (by decide) (fun v2 σ3 h1 => ?_)
  obtain ⟨h4, h5, z7, rfl, h6⟩ := h1
  have h8 := h6.2.2
  obtain rfl : σ0 = σ3 := Fr_nil h5
  refine En_Ps 2 (pc' := 7) (lv' := [(2, .int z7), (0, .ref 159), (1, .retAddr 21)]) (st' := [.int z7]) rfl ?_
  refine En_iEq _ rfl rfl (fun h9 => ?_) (fun h9 => ?_)
  · refine En_Ps 1 (pc' := 15) (lv' := [(2, .int z7), (0, .ref 159), (1, .retAddr 21)]) (st' := [.int z7]) rfl ?_
    exact En_ret (v := some (.int z7)) rfl rfl (retZ rfl rfl (by omega) (by omega)) ⟨hσ0, hF0, f, h_f, z7, rfl, ⟨by omega, by omega, by omega, by omega, by omega, by omega, by omega, ⟨fun hz => rfl, by omega⟩⟩⟩
  · refine En_Ps 1 (pc' := 11) (lv' := [(2, .int z7), (0, .ref 159), (1, .retAddr 21)]) (st' := [.ref 159]) rfl ?_
    refine En_callV rfl rfl rfl rfl rfl rfl rfl rfl (by decide +kernel : TG 159 = 35) (by decide +kernel) rfl (c_189 σ0 hσ0 f h_f) (by decide) (by decide) (fun v11 σ12 h10 => ?_)
    obtain ⟨h13, h14, z16, h17, z18, h19, rfl, h15⟩ := h10
    have h20 := Fr_trans hF0 h14 (by decide +kernel)
    refine En_Ps 1 (pc' := 15) (lv' := [(2, .int z7), (0, .ref 159), (1, .retAddr 21)]) (st' := [.int z7]) rfl ?_
    exact En_ret (v := some (.int z7)) rfl rfl (retZ rfl rfl (by omega) (by omega)) ⟨h13, h20, z16, h17, z7, rfl, ⟨by omega, by omega, by omega, by omega, by omega, by omega, by omega, ⟨fun hz => absurd hz (by omega), by omega⟩⟩⟩
/-- DoorSchoolModel.takes(Ljava/lang/String;)Z -/
abbrev P_318s11 (σ0 : SG) (f : Int32) : PO := fun v σ => WT σ ∧ Fr [(35, 8), (35, 9), (35, 10), (35, 11)] σ0 σ ∧ ∃ f1 : Int32, (σ 159)[8]? = some (.int f1) ∧ ∃ ret : Int32, v = some (.int ret) ∧ -ret.toInt ≤ 0 ∧ ret.toInt - 1 ≤ 0 ∧ -f1.toInt ≤ 0 ∧ f1.toInt - 1600 ≤ 0 ∧ -f1.toInt + f.toInt ≤ 0 ∧ f1.toInt - f.toInt - 1600 ≤ 0 ∧ f.toInt - f1.toInt ≤ 0 ∧ ((ret.toInt = 0 → σ0 = σ) ∧ ret.toInt = isA11 σ0)
set_option maxRecDepth 10000 in
set_option maxHeartbeats 4000000 in
theorem c_318s11 (σ0 : SG) (hσ0 : WT σ0) (f : Int32) (h_f : (σ0 159)[8]? = some (.int f)) : En 5 113 none mr_318 (P_318s11 σ0 f) 0 [(0, .ref 159), (1, .retAddr 23)] [] σ0 := by
  obtain ⟨hl_f, hu_f⟩ := WT_int hσ0 (g := 35) (by decide +kernel) (by decide +kernel) (l := 0) (u := 1600) (by decide +kernel) h_f
  have hF0 : Fr [(35, 8), (35, 9), (35, 10), (35, 11)] σ0 σ0 := Fr_rfl
  refine En_Ps 2 (pc' := 2) (lv' := [(0, .ref 159), (1, .retAddr 23)]) (st' := [.retAddr 23, .ref 159]) rfl ?_
  refine En_callV rfl rfl rfl rfl rfl rfl rfl rfl (by decide +kernel : TG 159 = 35) (by decide +kernel) rfl (c_251s11 σ0 hσ0) (by decide) (by decide) (fun v2 σ3 h1 => ?_)
  obtain ⟨h4, h5, z7, rfl, h6⟩ := h1
  have h8 := h6.2.2
  obtain rfl : σ0 = σ3 := Fr_nil h5
  refine En_Ps 2 (pc' := 7) (lv' := [(2, .int z7), (0, .ref 159), (1, .retAddr 23)]) (st' := [.int z7]) rfl ?_
  refine En_iEq _ rfl rfl (fun h9 => ?_) (fun h9 => ?_)
  · refine En_Ps 1 (pc' := 15) (lv' := [(2, .int z7), (0, .ref 159), (1, .retAddr 23)]) (st' := [.int z7]) rfl ?_
    exact En_ret (v := some (.int z7)) rfl rfl (retZ rfl rfl (by omega) (by omega)) ⟨hσ0, hF0, f, h_f, z7, rfl, ⟨by omega, by omega, by omega, by omega, by omega, by omega, by omega, ⟨fun hz => rfl, by omega⟩⟩⟩
  · refine En_Ps 1 (pc' := 11) (lv' := [(2, .int z7), (0, .ref 159), (1, .retAddr 23)]) (st' := [.ref 159]) rfl ?_
    refine En_callV rfl rfl rfl rfl rfl rfl rfl rfl (by decide +kernel : TG 159 = 35) (by decide +kernel) rfl (c_189 σ0 hσ0 f h_f) (by decide) (by decide) (fun v11 σ12 h10 => ?_)
    obtain ⟨h13, h14, z16, h17, z18, h19, rfl, h15⟩ := h10
    have h20 := Fr_trans hF0 h14 (by decide +kernel)
    refine En_Ps 1 (pc' := 15) (lv' := [(2, .int z7), (0, .ref 159), (1, .retAddr 23)]) (st' := [.int z7]) rfl ?_
    exact En_ret (v := some (.int z7)) rfl rfl (retZ rfl rfl (by omega) (by omega)) ⟨h13, h20, z16, h17, z7, rfl, ⟨by omega, by omega, by omega, by omega, by omega, by omega, by omega, ⟨fun hz => absurd hz (by omega), by omega⟩⟩⟩
/-- DoorSchoolModel.takes(Ljava/lang/String;)Z -/
abbrev P_318s12 (σ0 : SG) (f : Int32) : PO := fun v σ => WT σ ∧ Fr [(35, 8), (35, 9), (35, 10), (35, 11)] σ0 σ ∧ ∃ f1 : Int32, (σ 159)[8]? = some (.int f1) ∧ ∃ ret : Int32, v = some (.int ret) ∧ -ret.toInt ≤ 0 ∧ ret.toInt - 1 ≤ 0 ∧ -f1.toInt ≤ 0 ∧ f1.toInt - 1600 ≤ 0 ∧ -f1.toInt + f.toInt ≤ 0 ∧ f1.toInt - f.toInt - 1600 ≤ 0 ∧ f.toInt - f1.toInt ≤ 0 ∧ ((ret.toInt = 0 → σ0 = σ) ∧ ret.toInt = isA12 σ0)
set_option maxRecDepth 10000 in
set_option maxHeartbeats 4000000 in
theorem c_318s12 (σ0 : SG) (hσ0 : WT σ0) (f : Int32) (h_f : (σ0 159)[8]? = some (.int f)) : En 5 113 none mr_318 (P_318s12 σ0 f) 0 [(0, .ref 159), (1, .retAddr 25)] [] σ0 := by
  obtain ⟨hl_f, hu_f⟩ := WT_int hσ0 (g := 35) (by decide +kernel) (by decide +kernel) (l := 0) (u := 1600) (by decide +kernel) h_f
  have hF0 : Fr [(35, 8), (35, 9), (35, 10), (35, 11)] σ0 σ0 := Fr_rfl
  refine En_Ps 2 (pc' := 2) (lv' := [(0, .ref 159), (1, .retAddr 25)]) (st' := [.retAddr 25, .ref 159]) rfl ?_
  refine En_callV rfl rfl rfl rfl rfl rfl rfl rfl (by decide +kernel : TG 159 = 35) (by decide +kernel) rfl (c_251s12 σ0 hσ0) (by decide) (by decide) (fun v2 σ3 h1 => ?_)
  obtain ⟨h4, h5, z7, rfl, h6⟩ := h1
  have h8 := h6.2.2
  obtain rfl : σ0 = σ3 := Fr_nil h5
  refine En_Ps 2 (pc' := 7) (lv' := [(2, .int z7), (0, .ref 159), (1, .retAddr 25)]) (st' := [.int z7]) rfl ?_
  refine En_iEq _ rfl rfl (fun h9 => ?_) (fun h9 => ?_)
  · refine En_Ps 1 (pc' := 15) (lv' := [(2, .int z7), (0, .ref 159), (1, .retAddr 25)]) (st' := [.int z7]) rfl ?_
    exact En_ret (v := some (.int z7)) rfl rfl (retZ rfl rfl (by omega) (by omega)) ⟨hσ0, hF0, f, h_f, z7, rfl, ⟨by omega, by omega, by omega, by omega, by omega, by omega, by omega, ⟨fun hz => rfl, by omega⟩⟩⟩
  · refine En_Ps 1 (pc' := 11) (lv' := [(2, .int z7), (0, .ref 159), (1, .retAddr 25)]) (st' := [.ref 159]) rfl ?_
    refine En_callV rfl rfl rfl rfl rfl rfl rfl rfl (by decide +kernel : TG 159 = 35) (by decide +kernel) rfl (c_189 σ0 hσ0 f h_f) (by decide) (by decide) (fun v11 σ12 h10 => ?_)
    obtain ⟨h13, h14, z16, h17, z18, h19, rfl, h15⟩ := h10
    have h20 := Fr_trans hF0 h14 (by decide +kernel)
    refine En_Ps 1 (pc' := 15) (lv' := [(2, .int z7), (0, .ref 159), (1, .retAddr 25)]) (st' := [.int z7]) rfl ?_
    exact En_ret (v := some (.int z7)) rfl rfl (retZ rfl rfl (by omega) (by omega)) ⟨h13, h20, z16, h17, z7, rfl, ⟨by omega, by omega, by omega, by omega, by omega, by omega, by omega, ⟨fun hz => absurd hz (by omega), by omega⟩⟩⟩
/-- DoorSchoolModel.takes(Ljava/lang/String;)Z -/
abbrev P_318s13 (σ0 : SG) (f : Int32) : PO := fun v σ => WT σ ∧ Fr [(35, 8), (35, 9), (35, 10), (35, 11)] σ0 σ ∧ ∃ f1 : Int32, (σ 159)[8]? = some (.int f1) ∧ ∃ ret : Int32, v = some (.int ret) ∧ -ret.toInt ≤ 0 ∧ ret.toInt - 1 ≤ 0 ∧ -f1.toInt ≤ 0 ∧ f1.toInt - 1600 ≤ 0 ∧ -f1.toInt + f.toInt ≤ 0 ∧ f1.toInt - f.toInt - 1600 ≤ 0 ∧ f.toInt - f1.toInt ≤ 0 ∧ ((ret.toInt = 0 → σ0 = σ) ∧ ret.toInt = isA13 σ0)
set_option maxRecDepth 10000 in
set_option maxHeartbeats 4000000 in
theorem c_318s13 (σ0 : SG) (hσ0 : WT σ0) (f : Int32) (h_f : (σ0 159)[8]? = some (.int f)) : En 5 113 none mr_318 (P_318s13 σ0 f) 0 [(0, .ref 159), (1, .retAddr 27)] [] σ0 := by
  obtain ⟨hl_f, hu_f⟩ := WT_int hσ0 (g := 35) (by decide +kernel) (by decide +kernel) (l := 0) (u := 1600) (by decide +kernel) h_f
  have hF0 : Fr [(35, 8), (35, 9), (35, 10), (35, 11)] σ0 σ0 := Fr_rfl
  refine En_Ps 2 (pc' := 2) (lv' := [(0, .ref 159), (1, .retAddr 27)]) (st' := [.retAddr 27, .ref 159]) rfl ?_
  refine En_callV rfl rfl rfl rfl rfl rfl rfl rfl (by decide +kernel : TG 159 = 35) (by decide +kernel) rfl (c_251s13 σ0 hσ0) (by decide) (by decide) (fun v2 σ3 h1 => ?_)
  obtain ⟨h4, h5, z7, rfl, h6⟩ := h1
  have h8 := h6.2.2
  obtain rfl : σ0 = σ3 := Fr_nil h5
  refine En_Ps 2 (pc' := 7) (lv' := [(2, .int z7), (0, .ref 159), (1, .retAddr 27)]) (st' := [.int z7]) rfl ?_
  refine En_iEq _ rfl rfl (fun h9 => ?_) (fun h9 => ?_)
  · refine En_Ps 1 (pc' := 15) (lv' := [(2, .int z7), (0, .ref 159), (1, .retAddr 27)]) (st' := [.int z7]) rfl ?_
    exact En_ret (v := some (.int z7)) rfl rfl (retZ rfl rfl (by omega) (by omega)) ⟨hσ0, hF0, f, h_f, z7, rfl, ⟨by omega, by omega, by omega, by omega, by omega, by omega, by omega, ⟨fun hz => rfl, by omega⟩⟩⟩
  · refine En_Ps 1 (pc' := 11) (lv' := [(2, .int z7), (0, .ref 159), (1, .retAddr 27)]) (st' := [.ref 159]) rfl ?_
    refine En_callV rfl rfl rfl rfl rfl rfl rfl rfl (by decide +kernel : TG 159 = 35) (by decide +kernel) rfl (c_189 σ0 hσ0 f h_f) (by decide) (by decide) (fun v11 σ12 h10 => ?_)
    obtain ⟨h13, h14, z16, h17, z18, h19, rfl, h15⟩ := h10
    have h20 := Fr_trans hF0 h14 (by decide +kernel)
    refine En_Ps 1 (pc' := 15) (lv' := [(2, .int z7), (0, .ref 159), (1, .retAddr 27)]) (st' := [.int z7]) rfl ?_
    exact En_ret (v := some (.int z7)) rfl rfl (retZ rfl rfl (by omega) (by omega)) ⟨h13, h20, z16, h17, z7, rfl, ⟨by omega, by omega, by omega, by omega, by omega, by omega, by omega, ⟨fun hz => absurd hz (by omega), by omega⟩⟩⟩
/-- DoorSchoolModel.takes(Ljava/lang/String;)Z -/
abbrev P_318s14 (σ0 : SG) (f : Int32) : PO := fun v σ => WT σ ∧ Fr [(35, 8), (35, 9), (35, 10), (35, 11)] σ0 σ ∧ ∃ f1 : Int32, (σ 159)[8]? = some (.int f1) ∧ ∃ ret : Int32, v = some (.int ret) ∧ -ret.toInt ≤ 0 ∧ ret.toInt - 1 ≤ 0 ∧ -f1.toInt ≤ 0 ∧ f1.toInt - 1600 ≤ 0 ∧ -f1.toInt + f.toInt ≤ 0 ∧ f1.toInt - f.toInt - 1600 ≤ 0 ∧ f.toInt - f1.toInt ≤ 0 ∧ ((ret.toInt = 0 → σ0 = σ) ∧ ret.toInt = isA14 σ0)
set_option maxRecDepth 10000 in
set_option maxHeartbeats 4000000 in
theorem c_318s14 (σ0 : SG) (hσ0 : WT σ0) (f : Int32) (h_f : (σ0 159)[8]? = some (.int f)) : En 5 113 none mr_318 (P_318s14 σ0 f) 0 [(0, .ref 159), (1, .retAddr 29)] [] σ0 := by
  obtain ⟨hl_f, hu_f⟩ := WT_int hσ0 (g := 35) (by decide +kernel) (by decide +kernel) (l := 0) (u := 1600) (by decide +kernel) h_f
  have hF0 : Fr [(35, 8), (35, 9), (35, 10), (35, 11)] σ0 σ0 := Fr_rfl
  refine En_Ps 2 (pc' := 2) (lv' := [(0, .ref 159), (1, .retAddr 29)]) (st' := [.retAddr 29, .ref 159]) rfl ?_
  refine En_callV rfl rfl rfl rfl rfl rfl rfl rfl (by decide +kernel : TG 159 = 35) (by decide +kernel) rfl (c_251s14 σ0 hσ0) (by decide) (by decide) (fun v2 σ3 h1 => ?_)
  obtain ⟨h4, h5, z7, rfl, h6⟩ := h1
  have h8 := h6.2.2
  obtain rfl : σ0 = σ3 := Fr_nil h5
  refine En_Ps 2 (pc' := 7) (lv' := [(2, .int z7), (0, .ref 159), (1, .retAddr 29)]) (st' := [.int z7]) rfl ?_
  refine En_iEq _ rfl rfl (fun h9 => ?_) (fun h9 => ?_)
  · refine En_Ps 1 (pc' := 15) (lv' := [(2, .int z7), (0, .ref 159), (1, .retAddr 29)]) (st' := [.int z7]) rfl ?_
    exact En_ret (v := some (.int z7)) rfl rfl (retZ rfl rfl (by omega) (by omega)) ⟨hσ0, hF0, f, h_f, z7, rfl, ⟨by omega, by omega, by omega, by omega, by omega, by omega, by omega, ⟨fun hz => rfl, by omega⟩⟩⟩
  · refine En_Ps 1 (pc' := 11) (lv' := [(2, .int z7), (0, .ref 159), (1, .retAddr 29)]) (st' := [.ref 159]) rfl ?_
    refine En_callV rfl rfl rfl rfl rfl rfl rfl rfl (by decide +kernel : TG 159 = 35) (by decide +kernel) rfl (c_189 σ0 hσ0 f h_f) (by decide) (by decide) (fun v11 σ12 h10 => ?_)
    obtain ⟨h13, h14, z16, h17, z18, h19, rfl, h15⟩ := h10
    have h20 := Fr_trans hF0 h14 (by decide +kernel)
    refine En_Ps 1 (pc' := 15) (lv' := [(2, .int z7), (0, .ref 159), (1, .retAddr 29)]) (st' := [.int z7]) rfl ?_
    exact En_ret (v := some (.int z7)) rfl rfl (retZ rfl rfl (by omega) (by omega)) ⟨h13, h20, z16, h17, z7, rfl, ⟨by omega, by omega, by omega, by omega, by omega, by omega, by omega, ⟨fun hz => absurd hz (by omega), by omega⟩⟩⟩
/-- DoorSchoolModel.takes(Ljava/lang/String;)Z -/
abbrev P_318s15 (σ0 : SG) (f : Int32) : PO := fun v σ => WT σ ∧ Fr [(35, 8), (35, 9), (35, 10), (35, 11)] σ0 σ ∧ ∃ f1 : Int32, (σ 159)[8]? = some (.int f1) ∧ ∃ ret : Int32, v = some (.int ret) ∧ -ret.toInt ≤ 0 ∧ ret.toInt - 1 ≤ 0 ∧ -f1.toInt ≤ 0 ∧ f1.toInt - 1600 ≤ 0 ∧ -f1.toInt + f.toInt ≤ 0 ∧ f1.toInt - f.toInt - 1600 ≤ 0 ∧ f.toInt - f1.toInt ≤ 0 ∧ ((ret.toInt = 0 → σ0 = σ) ∧ ret.toInt = isA15 σ0)
set_option maxRecDepth 10000 in
set_option maxHeartbeats 4000000 in
theorem c_318s15 (σ0 : SG) (hσ0 : WT σ0) (f : Int32) (h_f : (σ0 159)[8]? = some (.int f)) : En 5 113 none mr_318 (P_318s15 σ0 f) 0 [(0, .ref 159), (1, .retAddr 31)] [] σ0 := by
  obtain ⟨hl_f, hu_f⟩ := WT_int hσ0 (g := 35) (by decide +kernel) (by decide +kernel) (l := 0) (u := 1600) (by decide +kernel) h_f
  have hF0 : Fr [(35, 8), (35, 9), (35, 10), (35, 11)] σ0 σ0 := Fr_rfl
  refine En_Ps 2 (pc' := 2) (lv' := [(0, .ref 159), (1, .retAddr 31)]) (st' := [.retAddr 31, .ref 159]) rfl ?_
  refine En_callV rfl rfl rfl rfl rfl rfl rfl rfl (by decide +kernel : TG 159 = 35) (by decide +kernel) rfl (c_251s15 σ0 hσ0) (by decide) (by decide) (fun v2 σ3 h1 => ?_)
  obtain ⟨h4, h5, z7, rfl, h6⟩ := h1
  have h8 := h6.2.2
  obtain rfl : σ0 = σ3 := Fr_nil h5
  refine En_Ps 2 (pc' := 7) (lv' := [(2, .int z7), (0, .ref 159), (1, .retAddr 31)]) (st' := [.int z7]) rfl ?_
  refine En_iEq _ rfl rfl (fun h9 => ?_) (fun h9 => ?_)
  · refine En_Ps 1 (pc' := 15) (lv' := [(2, .int z7), (0, .ref 159), (1, .retAddr 31)]) (st' := [.int z7]) rfl ?_
    exact En_ret (v := some (.int z7)) rfl rfl (retZ rfl rfl (by omega) (by omega)) ⟨hσ0, hF0, f, h_f, z7, rfl, ⟨by omega, by omega, by omega, by omega, by omega, by omega, by omega, ⟨fun hz => rfl, by omega⟩⟩⟩
  · refine En_Ps 1 (pc' := 11) (lv' := [(2, .int z7), (0, .ref 159), (1, .retAddr 31)]) (st' := [.ref 159]) rfl ?_
    refine En_callV rfl rfl rfl rfl rfl rfl rfl rfl (by decide +kernel : TG 159 = 35) (by decide +kernel) rfl (c_189 σ0 hσ0 f h_f) (by decide) (by decide) (fun v11 σ12 h10 => ?_)
    obtain ⟨h13, h14, z16, h17, z18, h19, rfl, h15⟩ := h10
    have h20 := Fr_trans hF0 h14 (by decide +kernel)
    refine En_Ps 1 (pc' := 15) (lv' := [(2, .int z7), (0, .ref 159), (1, .retAddr 31)]) (st' := [.int z7]) rfl ?_
    exact En_ret (v := some (.int z7)) rfl rfl (retZ rfl rfl (by omega) (by omega)) ⟨h13, h20, z16, h17, z7, rfl, ⟨by omega, by omega, by omega, by omega, by omega, by omega, by omega, ⟨fun hz => absurd hz (by omega), by omega⟩⟩⟩
/-- DoorSchoolModel.takes(Ljava/lang/String;)Z -/
abbrev P_318s16 (σ0 : SG) (f : Int32) : PO := fun v σ => WT σ ∧ Fr [(35, 8), (35, 9), (35, 10), (35, 11)] σ0 σ ∧ ∃ f1 : Int32, (σ 159)[8]? = some (.int f1) ∧ ∃ ret : Int32, v = some (.int ret) ∧ -ret.toInt ≤ 0 ∧ ret.toInt - 1 ≤ 0 ∧ -f1.toInt ≤ 0 ∧ f1.toInt - 1600 ≤ 0 ∧ -f1.toInt + f.toInt ≤ 0 ∧ f1.toInt - f.toInt - 1600 ≤ 0 ∧ f.toInt - f1.toInt ≤ 0 ∧ ((ret.toInt = 0 → σ0 = σ) ∧ ret.toInt = isA16 σ0)
set_option maxRecDepth 10000 in
set_option maxHeartbeats 4000000 in
theorem c_318s16 (σ0 : SG) (hσ0 : WT σ0) (f : Int32) (h_f : (σ0 159)[8]? = some (.int f)) : En 5 113 none mr_318 (P_318s16 σ0 f) 0 [(0, .ref 159), (1, .retAddr 33)] [] σ0 := by
  obtain ⟨hl_f, hu_f⟩ := WT_int hσ0 (g := 35) (by decide +kernel) (by decide +kernel) (l := 0) (u := 1600) (by decide +kernel) h_f
  have hF0 : Fr [(35, 8), (35, 9), (35, 10), (35, 11)] σ0 σ0 := Fr_rfl
  refine En_Ps 2 (pc' := 2) (lv' := [(0, .ref 159), (1, .retAddr 33)]) (st' := [.retAddr 33, .ref 159]) rfl ?_
  refine En_callV rfl rfl rfl rfl rfl rfl rfl rfl (by decide +kernel : TG 159 = 35) (by decide +kernel) rfl (c_251s16 σ0 hσ0) (by decide) (by decide) (fun v2 σ3 h1 => ?_)
  obtain ⟨h4, h5, z7, rfl, h6⟩ := h1
  have h8 := h6.2.2
  obtain rfl : σ0 = σ3 := Fr_nil h5
  refine En_Ps 2 (pc' := 7) (lv' := [(2, .int z7), (0, .ref 159), (1, .retAddr 33)]) (st' := [.int z7]) rfl ?_
  refine En_iEq _ rfl rfl (fun h9 => ?_) (fun h9 => ?_)
  · refine En_Ps 1 (pc' := 15) (lv' := [(2, .int z7), (0, .ref 159), (1, .retAddr 33)]) (st' := [.int z7]) rfl ?_
    exact En_ret (v := some (.int z7)) rfl rfl (retZ rfl rfl (by omega) (by omega)) ⟨hσ0, hF0, f, h_f, z7, rfl, ⟨by omega, by omega, by omega, by omega, by omega, by omega, by omega, ⟨fun hz => rfl, by omega⟩⟩⟩
  · refine En_Ps 1 (pc' := 11) (lv' := [(2, .int z7), (0, .ref 159), (1, .retAddr 33)]) (st' := [.ref 159]) rfl ?_
    refine En_callV rfl rfl rfl rfl rfl rfl rfl rfl (by decide +kernel : TG 159 = 35) (by decide +kernel) rfl (c_189 σ0 hσ0 f h_f) (by decide) (by decide) (fun v11 σ12 h10 => ?_)
    obtain ⟨h13, h14, z16, h17, z18, h19, rfl, h15⟩ := h10
    have h20 := Fr_trans hF0 h14 (by decide +kernel)
    refine En_Ps 1 (pc' := 15) (lv' := [(2, .int z7), (0, .ref 159), (1, .retAddr 33)]) (st' := [.int z7]) rfl ?_
    exact En_ret (v := some (.int z7)) rfl rfl (retZ rfl rfl (by omega) (by omega)) ⟨h13, h20, z16, h17, z7, rfl, ⟨by omega, by omega, by omega, by omega, by omega, by omega, by omega, ⟨fun hz => absurd hz (by omega), by omega⟩⟩⟩
/-- DoorSchoolModel.takes(Ljava/lang/String;)Z -/
abbrev P_318s17 (σ0 : SG) (f : Int32) : PO := fun v σ => WT σ ∧ Fr [(35, 8), (35, 9), (35, 10), (35, 11)] σ0 σ ∧ ∃ f1 : Int32, (σ 159)[8]? = some (.int f1) ∧ ∃ ret : Int32, v = some (.int ret) ∧ -ret.toInt ≤ 0 ∧ ret.toInt - 1 ≤ 0 ∧ -f1.toInt ≤ 0 ∧ f1.toInt - 1600 ≤ 0 ∧ -f1.toInt + f.toInt ≤ 0 ∧ f1.toInt - f.toInt - 1600 ≤ 0 ∧ f.toInt - f1.toInt ≤ 0 ∧ ((ret.toInt = 0 → σ0 = σ) ∧ ret.toInt = isA17 σ0)
set_option maxRecDepth 10000 in
set_option maxHeartbeats 4000000 in
theorem c_318s17 (σ0 : SG) (hσ0 : WT σ0) (f : Int32) (h_f : (σ0 159)[8]? = some (.int f)) : En 5 113 none mr_318 (P_318s17 σ0 f) 0 [(0, .ref 159), (1, .retAddr 35)] [] σ0 := by
  obtain ⟨hl_f, hu_f⟩ := WT_int hσ0 (g := 35) (by decide +kernel) (by decide +kernel) (l := 0) (u := 1600) (by decide +kernel) h_f
  have hF0 : Fr [(35, 8), (35, 9), (35, 10), (35, 11)] σ0 σ0 := Fr_rfl
  refine En_Ps 2 (pc' := 2) (lv' := [(0, .ref 159), (1, .retAddr 35)]) (st' := [.retAddr 35, .ref 159]) rfl ?_
  refine En_callV rfl rfl rfl rfl rfl rfl rfl rfl (by decide +kernel : TG 159 = 35) (by decide +kernel) rfl (c_251s17 σ0 hσ0) (by decide) (by decide) (fun v2 σ3 h1 => ?_)
  obtain ⟨h4, h5, z7, rfl, h6⟩ := h1
  have h8 := h6.2.2
  obtain rfl : σ0 = σ3 := Fr_nil h5
  refine En_Ps 2 (pc' := 7) (lv' := [(2, .int z7), (0, .ref 159), (1, .retAddr 35)]) (st' := [.int z7]) rfl ?_
  refine En_iEq _ rfl rfl (fun h9 => ?_) (fun h9 => ?_)
  · refine En_Ps 1 (pc' := 15) (lv' := [(2, .int z7), (0, .ref 159), (1, .retAddr 35)]) (st' := [.int z7]) rfl ?_
    exact En_ret (v := some (.int z7)) rfl rfl (retZ rfl rfl (by omega) (by omega)) ⟨hσ0, hF0, f, h_f, z7, rfl, ⟨by omega, by omega, by omega, by omega, by omega, by omega, by omega, ⟨fun hz => rfl, by omega⟩⟩⟩
  · refine En_Ps 1 (pc' := 11) (lv' := [(2, .int z7), (0, .ref 159), (1, .retAddr 35)]) (st' := [.ref 159]) rfl ?_
    refine En_callV rfl rfl rfl rfl rfl rfl rfl rfl (by decide +kernel : TG 159 = 35) (by decide +kernel) rfl (c_189 σ0 hσ0 f h_f) (by decide) (by decide) (fun v11 σ12 h10 => ?_)
    obtain ⟨h13, h14, z16, h17, z18, h19, rfl, h15⟩ := h10
    have h20 := Fr_trans hF0 h14 (by decide +kernel)
    refine En_Ps 1 (pc' := 15) (lv' := [(2, .int z7), (0, .ref 159), (1, .retAddr 35)]) (st' := [.int z7]) rfl ?_
    exact En_ret (v := some (.int z7)) rfl rfl (retZ rfl rfl (by omega) (by omega)) ⟨h13, h20, z16, h17, z7, rfl, ⟨by omega, by omega, by omega, by omega, by omega, by omega, by omega, ⟨fun hz => absurd hz (by omega), by omega⟩⟩⟩
/-- DoorSchoolModel.errs(I)V -/
abbrev P_223 (σ0 : SG) (a : Int32) (k : Int32) : PO := fun v σ => WT σ ∧ Fr [(35, 12), (35, 13)] σ0 σ ∧ ∃ k1 : Int32, (σ 159)[12]? = some (.int k1) ∧ v = none ∧ -k1.toInt + 1 ≤ 0 ∧ k1.toInt - 3 ≤ 0 ∧ -k1.toInt + k.toInt ≤ 0 ∧ k1.toInt - k.toInt - 3 ≤ 0 ∧ -k1.toInt + 1 ≤ 0
set_option maxRecDepth 10000 in
set_option maxHeartbeats 4000000 in
theorem c_223 (σ0 : SG) (hσ0 : WT σ0) (a : Int32) (hl_a : 1 ≤ a.toInt) (hu_a : a.toInt ≤ 3) (k : Int32) (h_k : (σ0 159)[12]? = some (.int k)) : En 1 20 none mr_223 (P_223 σ0 a k) 0 [(0, .ref 159), (1, .int a)] [] σ0 := by
  obtain ⟨hl_k, hu_k⟩ := WT_int hσ0 (g := 35) (by decide +kernel) (by decide +kernel) (l := 0) (u := 3) (by decide +kernel) h_k
  have hF0 : Fr [(35, 12), (35, 13)] σ0 σ0 := Fr_rfl
  refine En_Ps 1 (pc' := 1) (lv' := [(0, .ref 159), (1, .int a)]) (st' := [.ref 159]) rfl ?_
  refine En_callV rfl rfl rfl rfl rfl rfl rfl rfl (by decide +kernel : TG 159 = 35) (by decide +kernel) rfl (c_237 σ0 hσ0 k h_k) (by decide) (by decide) (fun v2 σ3 h1 => ?_)
  obtain ⟨h4, h5, z7, rfl, h6⟩ := h1
  have h8 := Fr_trans hF0 h5 (by decide +kernel)
  refine En_iNe _ rfl rfl (fun h9 => ?_) (fun h9 => ?_)
  · refine En_Ps 2 (pc' := 10) (lv' := [(0, .ref 159), (1, .int a)]) (st' := [.int a, .ref 159]) rfl ?_
    refine En_put (j := 12) rfl rfl rfl (by decide +kernel : TG 159 = 35) (by decide +kernel) rfl (vI (l := 0) (u := 3) (by decide +kernel) rfl (by omega) (by omega)) h4 h8 (by decide +kernel) (fun σ10 h11 h12 h13 h14 => ?_)
    refine En_Ps 2 (pc' := 15) (lv' := [(0, .ref 159), (1, .int a)]) (st' := [.ref 159, .ref 159]) rfl ?_
    refine En_getI (j := 9) (l := 0) (u := 1600) rfl rfl rfl (by decide +kernel : TG 159 = 35) (by decide +kernel) h11 (by decide +kernel) (fun z16 h15 h17 h18 => ?_)
    refine En_put (j := 13) rfl rfl rfl (by decide +kernel : TG 159 = 35) (by decide +kernel) rfl (vI (l := (-1)) (u := 1600) (by decide +kernel) rfl (by omega) (by omega)) h11 h12 (by decide +kernel) (fun σ19 h20 h21 h22 h23 => ?_)
    exact En_ret (v := none) rfl rfl rfl ⟨h20, h21, a, ((h23 _ _ (Or.inr (by decide))).trans h13), rfl, (by omega)⟩
  · exact En_ret (v := none) rfl rfl rfl ⟨h4, h8, k, ((h5 _ _ (inW (by decide +kernel : TG 159 = 35) (by decide +kernel))).trans h_k), rfl, (by omega)⟩
/-- DoorSchoolModel.needs(Ljava/lang/String;)V -/
abbrev P_286s0 (σ0 : SG) (f : Int32) (k : Int32) : PO := fun v σ => WT σ ∧ Fr [(35, 8), (35, 9), (35, 10), (35, 11), (35, 12), (35, 13)] σ0 σ ∧ ∃ f1 : Int32, (σ 159)[8]? = some (.int f1) ∧ ∃ k1 : Int32, (σ 159)[12]? = some (.int k1) ∧ v = none ∧ -f1.toInt ≤ 0 ∧ f1.toInt - 1600 ≤ 0 ∧ -f1.toInt + f.toInt ≤ 0 ∧ f1.toInt - f.toInt - 1600 ≤ 0 ∧ -f1.toInt + k.toInt - 3 ≤ 0 ∧ f1.toInt - k.toInt - 1600 ≤ 0 ∧ -k1.toInt ≤ 0 ∧ k1.toInt - 3 ≤ 0 ∧ -k1.toInt + f.toInt - 1600 ≤ 0 ∧ k1.toInt - f.toInt - 3 ≤ 0 ∧ -k1.toInt + k.toInt ≤ 0 ∧ k1.toInt - k.toInt - 3 ≤ 0 ∧ f.toInt - f1.toInt ≤ 0 ∧ (k1.toInt ≤ 0 → k.toInt ≤ 0)
set_option maxRecDepth 10000 in
set_option maxHeartbeats 4000000 in
theorem c_286s0 (σ0 : SG) (hσ0 : WT σ0) (f : Int32) (h_f : (σ0 159)[8]? = some (.int f)) (k : Int32) (h_k : (σ0 159)[12]? = some (.int k)) : En 6 135 none mr_286 (P_286s0 σ0 f k) 0 [(0, .ref 159), (1, .retAddr 1)] [] σ0 := by
  obtain ⟨hl_f, hu_f⟩ := WT_int hσ0 (g := 35) (by decide +kernel) (by decide +kernel) (l := 0) (u := 1600) (by decide +kernel) h_f
  obtain ⟨hl_k, hu_k⟩ := WT_int hσ0 (g := 35) (by decide +kernel) (by decide +kernel) (l := 0) (u := 3) (by decide +kernel) h_k
  have hF0 : Fr [(35, 8), (35, 9), (35, 10), (35, 11), (35, 12), (35, 13)] σ0 σ0 := Fr_rfl
  refine En_Ps 2 (pc' := 2) (lv' := [(0, .ref 159), (1, .retAddr 1)]) (st' := [.retAddr 1, .ref 159]) rfl ?_
  refine En_callV rfl rfl rfl rfl rfl rfl rfl rfl (by decide +kernel : TG 159 = 35) (by decide +kernel) rfl (c_318s0 σ0 hσ0 f h_f) (by decide) (by decide) (fun v2 σ3 h1 => ?_)
  obtain ⟨h4, h5, z7, h8, z9, rfl, h6⟩ := h1
  have h10 := h6.2.2.2.2.2.2.2
  have h11 := Fr_trans hF0 h5 (by decide +kernel)
  refine En_iNe _ rfl rfl (fun h12 => ?_) (fun h12 => ?_)
  · exact En_ret (v := none) rfl rfl rfl ⟨h4, h11, z7, h8, k, ((h5 _ _ (inW (by decide +kernel : TG 159 = 35) (by decide +kernel))).trans h_k), rfl, (by omega)⟩
  · refine En_Ps 2 (pc' := 10) (lv' := [(0, .ref 159), (1, .retAddr 1)]) (st' := [.int ((Int32.ofInt 1)), .ref 159]) rfl ?_
    have := (by decide : ((Int32.ofInt 1)).toInt = 1)
    refine En_callV rfl rfl rfl rfl rfl rfl rfl rfl (by decide +kernel : TG 159 = 35) (by decide +kernel) rfl (c_223 σ3 h4 ((Int32.ofInt 1)) (geI (by decide : (Int32.ofInt 1).toInt = 1) (by omega)) (leI (by decide : (Int32.ofInt 1).toInt = 1) (by omega)) k ((h5 _ _ (inW (by decide +kernel : TG 159 = 35) (by decide +kernel))).trans h_k)) (by decide) (by decide) (fun v14 σ15 h13 => ?_)
    obtain ⟨h16, h17, z19, h20, rfl, h18⟩ := h13
    have h21 := Fr_trans h11 h17 (by decide +kernel)
    exact En_ret (v := none) rfl rfl rfl ⟨h16, h21, z7, ((h17 _ _ (inW (by decide +kernel : TG 159 = 35) (by decide +kernel))).trans h8), z19, h20, rfl, (by omega)⟩
/-- DoorSchoolModel.needs(Ljava/lang/String;)V -/
abbrev P_286s1 (σ0 : SG) (f : Int32) (k : Int32) : PO := fun v σ => WT σ ∧ Fr [(35, 8), (35, 9), (35, 10), (35, 11), (35, 12), (35, 13)] σ0 σ ∧ ∃ f1 : Int32, (σ 159)[8]? = some (.int f1) ∧ ∃ k1 : Int32, (σ 159)[12]? = some (.int k1) ∧ v = none ∧ -f1.toInt ≤ 0 ∧ f1.toInt - 1600 ≤ 0 ∧ -f1.toInt + f.toInt ≤ 0 ∧ f1.toInt - f.toInt - 1600 ≤ 0 ∧ -f1.toInt + k.toInt - 3 ≤ 0 ∧ f1.toInt - k.toInt - 1600 ≤ 0 ∧ -k1.toInt ≤ 0 ∧ k1.toInt - 3 ≤ 0 ∧ -k1.toInt + f.toInt - 1600 ≤ 0 ∧ k1.toInt - f.toInt - 3 ≤ 0 ∧ -k1.toInt + k.toInt ≤ 0 ∧ k1.toInt - k.toInt - 3 ≤ 0 ∧ f.toInt - f1.toInt ≤ 0 ∧ (k1.toInt ≤ 0 → k.toInt ≤ 0)
set_option maxRecDepth 10000 in
set_option maxHeartbeats 4000000 in
theorem c_286s1 (σ0 : SG) (hσ0 : WT σ0) (f : Int32) (h_f : (σ0 159)[8]? = some (.int f)) (k : Int32) (h_k : (σ0 159)[12]? = some (.int k)) : En 6 135 none mr_286 (P_286s1 σ0 f k) 0 [(0, .ref 159), (1, .retAddr 3)] [] σ0 := by
  obtain ⟨hl_f, hu_f⟩ := WT_int hσ0 (g := 35) (by decide +kernel) (by decide +kernel) (l := 0) (u := 1600) (by decide +kernel) h_f
  obtain ⟨hl_k, hu_k⟩ := WT_int hσ0 (g := 35) (by decide +kernel) (by decide +kernel) (l := 0) (u := 3) (by decide +kernel) h_k
  have hF0 : Fr [(35, 8), (35, 9), (35, 10), (35, 11), (35, 12), (35, 13)] σ0 σ0 := Fr_rfl
  refine En_Ps 2 (pc' := 2) (lv' := [(0, .ref 159), (1, .retAddr 3)]) (st' := [.retAddr 3, .ref 159]) rfl ?_
  refine En_callV rfl rfl rfl rfl rfl rfl rfl rfl (by decide +kernel : TG 159 = 35) (by decide +kernel) rfl (c_318s1 σ0 hσ0 f h_f) (by decide) (by decide) (fun v2 σ3 h1 => ?_)
  obtain ⟨h4, h5, z7, h8, z9, rfl, h6⟩ := h1
  have h10 := h6.2.2.2.2.2.2.2
  have h11 := Fr_trans hF0 h5 (by decide +kernel)
  refine En_iNe _ rfl rfl (fun h12 => ?_) (fun h12 => ?_)
  · exact En_ret (v := none) rfl rfl rfl ⟨h4, h11, z7, h8, k, ((h5 _ _ (inW (by decide +kernel : TG 159 = 35) (by decide +kernel))).trans h_k), rfl, (by omega)⟩
  · refine En_Ps 2 (pc' := 10) (lv' := [(0, .ref 159), (1, .retAddr 3)]) (st' := [.int ((Int32.ofInt 1)), .ref 159]) rfl ?_
    have := (by decide : ((Int32.ofInt 1)).toInt = 1)
    refine En_callV rfl rfl rfl rfl rfl rfl rfl rfl (by decide +kernel : TG 159 = 35) (by decide +kernel) rfl (c_223 σ3 h4 ((Int32.ofInt 1)) (geI (by decide : (Int32.ofInt 1).toInt = 1) (by omega)) (leI (by decide : (Int32.ofInt 1).toInt = 1) (by omega)) k ((h5 _ _ (inW (by decide +kernel : TG 159 = 35) (by decide +kernel))).trans h_k)) (by decide) (by decide) (fun v14 σ15 h13 => ?_)
    obtain ⟨h16, h17, z19, h20, rfl, h18⟩ := h13
    have h21 := Fr_trans h11 h17 (by decide +kernel)
    exact En_ret (v := none) rfl rfl rfl ⟨h16, h21, z7, ((h17 _ _ (inW (by decide +kernel : TG 159 = 35) (by decide +kernel))).trans h8), z19, h20, rfl, (by omega)⟩
/-- DoorSchoolModel.needs(Ljava/lang/String;)V -/
abbrev P_286s2 (σ0 : SG) (f : Int32) (k : Int32) : PO := fun v σ => WT σ ∧ Fr [(35, 8), (35, 9), (35, 10), (35, 11), (35, 12), (35, 13)] σ0 σ ∧ ∃ f1 : Int32, (σ 159)[8]? = some (.int f1) ∧ ∃ k1 : Int32, (σ 159)[12]? = some (.int k1) ∧ v = none ∧ -f1.toInt ≤ 0 ∧ f1.toInt - 1600 ≤ 0 ∧ -f1.toInt + f.toInt ≤ 0 ∧ f1.toInt - f.toInt - 1600 ≤ 0 ∧ -f1.toInt + k.toInt - 3 ≤ 0 ∧ f1.toInt - k.toInt - 1600 ≤ 0 ∧ -k1.toInt ≤ 0 ∧ k1.toInt - 3 ≤ 0 ∧ -k1.toInt + f.toInt - 1600 ≤ 0 ∧ k1.toInt - f.toInt - 3 ≤ 0 ∧ -k1.toInt + k.toInt ≤ 0 ∧ k1.toInt - k.toInt - 3 ≤ 0 ∧ f.toInt - f1.toInt ≤ 0 ∧ (k1.toInt ≤ 0 → k.toInt ≤ 0)
set_option maxRecDepth 10000 in
set_option maxHeartbeats 4000000 in
theorem c_286s2 (σ0 : SG) (hσ0 : WT σ0) (f : Int32) (h_f : (σ0 159)[8]? = some (.int f)) (k : Int32) (h_k : (σ0 159)[12]? = some (.int k)) : En 6 135 none mr_286 (P_286s2 σ0 f k) 0 [(0, .ref 159), (1, .retAddr 5)] [] σ0 := by
  obtain ⟨hl_f, hu_f⟩ := WT_int hσ0 (g := 35) (by decide +kernel) (by decide +kernel) (l := 0) (u := 1600) (by decide +kernel) h_f
  obtain ⟨hl_k, hu_k⟩ := WT_int hσ0 (g := 35) (by decide +kernel) (by decide +kernel) (l := 0) (u := 3) (by decide +kernel) h_k
  have hF0 : Fr [(35, 8), (35, 9), (35, 10), (35, 11), (35, 12), (35, 13)] σ0 σ0 := Fr_rfl
  refine En_Ps 2 (pc' := 2) (lv' := [(0, .ref 159), (1, .retAddr 5)]) (st' := [.retAddr 5, .ref 159]) rfl ?_
  refine En_callV rfl rfl rfl rfl rfl rfl rfl rfl (by decide +kernel : TG 159 = 35) (by decide +kernel) rfl (c_318s2 σ0 hσ0 f h_f) (by decide) (by decide) (fun v2 σ3 h1 => ?_)
  obtain ⟨h4, h5, z7, h8, z9, rfl, h6⟩ := h1
  have h10 := h6.2.2.2.2.2.2.2
  have h11 := Fr_trans hF0 h5 (by decide +kernel)
  refine En_iNe _ rfl rfl (fun h12 => ?_) (fun h12 => ?_)
  · exact En_ret (v := none) rfl rfl rfl ⟨h4, h11, z7, h8, k, ((h5 _ _ (inW (by decide +kernel : TG 159 = 35) (by decide +kernel))).trans h_k), rfl, (by omega)⟩
  · refine En_Ps 2 (pc' := 10) (lv' := [(0, .ref 159), (1, .retAddr 5)]) (st' := [.int ((Int32.ofInt 1)), .ref 159]) rfl ?_
    have := (by decide : ((Int32.ofInt 1)).toInt = 1)
    refine En_callV rfl rfl rfl rfl rfl rfl rfl rfl (by decide +kernel : TG 159 = 35) (by decide +kernel) rfl (c_223 σ3 h4 ((Int32.ofInt 1)) (geI (by decide : (Int32.ofInt 1).toInt = 1) (by omega)) (leI (by decide : (Int32.ofInt 1).toInt = 1) (by omega)) k ((h5 _ _ (inW (by decide +kernel : TG 159 = 35) (by decide +kernel))).trans h_k)) (by decide) (by decide) (fun v14 σ15 h13 => ?_)
    obtain ⟨h16, h17, z19, h20, rfl, h18⟩ := h13
    have h21 := Fr_trans h11 h17 (by decide +kernel)
    exact En_ret (v := none) rfl rfl rfl ⟨h16, h21, z7, ((h17 _ _ (inW (by decide +kernel : TG 159 = 35) (by decide +kernel))).trans h8), z19, h20, rfl, (by omega)⟩
/-- DoorSchoolModel.needs(Ljava/lang/String;)V -/
abbrev P_286s3 (σ0 : SG) (f : Int32) (k : Int32) : PO := fun v σ => WT σ ∧ Fr [(35, 8), (35, 9), (35, 10), (35, 11), (35, 12), (35, 13)] σ0 σ ∧ ∃ f1 : Int32, (σ 159)[8]? = some (.int f1) ∧ ∃ k1 : Int32, (σ 159)[12]? = some (.int k1) ∧ v = none ∧ -f1.toInt ≤ 0 ∧ f1.toInt - 1600 ≤ 0 ∧ -f1.toInt + f.toInt ≤ 0 ∧ f1.toInt - f.toInt - 1600 ≤ 0 ∧ -f1.toInt + k.toInt - 3 ≤ 0 ∧ f1.toInt - k.toInt - 1600 ≤ 0 ∧ -k1.toInt ≤ 0 ∧ k1.toInt - 3 ≤ 0 ∧ -k1.toInt + f.toInt - 1600 ≤ 0 ∧ k1.toInt - f.toInt - 3 ≤ 0 ∧ -k1.toInt + k.toInt ≤ 0 ∧ k1.toInt - k.toInt - 3 ≤ 0 ∧ f.toInt - f1.toInt ≤ 0 ∧ (k1.toInt ≤ 0 → k.toInt ≤ 0)
set_option maxRecDepth 10000 in
set_option maxHeartbeats 4000000 in
theorem c_286s3 (σ0 : SG) (hσ0 : WT σ0) (f : Int32) (h_f : (σ0 159)[8]? = some (.int f)) (k : Int32) (h_k : (σ0 159)[12]? = some (.int k)) : En 6 135 none mr_286 (P_286s3 σ0 f k) 0 [(0, .ref 159), (1, .retAddr 7)] [] σ0 := by
  obtain ⟨hl_f, hu_f⟩ := WT_int hσ0 (g := 35) (by decide +kernel) (by decide +kernel) (l := 0) (u := 1600) (by decide +kernel) h_f
  obtain ⟨hl_k, hu_k⟩ := WT_int hσ0 (g := 35) (by decide +kernel) (by decide +kernel) (l := 0) (u := 3) (by decide +kernel) h_k
  have hF0 : Fr [(35, 8), (35, 9), (35, 10), (35, 11), (35, 12), (35, 13)] σ0 σ0 := Fr_rfl
  refine En_Ps 2 (pc' := 2) (lv' := [(0, .ref 159), (1, .retAddr 7)]) (st' := [.retAddr 7, .ref 159]) rfl ?_
  refine En_callV rfl rfl rfl rfl rfl rfl rfl rfl (by decide +kernel : TG 159 = 35) (by decide +kernel) rfl (c_318s3 σ0 hσ0 f h_f) (by decide) (by decide) (fun v2 σ3 h1 => ?_)
  obtain ⟨h4, h5, z7, h8, z9, rfl, h6⟩ := h1
  have h10 := h6.2.2.2.2.2.2.2
  have h11 := Fr_trans hF0 h5 (by decide +kernel)
  refine En_iNe _ rfl rfl (fun h12 => ?_) (fun h12 => ?_)
  · exact En_ret (v := none) rfl rfl rfl ⟨h4, h11, z7, h8, k, ((h5 _ _ (inW (by decide +kernel : TG 159 = 35) (by decide +kernel))).trans h_k), rfl, (by omega)⟩
  · refine En_Ps 2 (pc' := 10) (lv' := [(0, .ref 159), (1, .retAddr 7)]) (st' := [.int ((Int32.ofInt 1)), .ref 159]) rfl ?_
    have := (by decide : ((Int32.ofInt 1)).toInt = 1)
    refine En_callV rfl rfl rfl rfl rfl rfl rfl rfl (by decide +kernel : TG 159 = 35) (by decide +kernel) rfl (c_223 σ3 h4 ((Int32.ofInt 1)) (geI (by decide : (Int32.ofInt 1).toInt = 1) (by omega)) (leI (by decide : (Int32.ofInt 1).toInt = 1) (by omega)) k ((h5 _ _ (inW (by decide +kernel : TG 159 = 35) (by decide +kernel))).trans h_k)) (by decide) (by decide) (fun v14 σ15 h13 => ?_)
    obtain ⟨h16, h17, z19, h20, rfl, h18⟩ := h13
    have h21 := Fr_trans h11 h17 (by decide +kernel)
    exact En_ret (v := none) rfl rfl rfl ⟨h16, h21, z7, ((h17 _ _ (inW (by decide +kernel : TG 159 = 35) (by decide +kernel))).trans h8), z19, h20, rfl, (by omega)⟩
/-- DoorSchoolModel.needs(Ljava/lang/String;)V -/
abbrev P_286s4 (σ0 : SG) (f : Int32) (k : Int32) : PO := fun v σ => WT σ ∧ Fr [(35, 8), (35, 9), (35, 10), (35, 11), (35, 12), (35, 13)] σ0 σ ∧ ∃ f1 : Int32, (σ 159)[8]? = some (.int f1) ∧ ∃ k1 : Int32, (σ 159)[12]? = some (.int k1) ∧ v = none ∧ -f1.toInt ≤ 0 ∧ f1.toInt - 1600 ≤ 0 ∧ -f1.toInt + f.toInt ≤ 0 ∧ f1.toInt - f.toInt - 1600 ≤ 0 ∧ -f1.toInt + k.toInt - 3 ≤ 0 ∧ f1.toInt - k.toInt - 1600 ≤ 0 ∧ -k1.toInt ≤ 0 ∧ k1.toInt - 3 ≤ 0 ∧ -k1.toInt + f.toInt - 1600 ≤ 0 ∧ k1.toInt - f.toInt - 3 ≤ 0 ∧ -k1.toInt + k.toInt ≤ 0 ∧ k1.toInt - k.toInt - 3 ≤ 0 ∧ f.toInt - f1.toInt ≤ 0 ∧ (k1.toInt ≤ 0 → k.toInt ≤ 0)
set_option maxRecDepth 10000 in
set_option maxHeartbeats 4000000 in
theorem c_286s4 (σ0 : SG) (hσ0 : WT σ0) (f : Int32) (h_f : (σ0 159)[8]? = some (.int f)) (k : Int32) (h_k : (σ0 159)[12]? = some (.int k)) : En 6 135 none mr_286 (P_286s4 σ0 f k) 0 [(0, .ref 159), (1, .retAddr 9)] [] σ0 := by
  obtain ⟨hl_f, hu_f⟩ := WT_int hσ0 (g := 35) (by decide +kernel) (by decide +kernel) (l := 0) (u := 1600) (by decide +kernel) h_f
  obtain ⟨hl_k, hu_k⟩ := WT_int hσ0 (g := 35) (by decide +kernel) (by decide +kernel) (l := 0) (u := 3) (by decide +kernel) h_k
  have hF0 : Fr [(35, 8), (35, 9), (35, 10), (35, 11), (35, 12), (35, 13)] σ0 σ0 := Fr_rfl
  refine En_Ps 2 (pc' := 2) (lv' := [(0, .ref 159), (1, .retAddr 9)]) (st' := [.retAddr 9, .ref 159]) rfl ?_
  refine En_callV rfl rfl rfl rfl rfl rfl rfl rfl (by decide +kernel : TG 159 = 35) (by decide +kernel) rfl (c_318s4 σ0 hσ0 f h_f) (by decide) (by decide) (fun v2 σ3 h1 => ?_)
  obtain ⟨h4, h5, z7, h8, z9, rfl, h6⟩ := h1
  have h10 := h6.2.2.2.2.2.2.2
  have h11 := Fr_trans hF0 h5 (by decide +kernel)
  refine En_iNe _ rfl rfl (fun h12 => ?_) (fun h12 => ?_)
  · exact En_ret (v := none) rfl rfl rfl ⟨h4, h11, z7, h8, k, ((h5 _ _ (inW (by decide +kernel : TG 159 = 35) (by decide +kernel))).trans h_k), rfl, (by omega)⟩
  · refine En_Ps 2 (pc' := 10) (lv' := [(0, .ref 159), (1, .retAddr 9)]) (st' := [.int ((Int32.ofInt 1)), .ref 159]) rfl ?_
    have := (by decide : ((Int32.ofInt 1)).toInt = 1)
    refine En_callV rfl rfl rfl rfl rfl rfl rfl rfl (by decide +kernel : TG 159 = 35) (by decide +kernel) rfl (c_223 σ3 h4 ((Int32.ofInt 1)) (geI (by decide : (Int32.ofInt 1).toInt = 1) (by omega)) (leI (by decide : (Int32.ofInt 1).toInt = 1) (by omega)) k ((h5 _ _ (inW (by decide +kernel : TG 159 = 35) (by decide +kernel))).trans h_k)) (by decide) (by decide) (fun v14 σ15 h13 => ?_)
    obtain ⟨h16, h17, z19, h20, rfl, h18⟩ := h13
    have h21 := Fr_trans h11 h17 (by decide +kernel)
    exact En_ret (v := none) rfl rfl rfl ⟨h16, h21, z7, ((h17 _ _ (inW (by decide +kernel : TG 159 = 35) (by decide +kernel))).trans h8), z19, h20, rfl, (by omega)⟩
/-- DoorSchoolModel.needs(Ljava/lang/String;)V -/
abbrev P_286s5 (σ0 : SG) (f : Int32) (k : Int32) : PO := fun v σ => WT σ ∧ Fr [(35, 8), (35, 9), (35, 10), (35, 11), (35, 12), (35, 13)] σ0 σ ∧ ∃ f1 : Int32, (σ 159)[8]? = some (.int f1) ∧ ∃ k1 : Int32, (σ 159)[12]? = some (.int k1) ∧ v = none ∧ -f1.toInt ≤ 0 ∧ f1.toInt - 1600 ≤ 0 ∧ -f1.toInt + f.toInt ≤ 0 ∧ f1.toInt - f.toInt - 1600 ≤ 0 ∧ -f1.toInt + k.toInt - 3 ≤ 0 ∧ f1.toInt - k.toInt - 1600 ≤ 0 ∧ -k1.toInt ≤ 0 ∧ k1.toInt - 3 ≤ 0 ∧ -k1.toInt + f.toInt - 1600 ≤ 0 ∧ k1.toInt - f.toInt - 3 ≤ 0 ∧ -k1.toInt + k.toInt ≤ 0 ∧ k1.toInt - k.toInt - 3 ≤ 0 ∧ f.toInt - f1.toInt ≤ 0 ∧ (k1.toInt ≤ 0 → k.toInt ≤ 0)
set_option maxRecDepth 10000 in
set_option maxHeartbeats 4000000 in
theorem c_286s5 (σ0 : SG) (hσ0 : WT σ0) (f : Int32) (h_f : (σ0 159)[8]? = some (.int f)) (k : Int32) (h_k : (σ0 159)[12]? = some (.int k)) : En 6 135 none mr_286 (P_286s5 σ0 f k) 0 [(0, .ref 159), (1, .retAddr 11)] [] σ0 := by
  obtain ⟨hl_f, hu_f⟩ := WT_int hσ0 (g := 35) (by decide +kernel) (by decide +kernel) (l := 0) (u := 1600) (by decide +kernel) h_f
  obtain ⟨hl_k, hu_k⟩ := WT_int hσ0 (g := 35) (by decide +kernel) (by decide +kernel) (l := 0) (u := 3) (by decide +kernel) h_k
  have hF0 : Fr [(35, 8), (35, 9), (35, 10), (35, 11), (35, 12), (35, 13)] σ0 σ0 := Fr_rfl
  refine En_Ps 2 (pc' := 2) (lv' := [(0, .ref 159), (1, .retAddr 11)]) (st' := [.retAddr 11, .ref 159]) rfl ?_
  refine En_callV rfl rfl rfl rfl rfl rfl rfl rfl (by decide +kernel : TG 159 = 35) (by decide +kernel) rfl (c_318s5 σ0 hσ0 f h_f) (by decide) (by decide) (fun v2 σ3 h1 => ?_)
  obtain ⟨h4, h5, z7, h8, z9, rfl, h6⟩ := h1
  have h10 := h6.2.2.2.2.2.2.2
  have h11 := Fr_trans hF0 h5 (by decide +kernel)
  refine En_iNe _ rfl rfl (fun h12 => ?_) (fun h12 => ?_)
  · exact En_ret (v := none) rfl rfl rfl ⟨h4, h11, z7, h8, k, ((h5 _ _ (inW (by decide +kernel : TG 159 = 35) (by decide +kernel))).trans h_k), rfl, (by omega)⟩
  · refine En_Ps 2 (pc' := 10) (lv' := [(0, .ref 159), (1, .retAddr 11)]) (st' := [.int ((Int32.ofInt 1)), .ref 159]) rfl ?_
    have := (by decide : ((Int32.ofInt 1)).toInt = 1)
    refine En_callV rfl rfl rfl rfl rfl rfl rfl rfl (by decide +kernel : TG 159 = 35) (by decide +kernel) rfl (c_223 σ3 h4 ((Int32.ofInt 1)) (geI (by decide : (Int32.ofInt 1).toInt = 1) (by omega)) (leI (by decide : (Int32.ofInt 1).toInt = 1) (by omega)) k ((h5 _ _ (inW (by decide +kernel : TG 159 = 35) (by decide +kernel))).trans h_k)) (by decide) (by decide) (fun v14 σ15 h13 => ?_)
    obtain ⟨h16, h17, z19, h20, rfl, h18⟩ := h13
    have h21 := Fr_trans h11 h17 (by decide +kernel)
    exact En_ret (v := none) rfl rfl rfl ⟨h16, h21, z7, ((h17 _ _ (inW (by decide +kernel : TG 159 = 35) (by decide +kernel))).trans h8), z19, h20, rfl, (by omega)⟩
/-- DoorSchoolModel.needs(Ljava/lang/String;)V -/
abbrev P_286s6 (σ0 : SG) (f : Int32) (k : Int32) : PO := fun v σ => WT σ ∧ Fr [(35, 8), (35, 9), (35, 10), (35, 11), (35, 12), (35, 13)] σ0 σ ∧ ∃ f1 : Int32, (σ 159)[8]? = some (.int f1) ∧ ∃ k1 : Int32, (σ 159)[12]? = some (.int k1) ∧ v = none ∧ -f1.toInt ≤ 0 ∧ f1.toInt - 1600 ≤ 0 ∧ -f1.toInt + f.toInt ≤ 0 ∧ f1.toInt - f.toInt - 1600 ≤ 0 ∧ -f1.toInt + k.toInt - 3 ≤ 0 ∧ f1.toInt - k.toInt - 1600 ≤ 0 ∧ -k1.toInt ≤ 0 ∧ k1.toInt - 3 ≤ 0 ∧ -k1.toInt + f.toInt - 1600 ≤ 0 ∧ k1.toInt - f.toInt - 3 ≤ 0 ∧ -k1.toInt + k.toInt ≤ 0 ∧ k1.toInt - k.toInt - 3 ≤ 0 ∧ f.toInt - f1.toInt ≤ 0 ∧ (k1.toInt ≤ 0 → k.toInt ≤ 0)
set_option maxRecDepth 10000 in
set_option maxHeartbeats 4000000 in
theorem c_286s6 (σ0 : SG) (hσ0 : WT σ0) (f : Int32) (h_f : (σ0 159)[8]? = some (.int f)) (k : Int32) (h_k : (σ0 159)[12]? = some (.int k)) : En 6 135 none mr_286 (P_286s6 σ0 f k) 0 [(0, .ref 159), (1, .retAddr 13)] [] σ0 := by
  obtain ⟨hl_f, hu_f⟩ := WT_int hσ0 (g := 35) (by decide +kernel) (by decide +kernel) (l := 0) (u := 1600) (by decide +kernel) h_f
  obtain ⟨hl_k, hu_k⟩ := WT_int hσ0 (g := 35) (by decide +kernel) (by decide +kernel) (l := 0) (u := 3) (by decide +kernel) h_k
  have hF0 : Fr [(35, 8), (35, 9), (35, 10), (35, 11), (35, 12), (35, 13)] σ0 σ0 := Fr_rfl
  refine En_Ps 2 (pc' := 2) (lv' := [(0, .ref 159), (1, .retAddr 13)]) (st' := [.retAddr 13, .ref 159]) rfl ?_
  refine En_callV rfl rfl rfl rfl rfl rfl rfl rfl (by decide +kernel : TG 159 = 35) (by decide +kernel) rfl (c_318s6 σ0 hσ0 f h_f) (by decide) (by decide) (fun v2 σ3 h1 => ?_)
  obtain ⟨h4, h5, z7, h8, z9, rfl, h6⟩ := h1
  have h10 := h6.2.2.2.2.2.2.2
  have h11 := Fr_trans hF0 h5 (by decide +kernel)
  refine En_iNe _ rfl rfl (fun h12 => ?_) (fun h12 => ?_)
  · exact En_ret (v := none) rfl rfl rfl ⟨h4, h11, z7, h8, k, ((h5 _ _ (inW (by decide +kernel : TG 159 = 35) (by decide +kernel))).trans h_k), rfl, (by omega)⟩
  · refine En_Ps 2 (pc' := 10) (lv' := [(0, .ref 159), (1, .retAddr 13)]) (st' := [.int ((Int32.ofInt 1)), .ref 159]) rfl ?_
    have := (by decide : ((Int32.ofInt 1)).toInt = 1)
    refine En_callV rfl rfl rfl rfl rfl rfl rfl rfl (by decide +kernel : TG 159 = 35) (by decide +kernel) rfl (c_223 σ3 h4 ((Int32.ofInt 1)) (geI (by decide : (Int32.ofInt 1).toInt = 1) (by omega)) (leI (by decide : (Int32.ofInt 1).toInt = 1) (by omega)) k ((h5 _ _ (inW (by decide +kernel : TG 159 = 35) (by decide +kernel))).trans h_k)) (by decide) (by decide) (fun v14 σ15 h13 => ?_)
    obtain ⟨h16, h17, z19, h20, rfl, h18⟩ := h13
    have h21 := Fr_trans h11 h17 (by decide +kernel)
    exact En_ret (v := none) rfl rfl rfl ⟨h16, h21, z7, ((h17 _ _ (inW (by decide +kernel : TG 159 = 35) (by decide +kernel))).trans h8), z19, h20, rfl, (by omega)⟩
/-- DoorSchoolModel.needs(Ljava/lang/String;)V -/
abbrev P_286s7 (σ0 : SG) (f : Int32) (k : Int32) : PO := fun v σ => WT σ ∧ Fr [(35, 8), (35, 9), (35, 10), (35, 11), (35, 12), (35, 13)] σ0 σ ∧ ∃ f1 : Int32, (σ 159)[8]? = some (.int f1) ∧ ∃ k1 : Int32, (σ 159)[12]? = some (.int k1) ∧ v = none ∧ -f1.toInt ≤ 0 ∧ f1.toInt - 1600 ≤ 0 ∧ -f1.toInt + f.toInt ≤ 0 ∧ f1.toInt - f.toInt - 1600 ≤ 0 ∧ -f1.toInt + k.toInt - 3 ≤ 0 ∧ f1.toInt - k.toInt - 1600 ≤ 0 ∧ -k1.toInt ≤ 0 ∧ k1.toInt - 3 ≤ 0 ∧ -k1.toInt + f.toInt - 1600 ≤ 0 ∧ k1.toInt - f.toInt - 3 ≤ 0 ∧ -k1.toInt + k.toInt ≤ 0 ∧ k1.toInt - k.toInt - 3 ≤ 0 ∧ f.toInt - f1.toInt ≤ 0 ∧ (k1.toInt ≤ 0 → k.toInt ≤ 0)
set_option maxRecDepth 10000 in
set_option maxHeartbeats 4000000 in
theorem c_286s7 (σ0 : SG) (hσ0 : WT σ0) (f : Int32) (h_f : (σ0 159)[8]? = some (.int f)) (k : Int32) (h_k : (σ0 159)[12]? = some (.int k)) : En 6 135 none mr_286 (P_286s7 σ0 f k) 0 [(0, .ref 159), (1, .retAddr 15)] [] σ0 := by
  obtain ⟨hl_f, hu_f⟩ := WT_int hσ0 (g := 35) (by decide +kernel) (by decide +kernel) (l := 0) (u := 1600) (by decide +kernel) h_f
  obtain ⟨hl_k, hu_k⟩ := WT_int hσ0 (g := 35) (by decide +kernel) (by decide +kernel) (l := 0) (u := 3) (by decide +kernel) h_k
  have hF0 : Fr [(35, 8), (35, 9), (35, 10), (35, 11), (35, 12), (35, 13)] σ0 σ0 := Fr_rfl
  refine En_Ps 2 (pc' := 2) (lv' := [(0, .ref 159), (1, .retAddr 15)]) (st' := [.retAddr 15, .ref 159]) rfl ?_
  refine En_callV rfl rfl rfl rfl rfl rfl rfl rfl (by decide +kernel : TG 159 = 35) (by decide +kernel) rfl (c_318s7 σ0 hσ0 f h_f) (by decide) (by decide) (fun v2 σ3 h1 => ?_)
  obtain ⟨h4, h5, z7, h8, z9, rfl, h6⟩ := h1
  have h10 := h6.2.2.2.2.2.2.2
  have h11 := Fr_trans hF0 h5 (by decide +kernel)
  refine En_iNe _ rfl rfl (fun h12 => ?_) (fun h12 => ?_)
  · exact En_ret (v := none) rfl rfl rfl ⟨h4, h11, z7, h8, k, ((h5 _ _ (inW (by decide +kernel : TG 159 = 35) (by decide +kernel))).trans h_k), rfl, (by omega)⟩
  · refine En_Ps 2 (pc' := 10) (lv' := [(0, .ref 159), (1, .retAddr 15)]) (st' := [.int ((Int32.ofInt 1)), .ref 159]) rfl ?_
    have := (by decide : ((Int32.ofInt 1)).toInt = 1)
    refine En_callV rfl rfl rfl rfl rfl rfl rfl rfl (by decide +kernel : TG 159 = 35) (by decide +kernel) rfl (c_223 σ3 h4 ((Int32.ofInt 1)) (geI (by decide : (Int32.ofInt 1).toInt = 1) (by omega)) (leI (by decide : (Int32.ofInt 1).toInt = 1) (by omega)) k ((h5 _ _ (inW (by decide +kernel : TG 159 = 35) (by decide +kernel))).trans h_k)) (by decide) (by decide) (fun v14 σ15 h13 => ?_)
    obtain ⟨h16, h17, z19, h20, rfl, h18⟩ := h13
    have h21 := Fr_trans h11 h17 (by decide +kernel)
    exact En_ret (v := none) rfl rfl rfl ⟨h16, h21, z7, ((h17 _ _ (inW (by decide +kernel : TG 159 = 35) (by decide +kernel))).trans h8), z19, h20, rfl, (by omega)⟩
/-- DoorSchoolModel.needs(Ljava/lang/String;)V -/
abbrev P_286s8 (σ0 : SG) (f : Int32) (k : Int32) : PO := fun v σ => WT σ ∧ Fr [(35, 8), (35, 9), (35, 10), (35, 11), (35, 12), (35, 13)] σ0 σ ∧ ∃ f1 : Int32, (σ 159)[8]? = some (.int f1) ∧ ∃ k1 : Int32, (σ 159)[12]? = some (.int k1) ∧ v = none ∧ -f1.toInt ≤ 0 ∧ f1.toInt - 1600 ≤ 0 ∧ -f1.toInt + f.toInt ≤ 0 ∧ f1.toInt - f.toInt - 1600 ≤ 0 ∧ -f1.toInt + k.toInt - 3 ≤ 0 ∧ f1.toInt - k.toInt - 1600 ≤ 0 ∧ -k1.toInt ≤ 0 ∧ k1.toInt - 3 ≤ 0 ∧ -k1.toInt + f.toInt - 1600 ≤ 0 ∧ k1.toInt - f.toInt - 3 ≤ 0 ∧ -k1.toInt + k.toInt ≤ 0 ∧ k1.toInt - k.toInt - 3 ≤ 0 ∧ f.toInt - f1.toInt ≤ 0 ∧ (k1.toInt ≤ 0 → k.toInt ≤ 0)
set_option maxRecDepth 10000 in
set_option maxHeartbeats 4000000 in
theorem c_286s8 (σ0 : SG) (hσ0 : WT σ0) (f : Int32) (h_f : (σ0 159)[8]? = some (.int f)) (k : Int32) (h_k : (σ0 159)[12]? = some (.int k)) : En 6 135 none mr_286 (P_286s8 σ0 f k) 0 [(0, .ref 159), (1, .retAddr 17)] [] σ0 := by
  obtain ⟨hl_f, hu_f⟩ := WT_int hσ0 (g := 35) (by decide +kernel) (by decide +kernel) (l := 0) (u := 1600) (by decide +kernel) h_f
  obtain ⟨hl_k, hu_k⟩ := WT_int hσ0 (g := 35) (by decide +kernel) (by decide +kernel) (l := 0) (u := 3) (by decide +kernel) h_k
  have hF0 : Fr [(35, 8), (35, 9), (35, 10), (35, 11), (35, 12), (35, 13)] σ0 σ0 := Fr_rfl
  refine En_Ps 2 (pc' := 2) (lv' := [(0, .ref 159), (1, .retAddr 17)]) (st' := [.retAddr 17, .ref 159]) rfl ?_
  refine En_callV rfl rfl rfl rfl rfl rfl rfl rfl (by decide +kernel : TG 159 = 35) (by decide +kernel) rfl (c_318s8 σ0 hσ0 f h_f) (by decide) (by decide) (fun v2 σ3 h1 => ?_)
  obtain ⟨h4, h5, z7, h8, z9, rfl, h6⟩ := h1
  have h10 := h6.2.2.2.2.2.2.2
  have h11 := Fr_trans hF0 h5 (by decide +kernel)
  refine En_iNe _ rfl rfl (fun h12 => ?_) (fun h12 => ?_)
  · exact En_ret (v := none) rfl rfl rfl ⟨h4, h11, z7, h8, k, ((h5 _ _ (inW (by decide +kernel : TG 159 = 35) (by decide +kernel))).trans h_k), rfl, (by omega)⟩
  · refine En_Ps 2 (pc' := 10) (lv' := [(0, .ref 159), (1, .retAddr 17)]) (st' := [.int ((Int32.ofInt 1)), .ref 159]) rfl ?_
    have := (by decide : ((Int32.ofInt 1)).toInt = 1)
    refine En_callV rfl rfl rfl rfl rfl rfl rfl rfl (by decide +kernel : TG 159 = 35) (by decide +kernel) rfl (c_223 σ3 h4 ((Int32.ofInt 1)) (geI (by decide : (Int32.ofInt 1).toInt = 1) (by omega)) (leI (by decide : (Int32.ofInt 1).toInt = 1) (by omega)) k ((h5 _ _ (inW (by decide +kernel : TG 159 = 35) (by decide +kernel))).trans h_k)) (by decide) (by decide) (fun v14 σ15 h13 => ?_)
    obtain ⟨h16, h17, z19, h20, rfl, h18⟩ := h13
    have h21 := Fr_trans h11 h17 (by decide +kernel)
    exact En_ret (v := none) rfl rfl rfl ⟨h16, h21, z7, ((h17 _ _ (inW (by decide +kernel : TG 159 = 35) (by decide +kernel))).trans h8), z19, h20, rfl, (by omega)⟩
/-- DoorSchoolModel.needs(Ljava/lang/String;)V -/
abbrev P_286s9 (σ0 : SG) (f : Int32) (k : Int32) : PO := fun v σ => WT σ ∧ Fr [(35, 8), (35, 9), (35, 10), (35, 11), (35, 12), (35, 13)] σ0 σ ∧ ∃ f1 : Int32, (σ 159)[8]? = some (.int f1) ∧ ∃ k1 : Int32, (σ 159)[12]? = some (.int k1) ∧ v = none ∧ -f1.toInt ≤ 0 ∧ f1.toInt - 1600 ≤ 0 ∧ -f1.toInt + f.toInt ≤ 0 ∧ f1.toInt - f.toInt - 1600 ≤ 0 ∧ -f1.toInt + k.toInt - 3 ≤ 0 ∧ f1.toInt - k.toInt - 1600 ≤ 0 ∧ -k1.toInt ≤ 0 ∧ k1.toInt - 3 ≤ 0 ∧ -k1.toInt + f.toInt - 1600 ≤ 0 ∧ k1.toInt - f.toInt - 3 ≤ 0 ∧ -k1.toInt + k.toInt ≤ 0 ∧ k1.toInt - k.toInt - 3 ≤ 0 ∧ f.toInt - f1.toInt ≤ 0 ∧ (k1.toInt ≤ 0 → k.toInt ≤ 0)
set_option maxRecDepth 10000 in
set_option maxHeartbeats 4000000 in
theorem c_286s9 (σ0 : SG) (hσ0 : WT σ0) (f : Int32) (h_f : (σ0 159)[8]? = some (.int f)) (k : Int32) (h_k : (σ0 159)[12]? = some (.int k)) : En 6 135 none mr_286 (P_286s9 σ0 f k) 0 [(0, .ref 159), (1, .retAddr 19)] [] σ0 := by
  obtain ⟨hl_f, hu_f⟩ := WT_int hσ0 (g := 35) (by decide +kernel) (by decide +kernel) (l := 0) (u := 1600) (by decide +kernel) h_f
  obtain ⟨hl_k, hu_k⟩ := WT_int hσ0 (g := 35) (by decide +kernel) (by decide +kernel) (l := 0) (u := 3) (by decide +kernel) h_k
  have hF0 : Fr [(35, 8), (35, 9), (35, 10), (35, 11), (35, 12), (35, 13)] σ0 σ0 := Fr_rfl
  refine En_Ps 2 (pc' := 2) (lv' := [(0, .ref 159), (1, .retAddr 19)]) (st' := [.retAddr 19, .ref 159]) rfl ?_
  refine En_callV rfl rfl rfl rfl rfl rfl rfl rfl (by decide +kernel : TG 159 = 35) (by decide +kernel) rfl (c_318s9 σ0 hσ0 f h_f) (by decide) (by decide) (fun v2 σ3 h1 => ?_)
  obtain ⟨h4, h5, z7, h8, z9, rfl, h6⟩ := h1
  have h10 := h6.2.2.2.2.2.2.2
  have h11 := Fr_trans hF0 h5 (by decide +kernel)
  refine En_iNe _ rfl rfl (fun h12 => ?_) (fun h12 => ?_)
  · exact En_ret (v := none) rfl rfl rfl ⟨h4, h11, z7, h8, k, ((h5 _ _ (inW (by decide +kernel : TG 159 = 35) (by decide +kernel))).trans h_k), rfl, (by omega)⟩
  · refine En_Ps 2 (pc' := 10) (lv' := [(0, .ref 159), (1, .retAddr 19)]) (st' := [.int ((Int32.ofInt 1)), .ref 159]) rfl ?_
    have := (by decide : ((Int32.ofInt 1)).toInt = 1)
    refine En_callV rfl rfl rfl rfl rfl rfl rfl rfl (by decide +kernel : TG 159 = 35) (by decide +kernel) rfl (c_223 σ3 h4 ((Int32.ofInt 1)) (geI (by decide : (Int32.ofInt 1).toInt = 1) (by omega)) (leI (by decide : (Int32.ofInt 1).toInt = 1) (by omega)) k ((h5 _ _ (inW (by decide +kernel : TG 159 = 35) (by decide +kernel))).trans h_k)) (by decide) (by decide) (fun v14 σ15 h13 => ?_)
    obtain ⟨h16, h17, z19, h20, rfl, h18⟩ := h13
    have h21 := Fr_trans h11 h17 (by decide +kernel)
    exact En_ret (v := none) rfl rfl rfl ⟨h16, h21, z7, ((h17 _ _ (inW (by decide +kernel : TG 159 = 35) (by decide +kernel))).trans h8), z19, h20, rfl, (by omega)⟩
/-- DoorSchoolModel.needs(Ljava/lang/String;)V -/
abbrev P_286s10 (σ0 : SG) (f : Int32) (k : Int32) : PO := fun v σ => WT σ ∧ Fr [(35, 8), (35, 9), (35, 10), (35, 11), (35, 12), (35, 13)] σ0 σ ∧ ∃ f1 : Int32, (σ 159)[8]? = some (.int f1) ∧ ∃ k1 : Int32, (σ 159)[12]? = some (.int k1) ∧ v = none ∧ -f1.toInt ≤ 0 ∧ f1.toInt - 1600 ≤ 0 ∧ -f1.toInt + f.toInt ≤ 0 ∧ f1.toInt - f.toInt - 1600 ≤ 0 ∧ -f1.toInt + k.toInt - 3 ≤ 0 ∧ f1.toInt - k.toInt - 1600 ≤ 0 ∧ -k1.toInt ≤ 0 ∧ k1.toInt - 3 ≤ 0 ∧ -k1.toInt + f.toInt - 1600 ≤ 0 ∧ k1.toInt - f.toInt - 3 ≤ 0 ∧ -k1.toInt + k.toInt ≤ 0 ∧ k1.toInt - k.toInt - 3 ≤ 0 ∧ f.toInt - f1.toInt ≤ 0 ∧ (k1.toInt ≤ 0 → k.toInt ≤ 0)
set_option maxRecDepth 10000 in
set_option maxHeartbeats 4000000 in
theorem c_286s10 (σ0 : SG) (hσ0 : WT σ0) (f : Int32) (h_f : (σ0 159)[8]? = some (.int f)) (k : Int32) (h_k : (σ0 159)[12]? = some (.int k)) : En 6 135 none mr_286 (P_286s10 σ0 f k) 0 [(0, .ref 159), (1, .retAddr 21)] [] σ0 := by
  obtain ⟨hl_f, hu_f⟩ := WT_int hσ0 (g := 35) (by decide +kernel) (by decide +kernel) (l := 0) (u := 1600) (by decide +kernel) h_f
  obtain ⟨hl_k, hu_k⟩ := WT_int hσ0 (g := 35) (by decide +kernel) (by decide +kernel) (l := 0) (u := 3) (by decide +kernel) h_k
  have hF0 : Fr [(35, 8), (35, 9), (35, 10), (35, 11), (35, 12), (35, 13)] σ0 σ0 := Fr_rfl
  refine En_Ps 2 (pc' := 2) (lv' := [(0, .ref 159), (1, .retAddr 21)]) (st' := [.retAddr 21, .ref 159]) rfl ?_
  refine En_callV rfl rfl rfl rfl rfl rfl rfl rfl (by decide +kernel : TG 159 = 35) (by decide +kernel) rfl (c_318s10 σ0 hσ0 f h_f) (by decide) (by decide) (fun v2 σ3 h1 => ?_)
  obtain ⟨h4, h5, z7, h8, z9, rfl, h6⟩ := h1
  have h10 := h6.2.2.2.2.2.2.2
  have h11 := Fr_trans hF0 h5 (by decide +kernel)
  refine En_iNe _ rfl rfl (fun h12 => ?_) (fun h12 => ?_)
  · exact En_ret (v := none) rfl rfl rfl ⟨h4, h11, z7, h8, k, ((h5 _ _ (inW (by decide +kernel : TG 159 = 35) (by decide +kernel))).trans h_k), rfl, (by omega)⟩
  · refine En_Ps 2 (pc' := 10) (lv' := [(0, .ref 159), (1, .retAddr 21)]) (st' := [.int ((Int32.ofInt 1)), .ref 159]) rfl ?_
    have := (by decide : ((Int32.ofInt 1)).toInt = 1)
    refine En_callV rfl rfl rfl rfl rfl rfl rfl rfl (by decide +kernel : TG 159 = 35) (by decide +kernel) rfl (c_223 σ3 h4 ((Int32.ofInt 1)) (geI (by decide : (Int32.ofInt 1).toInt = 1) (by omega)) (leI (by decide : (Int32.ofInt 1).toInt = 1) (by omega)) k ((h5 _ _ (inW (by decide +kernel : TG 159 = 35) (by decide +kernel))).trans h_k)) (by decide) (by decide) (fun v14 σ15 h13 => ?_)
    obtain ⟨h16, h17, z19, h20, rfl, h18⟩ := h13
    have h21 := Fr_trans h11 h17 (by decide +kernel)
    exact En_ret (v := none) rfl rfl rfl ⟨h16, h21, z7, ((h17 _ _ (inW (by decide +kernel : TG 159 = 35) (by decide +kernel))).trans h8), z19, h20, rfl, (by omega)⟩
/-- DoorSchoolModel.needs(Ljava/lang/String;)V -/
abbrev P_286s11 (σ0 : SG) (f : Int32) (k : Int32) : PO := fun v σ => WT σ ∧ Fr [(35, 8), (35, 9), (35, 10), (35, 11), (35, 12), (35, 13)] σ0 σ ∧ ∃ f1 : Int32, (σ 159)[8]? = some (.int f1) ∧ ∃ k1 : Int32, (σ 159)[12]? = some (.int k1) ∧ v = none ∧ -f1.toInt ≤ 0 ∧ f1.toInt - 1600 ≤ 0 ∧ -f1.toInt + f.toInt ≤ 0 ∧ f1.toInt - f.toInt - 1600 ≤ 0 ∧ -f1.toInt + k.toInt - 3 ≤ 0 ∧ f1.toInt - k.toInt - 1600 ≤ 0 ∧ -k1.toInt ≤ 0 ∧ k1.toInt - 3 ≤ 0 ∧ -k1.toInt + f.toInt - 1600 ≤ 0 ∧ k1.toInt - f.toInt - 3 ≤ 0 ∧ -k1.toInt + k.toInt ≤ 0 ∧ k1.toInt - k.toInt - 3 ≤ 0 ∧ f.toInt - f1.toInt ≤ 0 ∧ (k1.toInt ≤ 0 → k.toInt ≤ 0)
set_option maxRecDepth 10000 in
set_option maxHeartbeats 4000000 in
theorem c_286s11 (σ0 : SG) (hσ0 : WT σ0) (f : Int32) (h_f : (σ0 159)[8]? = some (.int f)) (k : Int32) (h_k : (σ0 159)[12]? = some (.int k)) : En 6 135 none mr_286 (P_286s11 σ0 f k) 0 [(0, .ref 159), (1, .retAddr 23)] [] σ0 := by
  obtain ⟨hl_f, hu_f⟩ := WT_int hσ0 (g := 35) (by decide +kernel) (by decide +kernel) (l := 0) (u := 1600) (by decide +kernel) h_f
  obtain ⟨hl_k, hu_k⟩ := WT_int hσ0 (g := 35) (by decide +kernel) (by decide +kernel) (l := 0) (u := 3) (by decide +kernel) h_k
  have hF0 : Fr [(35, 8), (35, 9), (35, 10), (35, 11), (35, 12), (35, 13)] σ0 σ0 := Fr_rfl
  refine En_Ps 2 (pc' := 2) (lv' := [(0, .ref 159), (1, .retAddr 23)]) (st' := [.retAddr 23, .ref 159]) rfl ?_
  refine En_callV rfl rfl rfl rfl rfl rfl rfl rfl (by decide +kernel : TG 159 = 35) (by decide +kernel) rfl (c_318s11 σ0 hσ0 f h_f) (by decide) (by decide) (fun v2 σ3 h1 => ?_)
  obtain ⟨h4, h5, z7, h8, z9, rfl, h6⟩ := h1
  have h10 := h6.2.2.2.2.2.2.2
  have h11 := Fr_trans hF0 h5 (by decide +kernel)
  refine En_iNe _ rfl rfl (fun h12 => ?_) (fun h12 => ?_)
  · exact En_ret (v := none) rfl rfl rfl ⟨h4, h11, z7, h8, k, ((h5 _ _ (inW (by decide +kernel : TG 159 = 35) (by decide +kernel))).trans h_k), rfl, (by omega)⟩
  · refine En_Ps 2 (pc' := 10) (lv' := [(0, .ref 159), (1, .retAddr 23)]) (st' := [.int ((Int32.ofInt 1)), .ref 159]) rfl ?_
    have := (by decide : ((Int32.ofInt 1)).toInt = 1)
    refine En_callV rfl rfl rfl rfl rfl rfl rfl rfl (by decide +kernel : TG 159 = 35) (by decide +kernel) rfl (c_223 σ3 h4 ((Int32.ofInt 1)) (geI (by decide : (Int32.ofInt 1).toInt = 1) (by omega)) (leI (by decide : (Int32.ofInt 1).toInt = 1) (by omega)) k ((h5 _ _ (inW (by decide +kernel : TG 159 = 35) (by decide +kernel))).trans h_k)) (by decide) (by decide) (fun v14 σ15 h13 => ?_)
    obtain ⟨h16, h17, z19, h20, rfl, h18⟩ := h13
    have h21 := Fr_trans h11 h17 (by decide +kernel)
    exact En_ret (v := none) rfl rfl rfl ⟨h16, h21, z7, ((h17 _ _ (inW (by decide +kernel : TG 159 = 35) (by decide +kernel))).trans h8), z19, h20, rfl, (by omega)⟩
/-- DoorSchoolModel.needs(Ljava/lang/String;)V -/
abbrev P_286s12 (σ0 : SG) (f : Int32) (k : Int32) : PO := fun v σ => WT σ ∧ Fr [(35, 8), (35, 9), (35, 10), (35, 11), (35, 12), (35, 13)] σ0 σ ∧ ∃ f1 : Int32, (σ 159)[8]? = some (.int f1) ∧ ∃ k1 : Int32, (σ 159)[12]? = some (.int k1) ∧ v = none ∧ -f1.toInt ≤ 0 ∧ f1.toInt - 1600 ≤ 0 ∧ -f1.toInt + f.toInt ≤ 0 ∧ f1.toInt - f.toInt - 1600 ≤ 0 ∧ -f1.toInt + k.toInt - 3 ≤ 0 ∧ f1.toInt - k.toInt - 1600 ≤ 0 ∧ -k1.toInt ≤ 0 ∧ k1.toInt - 3 ≤ 0 ∧ -k1.toInt + f.toInt - 1600 ≤ 0 ∧ k1.toInt - f.toInt - 3 ≤ 0 ∧ -k1.toInt + k.toInt ≤ 0 ∧ k1.toInt - k.toInt - 3 ≤ 0 ∧ f.toInt - f1.toInt ≤ 0 ∧ (k1.toInt ≤ 0 → k.toInt ≤ 0)
set_option maxRecDepth 10000 in
set_option maxHeartbeats 4000000 in
theorem c_286s12 (σ0 : SG) (hσ0 : WT σ0) (f : Int32) (h_f : (σ0 159)[8]? = some (.int f)) (k : Int32) (h_k : (σ0 159)[12]? = some (.int k)) : En 6 135 none mr_286 (P_286s12 σ0 f k) 0 [(0, .ref 159), (1, .retAddr 25)] [] σ0 := by
  obtain ⟨hl_f, hu_f⟩ := WT_int hσ0 (g := 35) (by decide +kernel) (by decide +kernel) (l := 0) (u := 1600) (by decide +kernel) h_f
  obtain ⟨hl_k, hu_k⟩ := WT_int hσ0 (g := 35) (by decide +kernel) (by decide +kernel) (l := 0) (u := 3) (by decide +kernel) h_k
  have hF0 : Fr [(35, 8), (35, 9), (35, 10), (35, 11), (35, 12), (35, 13)] σ0 σ0 := Fr_rfl
  refine En_Ps 2 (pc' := 2) (lv' := [(0, .ref 159), (1, .retAddr 25)]) (st' := [.retAddr 25, .ref 159]) rfl ?_
  refine En_callV rfl rfl rfl rfl rfl rfl rfl rfl (by decide +kernel : TG 159 = 35) (by decide +kernel) rfl (c_318s12 σ0 hσ0 f h_f) (by decide) (by decide) (fun v2 σ3 h1 => ?_)
  obtain ⟨h4, h5, z7, h8, z9, rfl, h6⟩ := h1
  have h10 := h6.2.2.2.2.2.2.2
  have h11 := Fr_trans hF0 h5 (by decide +kernel)
  refine En_iNe _ rfl rfl (fun h12 => ?_) (fun h12 => ?_)
  · exact En_ret (v := none) rfl rfl rfl ⟨h4, h11, z7, h8, k, ((h5 _ _ (inW (by decide +kernel : TG 159 = 35) (by decide +kernel))).trans h_k), rfl, (by omega)⟩
  · refine En_Ps 2 (pc' := 10) (lv' := [(0, .ref 159), (1, .retAddr 25)]) (st' := [.int ((Int32.ofInt 1)), .ref 159]) rfl ?_
    have := (by decide : ((Int32.ofInt 1)).toInt = 1)
    refine En_callV rfl rfl rfl rfl rfl rfl rfl rfl (by decide +kernel : TG 159 = 35) (by decide +kernel) rfl (c_223 σ3 h4 ((Int32.ofInt 1)) (geI (by decide : (Int32.ofInt 1).toInt = 1) (by omega)) (leI (by decide : (Int32.ofInt 1).toInt = 1) (by omega)) k ((h5 _ _ (inW (by decide +kernel : TG 159 = 35) (by decide +kernel))).trans h_k)) (by decide) (by decide) (fun v14 σ15 h13 => ?_)
    obtain ⟨h16, h17, z19, h20, rfl, h18⟩ := h13
    have h21 := Fr_trans h11 h17 (by decide +kernel)
    exact En_ret (v := none) rfl rfl rfl ⟨h16, h21, z7, ((h17 _ _ (inW (by decide +kernel : TG 159 = 35) (by decide +kernel))).trans h8), z19, h20, rfl, (by omega)⟩
/-- DoorSchoolModel.needs(Ljava/lang/String;)V -/
abbrev P_286s13 (σ0 : SG) (f : Int32) (k : Int32) : PO := fun v σ => WT σ ∧ Fr [(35, 8), (35, 9), (35, 10), (35, 11), (35, 12), (35, 13)] σ0 σ ∧ ∃ f1 : Int32, (σ 159)[8]? = some (.int f1) ∧ ∃ k1 : Int32, (σ 159)[12]? = some (.int k1) ∧ v = none ∧ -f1.toInt ≤ 0 ∧ f1.toInt - 1600 ≤ 0 ∧ -f1.toInt + f.toInt ≤ 0 ∧ f1.toInt - f.toInt - 1600 ≤ 0 ∧ -f1.toInt + k.toInt - 3 ≤ 0 ∧ f1.toInt - k.toInt - 1600 ≤ 0 ∧ -k1.toInt ≤ 0 ∧ k1.toInt - 3 ≤ 0 ∧ -k1.toInt + f.toInt - 1600 ≤ 0 ∧ k1.toInt - f.toInt - 3 ≤ 0 ∧ -k1.toInt + k.toInt ≤ 0 ∧ k1.toInt - k.toInt - 3 ≤ 0 ∧ f.toInt - f1.toInt ≤ 0 ∧ (k1.toInt ≤ 0 → k.toInt ≤ 0)
set_option maxRecDepth 10000 in
set_option maxHeartbeats 4000000 in
theorem c_286s13 (σ0 : SG) (hσ0 : WT σ0) (f : Int32) (h_f : (σ0 159)[8]? = some (.int f)) (k : Int32) (h_k : (σ0 159)[12]? = some (.int k)) : En 6 135 none mr_286 (P_286s13 σ0 f k) 0 [(0, .ref 159), (1, .retAddr 27)] [] σ0 := by
  obtain ⟨hl_f, hu_f⟩ := WT_int hσ0 (g := 35) (by decide +kernel) (by decide +kernel) (l := 0) (u := 1600) (by decide +kernel) h_f
  obtain ⟨hl_k, hu_k⟩ := WT_int hσ0 (g := 35) (by decide +kernel) (by decide +kernel) (l := 0) (u := 3) (by decide +kernel) h_k
  have hF0 : Fr [(35, 8), (35, 9), (35, 10), (35, 11), (35, 12), (35, 13)] σ0 σ0 := Fr_rfl
  refine En_Ps 2 (pc' := 2) (lv' := [(0, .ref 159), (1, .retAddr 27)]) (st' := [.retAddr 27, .ref 159]) rfl ?_
  refine En_callV rfl rfl rfl rfl rfl rfl rfl rfl (by decide +kernel : TG 159 = 35) (by decide +kernel) rfl (c_318s13 σ0 hσ0 f h_f) (by decide) (by decide) (fun v2 σ3 h1 => ?_)
  obtain ⟨h4, h5, z7, h8, z9, rfl, h6⟩ := h1
  have h10 := h6.2.2.2.2.2.2.2
  have h11 := Fr_trans hF0 h5 (by decide +kernel)
  refine En_iNe _ rfl rfl (fun h12 => ?_) (fun h12 => ?_)
  · exact En_ret (v := none) rfl rfl rfl ⟨h4, h11, z7, h8, k, ((h5 _ _ (inW (by decide +kernel : TG 159 = 35) (by decide +kernel))).trans h_k), rfl, (by omega)⟩
  · refine En_Ps 2 (pc' := 10) (lv' := [(0, .ref 159), (1, .retAddr 27)]) (st' := [.int ((Int32.ofInt 1)), .ref 159]) rfl ?_
    have := (by decide : ((Int32.ofInt 1)).toInt = 1)
    refine En_callV rfl rfl rfl rfl rfl rfl rfl rfl (by decide +kernel : TG 159 = 35) (by decide +kernel) rfl (c_223 σ3 h4 ((Int32.ofInt 1)) (geI (by decide : (Int32.ofInt 1).toInt = 1) (by omega)) (leI (by decide : (Int32.ofInt 1).toInt = 1) (by omega)) k ((h5 _ _ (inW (by decide +kernel : TG 159 = 35) (by decide +kernel))).trans h_k)) (by decide) (by decide) (fun v14 σ15 h13 => ?_)
    obtain ⟨h16, h17, z19, h20, rfl, h18⟩ := h13
    have h21 := Fr_trans h11 h17 (by decide +kernel)
    exact En_ret (v := none) rfl rfl rfl ⟨h16, h21, z7, ((h17 _ _ (inW (by decide +kernel : TG 159 = 35) (by decide +kernel))).trans h8), z19, h20, rfl, (by omega)⟩
/-- DoorSchoolModel.needs(Ljava/lang/String;)V -/
abbrev P_286s14 (σ0 : SG) (f : Int32) (k : Int32) : PO := fun v σ => WT σ ∧ Fr [(35, 8), (35, 9), (35, 10), (35, 11), (35, 12), (35, 13)] σ0 σ ∧ ∃ f1 : Int32, (σ 159)[8]? = some (.int f1) ∧ ∃ k1 : Int32, (σ 159)[12]? = some (.int k1) ∧ v = none ∧ -f1.toInt ≤ 0 ∧ f1.toInt - 1600 ≤ 0 ∧ -f1.toInt + f.toInt ≤ 0 ∧ f1.toInt - f.toInt - 1600 ≤ 0 ∧ -f1.toInt + k.toInt - 3 ≤ 0 ∧ f1.toInt - k.toInt - 1600 ≤ 0 ∧ -k1.toInt ≤ 0 ∧ k1.toInt - 3 ≤ 0 ∧ -k1.toInt + f.toInt - 1600 ≤ 0 ∧ k1.toInt - f.toInt - 3 ≤ 0 ∧ -k1.toInt + k.toInt ≤ 0 ∧ k1.toInt - k.toInt - 3 ≤ 0 ∧ f.toInt - f1.toInt ≤ 0 ∧ (k1.toInt ≤ 0 → k.toInt ≤ 0)
set_option maxRecDepth 10000 in
set_option maxHeartbeats 4000000 in
theorem c_286s14 (σ0 : SG) (hσ0 : WT σ0) (f : Int32) (h_f : (σ0 159)[8]? = some (.int f)) (k : Int32) (h_k : (σ0 159)[12]? = some (.int k)) : En 6 135 none mr_286 (P_286s14 σ0 f k) 0 [(0, .ref 159), (1, .retAddr 29)] [] σ0 := by
  obtain ⟨hl_f, hu_f⟩ := WT_int hσ0 (g := 35) (by decide +kernel) (by decide +kernel) (l := 0) (u := 1600) (by decide +kernel) h_f
  obtain ⟨hl_k, hu_k⟩ := WT_int hσ0 (g := 35) (by decide +kernel) (by decide +kernel) (l := 0) (u := 3) (by decide +kernel) h_k
  have hF0 : Fr [(35, 8), (35, 9), (35, 10), (35, 11), (35, 12), (35, 13)] σ0 σ0 := Fr_rfl
  refine En_Ps 2 (pc' := 2) (lv' := [(0, .ref 159), (1, .retAddr 29)]) (st' := [.retAddr 29, .ref 159]) rfl ?_
  refine En_callV rfl rfl rfl rfl rfl rfl rfl rfl (by decide +kernel : TG 159 = 35) (by decide +kernel) rfl (c_318s14 σ0 hσ0 f h_f) (by decide) (by decide) (fun v2 σ3 h1 => ?_)
  obtain ⟨h4, h5, z7, h8, z9, rfl, h6⟩ := h1
  have h10 := h6.2.2.2.2.2.2.2
  have h11 := Fr_trans hF0 h5 (by decide +kernel)
  refine En_iNe _ rfl rfl (fun h12 => ?_) (fun h12 => ?_)
  · exact En_ret (v := none) rfl rfl rfl ⟨h4, h11, z7, h8, k, ((h5 _ _ (inW (by decide +kernel : TG 159 = 35) (by decide +kernel))).trans h_k), rfl, (by omega)⟩
  · refine En_Ps 2 (pc' := 10) (lv' := [(0, .ref 159), (1, .retAddr 29)]) (st' := [.int ((Int32.ofInt 1)), .ref 159]) rfl ?_
    have := (by decide : ((Int32.ofInt 1)).toInt = 1)
    refine En_callV rfl rfl rfl rfl rfl rfl rfl rfl (by decide +kernel : TG 159 = 35) (by decide +kernel) rfl (c_223 σ3 h4 ((Int32.ofInt 1)) (geI (by decide : (Int32.ofInt 1).toInt = 1) (by omega)) (leI (by decide : (Int32.ofInt 1).toInt = 1) (by omega)) k ((h5 _ _ (inW (by decide +kernel : TG 159 = 35) (by decide +kernel))).trans h_k)) (by decide) (by decide) (fun v14 σ15 h13 => ?_)
    obtain ⟨h16, h17, z19, h20, rfl, h18⟩ := h13
    have h21 := Fr_trans h11 h17 (by decide +kernel)
    exact En_ret (v := none) rfl rfl rfl ⟨h16, h21, z7, ((h17 _ _ (inW (by decide +kernel : TG 159 = 35) (by decide +kernel))).trans h8), z19, h20, rfl, (by omega)⟩
/-- DoorSchoolModel.needs(Ljava/lang/String;)V -/
abbrev P_286s15 (σ0 : SG) (f : Int32) (k : Int32) : PO := fun v σ => WT σ ∧ Fr [(35, 8), (35, 9), (35, 10), (35, 11), (35, 12), (35, 13)] σ0 σ ∧ ∃ f1 : Int32, (σ 159)[8]? = some (.int f1) ∧ ∃ k1 : Int32, (σ 159)[12]? = some (.int k1) ∧ v = none ∧ -f1.toInt ≤ 0 ∧ f1.toInt - 1600 ≤ 0 ∧ -f1.toInt + f.toInt ≤ 0 ∧ f1.toInt - f.toInt - 1600 ≤ 0 ∧ -f1.toInt + k.toInt - 3 ≤ 0 ∧ f1.toInt - k.toInt - 1600 ≤ 0 ∧ -k1.toInt ≤ 0 ∧ k1.toInt - 3 ≤ 0 ∧ -k1.toInt + f.toInt - 1600 ≤ 0 ∧ k1.toInt - f.toInt - 3 ≤ 0 ∧ -k1.toInt + k.toInt ≤ 0 ∧ k1.toInt - k.toInt - 3 ≤ 0 ∧ f.toInt - f1.toInt ≤ 0 ∧ (k1.toInt ≤ 0 → k.toInt ≤ 0)
set_option maxRecDepth 10000 in
set_option maxHeartbeats 4000000 in
theorem c_286s15 (σ0 : SG) (hσ0 : WT σ0) (f : Int32) (h_f : (σ0 159)[8]? = some (.int f)) (k : Int32) (h_k : (σ0 159)[12]? = some (.int k)) : En 6 135 none mr_286 (P_286s15 σ0 f k) 0 [(0, .ref 159), (1, .retAddr 31)] [] σ0 := by
  obtain ⟨hl_f, hu_f⟩ := WT_int hσ0 (g := 35) (by decide +kernel) (by decide +kernel) (l := 0) (u := 1600) (by decide +kernel) h_f
  obtain ⟨hl_k, hu_k⟩ := WT_int hσ0 (g := 35) (by decide +kernel) (by decide +kernel) (l := 0) (u := 3) (by decide +kernel) h_k
  have hF0 : Fr [(35, 8), (35, 9), (35, 10), (35, 11), (35, 12), (35, 13)] σ0 σ0 := Fr_rfl
  refine En_Ps 2 (pc' := 2) (lv' := [(0, .ref 159), (1, .retAddr 31)]) (st' := [.retAddr 31, .ref 159]) rfl ?_
  refine En_callV rfl rfl rfl rfl rfl rfl rfl rfl (by decide +kernel : TG 159 = 35) (by decide +kernel) rfl (c_318s15 σ0 hσ0 f h_f) (by decide) (by decide) (fun v2 σ3 h1 => ?_)
  obtain ⟨h4, h5, z7, h8, z9, rfl, h6⟩ := h1
  have h10 := h6.2.2.2.2.2.2.2
  have h11 := Fr_trans hF0 h5 (by decide +kernel)
  refine En_iNe _ rfl rfl (fun h12 => ?_) (fun h12 => ?_)
  · exact En_ret (v := none) rfl rfl rfl ⟨h4, h11, z7, h8, k, ((h5 _ _ (inW (by decide +kernel : TG 159 = 35) (by decide +kernel))).trans h_k), rfl, (by omega)⟩
  · refine En_Ps 2 (pc' := 10) (lv' := [(0, .ref 159), (1, .retAddr 31)]) (st' := [.int ((Int32.ofInt 1)), .ref 159]) rfl ?_
    have := (by decide : ((Int32.ofInt 1)).toInt = 1)
    refine En_callV rfl rfl rfl rfl rfl rfl rfl rfl (by decide +kernel : TG 159 = 35) (by decide +kernel) rfl (c_223 σ3 h4 ((Int32.ofInt 1)) (geI (by decide : (Int32.ofInt 1).toInt = 1) (by omega)) (leI (by decide : (Int32.ofInt 1).toInt = 1) (by omega)) k ((h5 _ _ (inW (by decide +kernel : TG 159 = 35) (by decide +kernel))).trans h_k)) (by decide) (by decide) (fun v14 σ15 h13 => ?_)
    obtain ⟨h16, h17, z19, h20, rfl, h18⟩ := h13
    have h21 := Fr_trans h11 h17 (by decide +kernel)
    exact En_ret (v := none) rfl rfl rfl ⟨h16, h21, z7, ((h17 _ _ (inW (by decide +kernel : TG 159 = 35) (by decide +kernel))).trans h8), z19, h20, rfl, (by omega)⟩
/-- DoorSchoolModel.needs(Ljava/lang/String;)V -/
abbrev P_286s16 (σ0 : SG) (f : Int32) (k : Int32) : PO := fun v σ => WT σ ∧ Fr [(35, 8), (35, 9), (35, 10), (35, 11), (35, 12), (35, 13)] σ0 σ ∧ ∃ f1 : Int32, (σ 159)[8]? = some (.int f1) ∧ ∃ k1 : Int32, (σ 159)[12]? = some (.int k1) ∧ v = none ∧ -f1.toInt ≤ 0 ∧ f1.toInt - 1600 ≤ 0 ∧ -f1.toInt + f.toInt ≤ 0 ∧ f1.toInt - f.toInt - 1600 ≤ 0 ∧ -f1.toInt + k.toInt - 3 ≤ 0 ∧ f1.toInt - k.toInt - 1600 ≤ 0 ∧ -k1.toInt ≤ 0 ∧ k1.toInt - 3 ≤ 0 ∧ -k1.toInt + f.toInt - 1600 ≤ 0 ∧ k1.toInt - f.toInt - 3 ≤ 0 ∧ -k1.toInt + k.toInt ≤ 0 ∧ k1.toInt - k.toInt - 3 ≤ 0 ∧ f.toInt - f1.toInt ≤ 0 ∧ (k1.toInt ≤ 0 → k.toInt ≤ 0)
set_option maxRecDepth 10000 in
set_option maxHeartbeats 4000000 in
theorem c_286s16 (σ0 : SG) (hσ0 : WT σ0) (f : Int32) (h_f : (σ0 159)[8]? = some (.int f)) (k : Int32) (h_k : (σ0 159)[12]? = some (.int k)) : En 6 135 none mr_286 (P_286s16 σ0 f k) 0 [(0, .ref 159), (1, .retAddr 33)] [] σ0 := by
  obtain ⟨hl_f, hu_f⟩ := WT_int hσ0 (g := 35) (by decide +kernel) (by decide +kernel) (l := 0) (u := 1600) (by decide +kernel) h_f
  obtain ⟨hl_k, hu_k⟩ := WT_int hσ0 (g := 35) (by decide +kernel) (by decide +kernel) (l := 0) (u := 3) (by decide +kernel) h_k
  have hF0 : Fr [(35, 8), (35, 9), (35, 10), (35, 11), (35, 12), (35, 13)] σ0 σ0 := Fr_rfl
  refine En_Ps 2 (pc' := 2) (lv' := [(0, .ref 159), (1, .retAddr 33)]) (st' := [.retAddr 33, .ref 159]) rfl ?_
  refine En_callV rfl rfl rfl rfl rfl rfl rfl rfl (by decide +kernel : TG 159 = 35) (by decide +kernel) rfl (c_318s16 σ0 hσ0 f h_f) (by decide) (by decide) (fun v2 σ3 h1 => ?_)
  obtain ⟨h4, h5, z7, h8, z9, rfl, h6⟩ := h1
  have h10 := h6.2.2.2.2.2.2.2
  have h11 := Fr_trans hF0 h5 (by decide +kernel)
  refine En_iNe _ rfl rfl (fun h12 => ?_) (fun h12 => ?_)
  · exact En_ret (v := none) rfl rfl rfl ⟨h4, h11, z7, h8, k, ((h5 _ _ (inW (by decide +kernel : TG 159 = 35) (by decide +kernel))).trans h_k), rfl, (by omega)⟩
  · refine En_Ps 2 (pc' := 10) (lv' := [(0, .ref 159), (1, .retAddr 33)]) (st' := [.int ((Int32.ofInt 1)), .ref 159]) rfl ?_
    have := (by decide : ((Int32.ofInt 1)).toInt = 1)
    refine En_callV rfl rfl rfl rfl rfl rfl rfl rfl (by decide +kernel : TG 159 = 35) (by decide +kernel) rfl (c_223 σ3 h4 ((Int32.ofInt 1)) (geI (by decide : (Int32.ofInt 1).toInt = 1) (by omega)) (leI (by decide : (Int32.ofInt 1).toInt = 1) (by omega)) k ((h5 _ _ (inW (by decide +kernel : TG 159 = 35) (by decide +kernel))).trans h_k)) (by decide) (by decide) (fun v14 σ15 h13 => ?_)
    obtain ⟨h16, h17, z19, h20, rfl, h18⟩ := h13
    have h21 := Fr_trans h11 h17 (by decide +kernel)
    exact En_ret (v := none) rfl rfl rfl ⟨h16, h21, z7, ((h17 _ _ (inW (by decide +kernel : TG 159 = 35) (by decide +kernel))).trans h8), z19, h20, rfl, (by omega)⟩
/-- DoorSchoolModel.needs(Ljava/lang/String;)V -/
abbrev P_286s17 (σ0 : SG) (f : Int32) (k : Int32) : PO := fun v σ => WT σ ∧ Fr [(35, 8), (35, 9), (35, 10), (35, 11), (35, 12), (35, 13)] σ0 σ ∧ ∃ f1 : Int32, (σ 159)[8]? = some (.int f1) ∧ ∃ k1 : Int32, (σ 159)[12]? = some (.int k1) ∧ v = none ∧ -f1.toInt ≤ 0 ∧ f1.toInt - 1600 ≤ 0 ∧ -f1.toInt + f.toInt ≤ 0 ∧ f1.toInt - f.toInt - 1600 ≤ 0 ∧ -f1.toInt + k.toInt - 3 ≤ 0 ∧ f1.toInt - k.toInt - 1600 ≤ 0 ∧ -k1.toInt ≤ 0 ∧ k1.toInt - 3 ≤ 0 ∧ -k1.toInt + f.toInt - 1600 ≤ 0 ∧ k1.toInt - f.toInt - 3 ≤ 0 ∧ -k1.toInt + k.toInt ≤ 0 ∧ k1.toInt - k.toInt - 3 ≤ 0 ∧ f.toInt - f1.toInt ≤ 0 ∧ (k1.toInt ≤ 0 → k.toInt ≤ 0)
set_option maxRecDepth 10000 in
set_option maxHeartbeats 4000000 in
theorem c_286s17 (σ0 : SG) (hσ0 : WT σ0) (f : Int32) (h_f : (σ0 159)[8]? = some (.int f)) (k : Int32) (h_k : (σ0 159)[12]? = some (.int k)) : En 6 135 none mr_286 (P_286s17 σ0 f k) 0 [(0, .ref 159), (1, .retAddr 35)] [] σ0 := by
  obtain ⟨hl_f, hu_f⟩ := WT_int hσ0 (g := 35) (by decide +kernel) (by decide +kernel) (l := 0) (u := 1600) (by decide +kernel) h_f
  obtain ⟨hl_k, hu_k⟩ := WT_int hσ0 (g := 35) (by decide +kernel) (by decide +kernel) (l := 0) (u := 3) (by decide +kernel) h_k
  have hF0 : Fr [(35, 8), (35, 9), (35, 10), (35, 11), (35, 12), (35, 13)] σ0 σ0 := Fr_rfl
  refine En_Ps 2 (pc' := 2) (lv' := [(0, .ref 159), (1, .retAddr 35)]) (st' := [.retAddr 35, .ref 159]) rfl ?_
  refine En_callV rfl rfl rfl rfl rfl rfl rfl rfl (by decide +kernel : TG 159 = 35) (by decide +kernel) rfl (c_318s17 σ0 hσ0 f h_f) (by decide) (by decide) (fun v2 σ3 h1 => ?_)
  obtain ⟨h4, h5, z7, h8, z9, rfl, h6⟩ := h1
  have h10 := h6.2.2.2.2.2.2.2
  have h11 := Fr_trans hF0 h5 (by decide +kernel)
  refine En_iNe _ rfl rfl (fun h12 => ?_) (fun h12 => ?_)
  · exact En_ret (v := none) rfl rfl rfl ⟨h4, h11, z7, h8, k, ((h5 _ _ (inW (by decide +kernel : TG 159 = 35) (by decide +kernel))).trans h_k), rfl, (by omega)⟩
  · refine En_Ps 2 (pc' := 10) (lv' := [(0, .ref 159), (1, .retAddr 35)]) (st' := [.int ((Int32.ofInt 1)), .ref 159]) rfl ?_
    have := (by decide : ((Int32.ofInt 1)).toInt = 1)
    refine En_callV rfl rfl rfl rfl rfl rfl rfl rfl (by decide +kernel : TG 159 = 35) (by decide +kernel) rfl (c_223 σ3 h4 ((Int32.ofInt 1)) (geI (by decide : (Int32.ofInt 1).toInt = 1) (by omega)) (leI (by decide : (Int32.ofInt 1).toInt = 1) (by omega)) k ((h5 _ _ (inW (by decide +kernel : TG 159 = 35) (by decide +kernel))).trans h_k)) (by decide) (by decide) (fun v14 σ15 h13 => ?_)
    obtain ⟨h16, h17, z19, h20, rfl, h18⟩ := h13
    have h21 := Fr_trans h11 h17 (by decide +kernel)
    exact En_ret (v := none) rfl rfl rfl ⟨h16, h21, z7, ((h17 _ _ (inW (by decide +kernel : TG 159 = 35) (by decide +kernel))).trans h8), z19, h20, rfl, (by omega)⟩
/-- DoorSchoolModel.deed()I -/
abbrev P_209 (σ0 : SG) (f : Int32) (k : Int32) : PO := fun v σ => WT σ ∧ Fr [(35, 8), (35, 9), (35, 10), (35, 11), (35, 12), (35, 13)] σ0 σ ∧ ∃ f1 : Int32, (σ 159)[8]? = some (.int f1) ∧ ∃ k1 : Int32, (σ 159)[12]? = some (.int k1) ∧ ∃ ret : Int32, v = some (.int ret) ∧ -ret.toInt ≤ 0 ∧ ret.toInt - 1 ≤ 0 ∧ -f1.toInt ≤ 0 ∧ f1.toInt - 1600 ≤ 0 ∧ -f1.toInt + f.toInt ≤ 0 ∧ f1.toInt - f.toInt - 1600 ≤ 0 ∧ -f1.toInt + k.toInt - 3 ≤ 0 ∧ f1.toInt - k.toInt - 1600 ≤ 0 ∧ -k1.toInt ≤ 0 ∧ k1.toInt - 3 ≤ 0 ∧ -k1.toInt + f.toInt - 1600 ≤ 0 ∧ k1.toInt - f.toInt - 3 ≤ 0 ∧ -k1.toInt + k.toInt ≤ 0 ∧ k1.toInt - k.toInt - 3 ≤ 0 ∧ f.toInt - f1.toInt ≤ 0 ∧ (k1.toInt ≤ 0 → k.toInt ≤ 0)
set_option maxRecDepth 10000 in
set_option maxHeartbeats 4000000 in
theorem c_209 (σ0 : SG) (hσ0 : WT σ0) (f : Int32) (h_f : (σ0 159)[8]? = some (.int f)) (k : Int32) (h_k : (σ0 159)[12]? = some (.int k)) : En 7 156 none mr_209 (P_209 σ0 f k) 0 [(0, .ref 159)] [] σ0 := by
  obtain ⟨hl_f, hu_f⟩ := WT_int hσ0 (g := 35) (by decide +kernel) (by decide +kernel) (l := 0) (u := 1600) (by decide +kernel) h_f
  obtain ⟨hl_k, hu_k⟩ := WT_int hσ0 (g := 35) (by decide +kernel) (by decide +kernel) (l := 0) (u := 3) (by decide +kernel) h_k
  have hF0 : Fr [(35, 8), (35, 9), (35, 10), (35, 11), (35, 12), (35, 13)] σ0 σ0 := Fr_rfl
  refine En_Ps 1 (pc' := 1) (lv' := [(0, .ref 159)]) (st' := [.ref 159]) rfl ?_
  refine En_ldcS (i := 8) rfl rfl rfl ?_
  refine En_callV rfl rfl rfl rfl rfl rfl rfl rfl (by decide +kernel : TG 159 = 35) (by decide +kernel) rfl (c_318s8 σ0 hσ0 f h_f) (by decide) (by decide) (fun v2 σ3 h1 => ?_)
  obtain ⟨h4, h5, z7, h8, z9, rfl, h6⟩ := h1
  have h10 := h6.2.2.2.2.2.2.2
  have h11 := Fr_trans hF0 h5 (by decide +kernel)
  refine En_iEq _ rfl rfl (fun h12 => ?_) (fun h12 => ?_)
  · refine En_Ps 1 (pc' := 12) (lv' := [(0, .ref 159)]) (st' := [.ref 159]) rfl ?_
    refine En_ldcS (i := 12) rfl rfl rfl ?_
    refine En_callV rfl rfl rfl rfl rfl rfl rfl rfl (by decide +kernel : TG 159 = 35) (by decide +kernel) rfl (c_286s12 σ3 h4 z7 h8 k ((h5 _ _ (inW (by decide +kernel : TG 159 = 35) (by decide +kernel))).trans h_k)) (by decide) (by decide) (fun v14 σ15 h13 => ?_)
    obtain ⟨h16, h17, z19, h20, z21, h22, rfl, h18⟩ := h13
    have h23 := Fr_trans h11 h17 (by decide +kernel)
    refine En_Ps 1 (pc' := 18) (lv' := [(0, .ref 159)]) (st' := [.int ((Int32.ofInt 0))]) rfl ?_
    refine En_top (by decide : (Int32.ofInt 0).toInt = 0) (fun z24 h25 => ?_)
    exact En_ret (v := some (.int z24)) rfl rfl rfl ⟨h16, h23, z19, h20, z21, h22, z24, rfl, (by omega)⟩
  · refine En_Ps 1 (pc' := 10) (lv' := [(0, .ref 159)]) (st' := [.int ((Int32.ofInt 1))]) rfl ?_
    refine En_top (by decide : (Int32.ofInt 1).toInt = 1) (fun z26 h27 => ?_)
    exact En_ret (v := some (.int z26)) rfl rfl rfl ⟨h4, h11, z7, h8, k, ((h5 _ _ (inW (by decide +kernel : TG 159 = 35) (by decide +kernel))).trans h_k), z26, rfl, (by omega)⟩
