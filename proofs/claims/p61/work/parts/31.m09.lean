/-- DoorSchoolModel.told(Ljava/lang/String;II)I -/
abbrev P_323s3 (σ0 : SG) (b : Int32) (c : Int32) (f : Int32) : PO := fun v σ => WT σ ∧ Fr [(35, 8), (35, 9), (35, 10), (35, 11), (35, 12), (35, 13)] σ0 σ ∧ ∃ f1 : Int32, (σ 159)[8]? = some (.int f1) ∧ ∃ ret : Int32, v = some (.int ret) ∧ -ret.toInt ≤ 0 ∧ ret.toInt - 99999 ≤ 0 ∧ -f1.toInt ≤ 0 ∧ f1.toInt - 1600 ≤ 0 ∧ -f1.toInt + f.toInt ≤ 0 ∧ f1.toInt - f.toInt - 1600 ≤ 0 ∧ f.toInt - f1.toInt ≤ 0 ∧ (b.toInt ≤ 0 → b.toInt - ret.toInt ≤ 0) ∧ (-b.toInt ≤ 0 → -ret.toInt ≤ 0) ∧ (-c.toInt ≤ 0 → ret.toInt - c.toInt ≤ 0) ∧ (c.toInt ≤ 0 → ret.toInt ≤ 0)
set_option maxRecDepth 10000 in
set_option maxHeartbeats 4000000 in
theorem c_323s3 (σ0 : SG) (hσ0 : WT σ0) (b : Int32) (c : Int32) (f : Int32) (h_f : (σ0 159)[8]? = some (.int f)) : En 7 156 none mr_323 (P_323s3 σ0 b c f) 0 [(0, .ref 159), (1, .retAddr 7), (2, .int b), (3, .int c)] [] σ0 := by
  obtain ⟨hl_f, hu_f⟩ := WT_int hσ0 (g := 35) (by decide +kernel) (by decide +kernel) (l := 0) (u := 1600) (by decide +kernel) h_f
  have hF0 : Fr [(35, 8), (35, 9), (35, 10), (35, 11), (35, 12), (35, 13)] σ0 σ0 := Fr_rfl
  refine En_Ps 2 (pc' := 2) (lv' := [(0, .ref 159), (1, .retAddr 7), (2, .int b), (3, .int c)]) (st' := [.retAddr 7, .ref 159]) rfl ?_
  refine En_callV rfl rfl rfl rfl rfl rfl rfl rfl (by decide +kernel : TG 159 = 35) (by decide +kernel) rfl (c_286s3 σ0 hσ0 f h_f) (by decide) (by decide) (fun v2 σ3 h1 => ?_)
  obtain ⟨h4, h5, z7, h8, rfl, h6⟩ := h1
  have h9 := Fr_trans hF0 h5 (by decide +kernel)
  refine En_Ps 3 (pc' := 8) (lv' := [(0, .ref 159), (1, .retAddr 7), (2, .int b), (3, .int c)]) (st' := [.int c, .int b, .ref 159]) rfl ?_
  refine En_callV rfl rfl rfl rfl rfl rfl rfl rfl (by decide +kernel : TG 159 = 35) (by decide +kernel) rfl (c_288 σ3 h4 b c z7 h8) (by decide) (by decide) (fun v11 σ12 h10 => ?_)
  obtain ⟨h13, h14, z16, h17, z18, rfl, h15⟩ := h10
  have h19 := Fr_trans h9 h14 (by decide +kernel)
  exact En_ret (v := some (.int z18)) rfl rfl rfl ⟨h13, h19, z16, h17, z18, rfl, (by omega)⟩
/-- DoorSchoolModel.told(Ljava/lang/String;II)I -/
abbrev P_323s4 (σ0 : SG) (b : Int32) (c : Int32) (f : Int32) : PO := fun v σ => WT σ ∧ Fr [(35, 8), (35, 9), (35, 10), (35, 11), (35, 12), (35, 13)] σ0 σ ∧ ∃ f1 : Int32, (σ 159)[8]? = some (.int f1) ∧ ∃ ret : Int32, v = some (.int ret) ∧ -ret.toInt ≤ 0 ∧ ret.toInt - 99999 ≤ 0 ∧ -f1.toInt ≤ 0 ∧ f1.toInt - 1600 ≤ 0 ∧ -f1.toInt + f.toInt ≤ 0 ∧ f1.toInt - f.toInt - 1600 ≤ 0 ∧ f.toInt - f1.toInt ≤ 0 ∧ (b.toInt ≤ 0 → b.toInt - ret.toInt ≤ 0) ∧ (-b.toInt ≤ 0 → -ret.toInt ≤ 0) ∧ (-c.toInt ≤ 0 → ret.toInt - c.toInt ≤ 0) ∧ (c.toInt ≤ 0 → ret.toInt ≤ 0)
set_option maxRecDepth 10000 in
set_option maxHeartbeats 4000000 in
theorem c_323s4 (σ0 : SG) (hσ0 : WT σ0) (b : Int32) (c : Int32) (f : Int32) (h_f : (σ0 159)[8]? = some (.int f)) : En 7 156 none mr_323 (P_323s4 σ0 b c f) 0 [(0, .ref 159), (1, .retAddr 9), (2, .int b), (3, .int c)] [] σ0 := by
  obtain ⟨hl_f, hu_f⟩ := WT_int hσ0 (g := 35) (by decide +kernel) (by decide +kernel) (l := 0) (u := 1600) (by decide +kernel) h_f
  have hF0 : Fr [(35, 8), (35, 9), (35, 10), (35, 11), (35, 12), (35, 13)] σ0 σ0 := Fr_rfl
  refine En_Ps 2 (pc' := 2) (lv' := [(0, .ref 159), (1, .retAddr 9), (2, .int b), (3, .int c)]) (st' := [.retAddr 9, .ref 159]) rfl ?_
  refine En_callV rfl rfl rfl rfl rfl rfl rfl rfl (by decide +kernel : TG 159 = 35) (by decide +kernel) rfl (c_286s4 σ0 hσ0 f h_f) (by decide) (by decide) (fun v2 σ3 h1 => ?_)
  obtain ⟨h4, h5, z7, h8, rfl, h6⟩ := h1
  have h9 := Fr_trans hF0 h5 (by decide +kernel)
  refine En_Ps 3 (pc' := 8) (lv' := [(0, .ref 159), (1, .retAddr 9), (2, .int b), (3, .int c)]) (st' := [.int c, .int b, .ref 159]) rfl ?_
  refine En_callV rfl rfl rfl rfl rfl rfl rfl rfl (by decide +kernel : TG 159 = 35) (by decide +kernel) rfl (c_288 σ3 h4 b c z7 h8) (by decide) (by decide) (fun v11 σ12 h10 => ?_)
  obtain ⟨h13, h14, z16, h17, z18, rfl, h15⟩ := h10
  have h19 := Fr_trans h9 h14 (by decide +kernel)
  exact En_ret (v := some (.int z18)) rfl rfl rfl ⟨h13, h19, z16, h17, z18, rfl, (by omega)⟩
/-- DoorSchoolModel.told(Ljava/lang/String;II)I -/
abbrev P_323s5 (σ0 : SG) (b : Int32) (c : Int32) (f : Int32) : PO := fun v σ => WT σ ∧ Fr [(35, 8), (35, 9), (35, 10), (35, 11), (35, 12), (35, 13)] σ0 σ ∧ ∃ f1 : Int32, (σ 159)[8]? = some (.int f1) ∧ ∃ ret : Int32, v = some (.int ret) ∧ -ret.toInt ≤ 0 ∧ ret.toInt - 99999 ≤ 0 ∧ -f1.toInt ≤ 0 ∧ f1.toInt - 1600 ≤ 0 ∧ -f1.toInt + f.toInt ≤ 0 ∧ f1.toInt - f.toInt - 1600 ≤ 0 ∧ f.toInt - f1.toInt ≤ 0 ∧ (b.toInt ≤ 0 → b.toInt - ret.toInt ≤ 0) ∧ (-b.toInt ≤ 0 → -ret.toInt ≤ 0) ∧ (-c.toInt ≤ 0 → ret.toInt - c.toInt ≤ 0) ∧ (c.toInt ≤ 0 → ret.toInt ≤ 0)
set_option maxRecDepth 10000 in
set_option maxHeartbeats 4000000 in
theorem c_323s5 (σ0 : SG) (hσ0 : WT σ0) (b : Int32) (c : Int32) (f : Int32) (h_f : (σ0 159)[8]? = some (.int f)) : En 7 156 none mr_323 (P_323s5 σ0 b c f) 0 [(0, .ref 159), (1, .retAddr 11), (2, .int b), (3, .int c)] [] σ0 := by
  obtain ⟨hl_f, hu_f⟩ := WT_int hσ0 (g := 35) (by decide +kernel) (by decide +kernel) (l := 0) (u := 1600) (by decide +kernel) h_f
  have hF0 : Fr [(35, 8), (35, 9), (35, 10), (35, 11), (35, 12), (35, 13)] σ0 σ0 := Fr_rfl
  refine En_Ps 2 (pc' := 2) (lv' := [(0, .ref 159), (1, .retAddr 11), (2, .int b), (3, .int c)]) (st' := [.retAddr 11, .ref 159]) rfl ?_
  refine En_callV rfl rfl rfl rfl rfl rfl rfl rfl (by decide +kernel : TG 159 = 35) (by decide +kernel) rfl (c_286s5 σ0 hσ0 f h_f) (by decide) (by decide) (fun v2 σ3 h1 => ?_)
  obtain ⟨h4, h5, z7, h8, rfl, h6⟩ := h1
  have h9 := Fr_trans hF0 h5 (by decide +kernel)
  refine En_Ps 3 (pc' := 8) (lv' := [(0, .ref 159), (1, .retAddr 11), (2, .int b), (3, .int c)]) (st' := [.int c, .int b, .ref 159]) rfl ?_
  refine En_callV rfl rfl rfl rfl rfl rfl rfl rfl (by decide +kernel : TG 159 = 35) (by decide +kernel) rfl (c_288 σ3 h4 b c z7 h8) (by decide) (by decide) (fun v11 σ12 h10 => ?_)
  obtain ⟨h13, h14, z16, h17, z18, rfl, h15⟩ := h10
  have h19 := Fr_trans h9 h14 (by decide +kernel)
  exact En_ret (v := some (.int z18)) rfl rfl rfl ⟨h13, h19, z16, h17, z18, rfl, (by omega)⟩
/-- DoorSchoolModel.told(Ljava/lang/String;II)I -/
abbrev P_323s6 (σ0 : SG) (b : Int32) (c : Int32) (f : Int32) : PO := fun v σ => WT σ ∧ Fr [(35, 8), (35, 9), (35, 10), (35, 11), (35, 12), (35, 13)] σ0 σ ∧ ∃ f1 : Int32, (σ 159)[8]? = some (.int f1) ∧ ∃ ret : Int32, v = some (.int ret) ∧ -ret.toInt ≤ 0 ∧ ret.toInt - 99999 ≤ 0 ∧ -f1.toInt ≤ 0 ∧ f1.toInt - 1600 ≤ 0 ∧ -f1.toInt + f.toInt ≤ 0 ∧ f1.toInt - f.toInt - 1600 ≤ 0 ∧ f.toInt - f1.toInt ≤ 0 ∧ (b.toInt ≤ 0 → b.toInt - ret.toInt ≤ 0) ∧ (-b.toInt ≤ 0 → -ret.toInt ≤ 0) ∧ (-c.toInt ≤ 0 → ret.toInt - c.toInt ≤ 0) ∧ (c.toInt ≤ 0 → ret.toInt ≤ 0)
set_option maxRecDepth 10000 in
set_option maxHeartbeats 4000000 in
theorem c_323s6 (σ0 : SG) (hσ0 : WT σ0) (b : Int32) (c : Int32) (f : Int32) (h_f : (σ0 159)[8]? = some (.int f)) : En 7 156 none mr_323 (P_323s6 σ0 b c f) 0 [(0, .ref 159), (1, .retAddr 13), (2, .int b), (3, .int c)] [] σ0 := by
  obtain ⟨hl_f, hu_f⟩ := WT_int hσ0 (g := 35) (by decide +kernel) (by decide +kernel) (l := 0) (u := 1600) (by decide +kernel) h_f
  have hF0 : Fr [(35, 8), (35, 9), (35, 10), (35, 11), (35, 12), (35, 13)] σ0 σ0 := Fr_rfl
  refine En_Ps 2 (pc' := 2) (lv' := [(0, .ref 159), (1, .retAddr 13), (2, .int b), (3, .int c)]) (st' := [.retAddr 13, .ref 159]) rfl ?_
  refine En_callV rfl rfl rfl rfl rfl rfl rfl rfl (by decide +kernel : TG 159 = 35) (by decide +kernel) rfl (c_286s6 σ0 hσ0 f h_f) (by decide) (by decide) (fun v2 σ3 h1 => ?_)
  obtain ⟨h4, h5, z7, h8, rfl, h6⟩ := h1
  have h9 := Fr_trans hF0 h5 (by decide +kernel)
  refine En_Ps 3 (pc' := 8) (lv' := [(0, .ref 159), (1, .retAddr 13), (2, .int b), (3, .int c)]) (st' := [.int c, .int b, .ref 159]) rfl ?_
  refine En_callV rfl rfl rfl rfl rfl rfl rfl rfl (by decide +kernel : TG 159 = 35) (by decide +kernel) rfl (c_288 σ3 h4 b c z7 h8) (by decide) (by decide) (fun v11 σ12 h10 => ?_)
  obtain ⟨h13, h14, z16, h17, z18, rfl, h15⟩ := h10
  have h19 := Fr_trans h9 h14 (by decide +kernel)
  exact En_ret (v := some (.int z18)) rfl rfl rfl ⟨h13, h19, z16, h17, z18, rfl, (by omega)⟩
/-- DoorSchoolModel.told(Ljava/lang/String;II)I -/
abbrev P_323s7 (σ0 : SG) (b : Int32) (c : Int32) (f : Int32) : PO := fun v σ => WT σ ∧ Fr [(35, 8), (35, 9), (35, 10), (35, 11), (35, 12), (35, 13)] σ0 σ ∧ ∃ f1 : Int32, (σ 159)[8]? = some (.int f1) ∧ ∃ ret : Int32, v = some (.int ret) ∧ -ret.toInt ≤ 0 ∧ ret.toInt - 99999 ≤ 0 ∧ -f1.toInt ≤ 0 ∧ f1.toInt - 1600 ≤ 0 ∧ -f1.toInt + f.toInt ≤ 0 ∧ f1.toInt - f.toInt - 1600 ≤ 0 ∧ f.toInt - f1.toInt ≤ 0 ∧ (b.toInt ≤ 0 → b.toInt - ret.toInt ≤ 0) ∧ (-b.toInt ≤ 0 → -ret.toInt ≤ 0) ∧ (-c.toInt ≤ 0 → ret.toInt - c.toInt ≤ 0) ∧ (c.toInt ≤ 0 → ret.toInt ≤ 0)
set_option maxRecDepth 10000 in
set_option maxHeartbeats 4000000 in
theorem c_323s7 (σ0 : SG) (hσ0 : WT σ0) (b : Int32) (c : Int32) (f : Int32) (h_f : (σ0 159)[8]? = some (.int f)) : En 7 156 none mr_323 (P_323s7 σ0 b c f) 0 [(0, .ref 159), (1, .retAddr 15), (2, .int b), (3, .int c)] [] σ0 := by
  obtain ⟨hl_f, hu_f⟩ := WT_int hσ0 (g := 35) (by decide +kernel) (by decide +kernel) (l := 0) (u := 1600) (by decide +kernel) h_f
  have hF0 : Fr [(35, 8), (35, 9), (35, 10), (35, 11), (35, 12), (35, 13)] σ0 σ0 := Fr_rfl
  refine En_Ps 2 (pc' := 2) (lv' := [(0, .ref 159), (1, .retAddr 15), (2, .int b), (3, .int c)]) (st' := [.retAddr 15, .ref 159]) rfl ?_
  refine En_callV rfl rfl rfl rfl rfl rfl rfl rfl (by decide +kernel : TG 159 = 35) (by decide +kernel) rfl (c_286s7 σ0 hσ0 f h_f) (by decide) (by decide) (fun v2 σ3 h1 => ?_)
  obtain ⟨h4, h5, z7, h8, rfl, h6⟩ := h1
  have h9 := Fr_trans hF0 h5 (by decide +kernel)
  refine En_Ps 3 (pc' := 8) (lv' := [(0, .ref 159), (1, .retAddr 15), (2, .int b), (3, .int c)]) (st' := [.int c, .int b, .ref 159]) rfl ?_
  refine En_callV rfl rfl rfl rfl rfl rfl rfl rfl (by decide +kernel : TG 159 = 35) (by decide +kernel) rfl (c_288 σ3 h4 b c z7 h8) (by decide) (by decide) (fun v11 σ12 h10 => ?_)
  obtain ⟨h13, h14, z16, h17, z18, rfl, h15⟩ := h10
  have h19 := Fr_trans h9 h14 (by decide +kernel)
  exact En_ret (v := some (.int z18)) rfl rfl rfl ⟨h13, h19, z16, h17, z18, rfl, (by omega)⟩
/-- DoorSchoolModel.told(Ljava/lang/String;II)I -/
abbrev P_323s8 (σ0 : SG) (b : Int32) (c : Int32) (f : Int32) : PO := fun v σ => WT σ ∧ Fr [(35, 8), (35, 9), (35, 10), (35, 11), (35, 12), (35, 13)] σ0 σ ∧ ∃ f1 : Int32, (σ 159)[8]? = some (.int f1) ∧ ∃ ret : Int32, v = some (.int ret) ∧ -ret.toInt ≤ 0 ∧ ret.toInt - 99999 ≤ 0 ∧ -f1.toInt ≤ 0 ∧ f1.toInt - 1600 ≤ 0 ∧ -f1.toInt + f.toInt ≤ 0 ∧ f1.toInt - f.toInt - 1600 ≤ 0 ∧ f.toInt - f1.toInt ≤ 0 ∧ (b.toInt ≤ 0 → b.toInt - ret.toInt ≤ 0) ∧ (-b.toInt ≤ 0 → -ret.toInt ≤ 0) ∧ (-c.toInt ≤ 0 → ret.toInt - c.toInt ≤ 0) ∧ (c.toInt ≤ 0 → ret.toInt ≤ 0)
set_option maxRecDepth 10000 in
set_option maxHeartbeats 4000000 in
theorem c_323s8 (σ0 : SG) (hσ0 : WT σ0) (b : Int32) (c : Int32) (f : Int32) (h_f : (σ0 159)[8]? = some (.int f)) : En 7 156 none mr_323 (P_323s8 σ0 b c f) 0 [(0, .ref 159), (1, .retAddr 17), (2, .int b), (3, .int c)] [] σ0 := by
  obtain ⟨hl_f, hu_f⟩ := WT_int hσ0 (g := 35) (by decide +kernel) (by decide +kernel) (l := 0) (u := 1600) (by decide +kernel) h_f
  have hF0 : Fr [(35, 8), (35, 9), (35, 10), (35, 11), (35, 12), (35, 13)] σ0 σ0 := Fr_rfl
  refine En_Ps 2 (pc' := 2) (lv' := [(0, .ref 159), (1, .retAddr 17), (2, .int b), (3, .int c)]) (st' := [.retAddr 17, .ref 159]) rfl ?_
  refine En_callV rfl rfl rfl rfl rfl rfl rfl rfl (by decide +kernel : TG 159 = 35) (by decide +kernel) rfl (c_286s8 σ0 hσ0 f h_f) (by decide) (by decide) (fun v2 σ3 h1 => ?_)
  obtain ⟨h4, h5, z7, h8, rfl, h6⟩ := h1
  have h9 := Fr_trans hF0 h5 (by decide +kernel)
  refine En_Ps 3 (pc' := 8) (lv' := [(0, .ref 159), (1, .retAddr 17), (2, .int b), (3, .int c)]) (st' := [.int c, .int b, .ref 159]) rfl ?_
  refine En_callV rfl rfl rfl rfl rfl rfl rfl rfl (by decide +kernel : TG 159 = 35) (by decide +kernel) rfl (c_288 σ3 h4 b c z7 h8) (by decide) (by decide) (fun v11 σ12 h10 => ?_)
  obtain ⟨h13, h14, z16, h17, z18, rfl, h15⟩ := h10
  have h19 := Fr_trans h9 h14 (by decide +kernel)
  exact En_ret (v := some (.int z18)) rfl rfl rfl ⟨h13, h19, z16, h17, z18, rfl, (by omega)⟩
/-- DoorSchoolModel.told(Ljava/lang/String;II)I -/
abbrev P_323s9 (σ0 : SG) (b : Int32) (c : Int32) (f : Int32) : PO := fun v σ => WT σ ∧ Fr [(35, 8), (35, 9), (35, 10), (35, 11), (35, 12), (35, 13)] σ0 σ ∧ ∃ f1 : Int32, (σ 159)[8]? = some (.int f1) ∧ ∃ ret : Int32, v = some (.int ret) ∧ -ret.toInt ≤ 0 ∧ ret.toInt - 99999 ≤ 0 ∧ -f1.toInt ≤ 0 ∧ f1.toInt - 1600 ≤ 0 ∧ -f1.toInt + f.toInt ≤ 0 ∧ f1.toInt - f.toInt - 1600 ≤ 0 ∧ f.toInt - f1.toInt ≤ 0 ∧ (b.toInt ≤ 0 → b.toInt - ret.toInt ≤ 0) ∧ (-b.toInt ≤ 0 → -ret.toInt ≤ 0) ∧ (-c.toInt ≤ 0 → ret.toInt - c.toInt ≤ 0) ∧ (c.toInt ≤ 0 → ret.toInt ≤ 0)
set_option maxRecDepth 10000 in
set_option maxHeartbeats 4000000 in
theorem c_323s9 (σ0 : SG) (hσ0 : WT σ0) (b : Int32) (c : Int32) (f : Int32) (h_f : (σ0 159)[8]? = some (.int f)) : En 7 156 none mr_323 (P_323s9 σ0 b c f) 0 [(0, .ref 159), (1, .retAddr 19), (2, .int b), (3, .int c)] [] σ0 := by
  obtain ⟨hl_f, hu_f⟩ := WT_int hσ0 (g := 35) (by decide +kernel) (by decide +kernel) (l := 0) (u := 1600) (by decide +kernel) h_f
  have hF0 : Fr [(35, 8), (35, 9), (35, 10), (35, 11), (35, 12), (35, 13)] σ0 σ0 := Fr_rfl
  refine En_Ps 2 (pc' := 2) (lv' := [(0, .ref 159), (1, .retAddr 19), (2, .int b), (3, .int c)]) (st' := [.retAddr 19, .ref 159]) rfl ?_
  refine En_callV rfl rfl rfl rfl rfl rfl rfl rfl (by decide +kernel : TG 159 = 35) (by decide +kernel) rfl (c_286s9 σ0 hσ0 f h_f) (by decide) (by decide) (fun v2 σ3 h1 => ?_)
  obtain ⟨h4, h5, z7, h8, rfl, h6⟩ := h1
  have h9 := Fr_trans hF0 h5 (by decide +kernel)
  refine En_Ps 3 (pc' := 8) (lv' := [(0, .ref 159), (1, .retAddr 19), (2, .int b), (3, .int c)]) (st' := [.int c, .int b, .ref 159]) rfl ?_
  refine En_callV rfl rfl rfl rfl rfl rfl rfl rfl (by decide +kernel : TG 159 = 35) (by decide +kernel) rfl (c_288 σ3 h4 b c z7 h8) (by decide) (by decide) (fun v11 σ12 h10 => ?_)
  obtain ⟨h13, h14, z16, h17, z18, rfl, h15⟩ := h10
  have h19 := Fr_trans h9 h14 (by decide +kernel)
  exact En_ret (v := some (.int z18)) rfl rfl rfl ⟨h13, h19, z16, h17, z18, rfl, (by omega)⟩
/-- DoorSchoolModel.told(Ljava/lang/String;II)I -/
abbrev P_323s10 (σ0 : SG) (b : Int32) (c : Int32) (f : Int32) : PO := fun v σ => WT σ ∧ Fr [(35, 8), (35, 9), (35, 10), (35, 11), (35, 12), (35, 13)] σ0 σ ∧ ∃ f1 : Int32, (σ 159)[8]? = some (.int f1) ∧ ∃ ret : Int32, v = some (.int ret) ∧ -ret.toInt ≤ 0 ∧ ret.toInt - 99999 ≤ 0 ∧ -f1.toInt ≤ 0 ∧ f1.toInt - 1600 ≤ 0 ∧ -f1.toInt + f.toInt ≤ 0 ∧ f1.toInt - f.toInt - 1600 ≤ 0 ∧ f.toInt - f1.toInt ≤ 0 ∧ (b.toInt ≤ 0 → b.toInt - ret.toInt ≤ 0) ∧ (-b.toInt ≤ 0 → -ret.toInt ≤ 0) ∧ (-c.toInt ≤ 0 → ret.toInt - c.toInt ≤ 0) ∧ (c.toInt ≤ 0 → ret.toInt ≤ 0)
set_option maxRecDepth 10000 in
set_option maxHeartbeats 4000000 in
theorem c_323s10 (σ0 : SG) (hσ0 : WT σ0) (b : Int32) (c : Int32) (f : Int32) (h_f : (σ0 159)[8]? = some (.int f)) : En 7 156 none mr_323 (P_323s10 σ0 b c f) 0 [(0, .ref 159), (1, .retAddr 21), (2, .int b), (3, .int c)] [] σ0 := by
  obtain ⟨hl_f, hu_f⟩ := WT_int hσ0 (g := 35) (by decide +kernel) (by decide +kernel) (l := 0) (u := 1600) (by decide +kernel) h_f
  have hF0 : Fr [(35, 8), (35, 9), (35, 10), (35, 11), (35, 12), (35, 13)] σ0 σ0 := Fr_rfl
  refine En_Ps 2 (pc' := 2) (lv' := [(0, .ref 159), (1, .retAddr 21), (2, .int b), (3, .int c)]) (st' := [.retAddr 21, .ref 159]) rfl ?_
  refine En_callV rfl rfl rfl rfl rfl rfl rfl rfl (by decide +kernel : TG 159 = 35) (by decide +kernel) rfl (c_286s10 σ0 hσ0 f h_f) (by decide) (by decide) (fun v2 σ3 h1 => ?_)
  obtain ⟨h4, h5, z7, h8, rfl, h6⟩ := h1
  have h9 := Fr_trans hF0 h5 (by decide +kernel)
  refine En_Ps 3 (pc' := 8) (lv' := [(0, .ref 159), (1, .retAddr 21), (2, .int b), (3, .int c)]) (st' := [.int c, .int b, .ref 159]) rfl ?_
  refine En_callV rfl rfl rfl rfl rfl rfl rfl rfl (by decide +kernel : TG 159 = 35) (by decide +kernel) rfl (c_288 σ3 h4 b c z7 h8) (by decide) (by decide) (fun v11 σ12 h10 => ?_)
  obtain ⟨h13, h14, z16, h17, z18, rfl, h15⟩ := h10
  have h19 := Fr_trans h9 h14 (by decide +kernel)
  exact En_ret (v := some (.int z18)) rfl rfl rfl ⟨h13, h19, z16, h17, z18, rfl, (by omega)⟩
/-- DoorSchoolModel.told(Ljava/lang/String;II)I -/
abbrev P_323s11 (σ0 : SG) (b : Int32) (c : Int32) (f : Int32) : PO := fun v σ => WT σ ∧ Fr [(35, 8), (35, 9), (35, 10), (35, 11), (35, 12), (35, 13)] σ0 σ ∧ ∃ f1 : Int32, (σ 159)[8]? = some (.int f1) ∧ ∃ ret : Int32, v = some (.int ret) ∧ -ret.toInt ≤ 0 ∧ ret.toInt - 99999 ≤ 0 ∧ -f1.toInt ≤ 0 ∧ f1.toInt - 1600 ≤ 0 ∧ -f1.toInt + f.toInt ≤ 0 ∧ f1.toInt - f.toInt - 1600 ≤ 0 ∧ f.toInt - f1.toInt ≤ 0 ∧ (b.toInt ≤ 0 → b.toInt - ret.toInt ≤ 0) ∧ (-b.toInt ≤ 0 → -ret.toInt ≤ 0) ∧ (-c.toInt ≤ 0 → ret.toInt - c.toInt ≤ 0) ∧ (c.toInt ≤ 0 → ret.toInt ≤ 0)
set_option maxRecDepth 10000 in
set_option maxHeartbeats 4000000 in
theorem c_323s11 (σ0 : SG) (hσ0 : WT σ0) (b : Int32) (c : Int32) (f : Int32) (h_f : (σ0 159)[8]? = some (.int f)) : En 7 156 none mr_323 (P_323s11 σ0 b c f) 0 [(0, .ref 159), (1, .retAddr 23), (2, .int b), (3, .int c)] [] σ0 := by
  obtain ⟨hl_f, hu_f⟩ := WT_int hσ0 (g := 35) (by decide +kernel) (by decide +kernel) (l := 0) (u := 1600) (by decide +kernel) h_f
  have hF0 : Fr [(35, 8), (35, 9), (35, 10), (35, 11), (35, 12), (35, 13)] σ0 σ0 := Fr_rfl
  refine En_Ps 2 (pc' := 2) (lv' := [(0, .ref 159), (1, .retAddr 23), (2, .int b), (3, .int c)]) (st' := [.retAddr 23, .ref 159]) rfl ?_
  refine En_callV rfl rfl rfl rfl rfl rfl rfl rfl (by decide +kernel : TG 159 = 35) (by decide +kernel) rfl (c_286s11 σ0 hσ0 f h_f) (by decide) (by decide) (fun v2 σ3 h1 => ?_)
  obtain ⟨h4, h5, z7, h8, rfl, h6⟩ := h1
  have h9 := Fr_trans hF0 h5 (by decide +kernel)
  refine En_Ps 3 (pc' := 8) (lv' := [(0, .ref 159), (1, .retAddr 23), (2, .int b), (3, .int c)]) (st' := [.int c, .int b, .ref 159]) rfl ?_
  refine En_callV rfl rfl rfl rfl rfl rfl rfl rfl (by decide +kernel : TG 159 = 35) (by decide +kernel) rfl (c_288 σ3 h4 b c z7 h8) (by decide) (by decide) (fun v11 σ12 h10 => ?_)
  obtain ⟨h13, h14, z16, h17, z18, rfl, h15⟩ := h10
  have h19 := Fr_trans h9 h14 (by decide +kernel)
  exact En_ret (v := some (.int z18)) rfl rfl rfl ⟨h13, h19, z16, h17, z18, rfl, (by omega)⟩
/-- DoorSchoolModel.told(Ljava/lang/String;II)I -/
abbrev P_323s12 (σ0 : SG) (b : Int32) (c : Int32) (f : Int32) : PO := fun v σ => WT σ ∧ Fr [(35, 8), (35, 9), (35, 10), (35, 11), (35, 12), (35, 13)] σ0 σ ∧ ∃ f1 : Int32, (σ 159)[8]? = some (.int f1) ∧ ∃ ret : Int32, v = some (.int ret) ∧ -ret.toInt ≤ 0 ∧ ret.toInt - 99999 ≤ 0 ∧ -f1.toInt ≤ 0 ∧ f1.toInt - 1600 ≤ 0 ∧ -f1.toInt + f.toInt ≤ 0 ∧ f1.toInt - f.toInt - 1600 ≤ 0 ∧ f.toInt - f1.toInt ≤ 0 ∧ (b.toInt ≤ 0 → b.toInt - ret.toInt ≤ 0) ∧ (-b.toInt ≤ 0 → -ret.toInt ≤ 0) ∧ (-c.toInt ≤ 0 → ret.toInt - c.toInt ≤ 0) ∧ (c.toInt ≤ 0 → ret.toInt ≤ 0)
set_option maxRecDepth 10000 in
set_option maxHeartbeats 4000000 in
theorem c_323s12 (σ0 : SG) (hσ0 : WT σ0) (b : Int32) (c : Int32) (f : Int32) (h_f : (σ0 159)[8]? = some (.int f)) : En 7 156 none mr_323 (P_323s12 σ0 b c f) 0 [(0, .ref 159), (1, .retAddr 25), (2, .int b), (3, .int c)] [] σ0 := by
  obtain ⟨hl_f, hu_f⟩ := WT_int hσ0 (g := 35) (by decide +kernel) (by decide +kernel) (l := 0) (u := 1600) (by decide +kernel) h_f
  have hF0 : Fr [(35, 8), (35, 9), (35, 10), (35, 11), (35, 12), (35, 13)] σ0 σ0 := Fr_rfl
  refine En_Ps 2 (pc' := 2) (lv' := [(0, .ref 159), (1, .retAddr 25), (2, .int b), (3, .int c)]) (st' := [.retAddr 25, .ref 159]) rfl ?_
  refine En_callV rfl rfl rfl rfl rfl rfl rfl rfl (by decide +kernel : TG 159 = 35) (by decide +kernel) rfl (c_286s12 σ0 hσ0 f h_f) (by decide) (by decide) (fun v2 σ3 h1 => ?_)
  obtain ⟨h4, h5, z7, h8, rfl, h6⟩ := h1
  have h9 := Fr_trans hF0 h5 (by decide +kernel)
  refine En_Ps 3 (pc' := 8) (lv' := [(0, .ref 159), (1, .retAddr 25), (2, .int b), (3, .int c)]) (st' := [.int c, .int b, .ref 159]) rfl ?_
  refine En_callV rfl rfl rfl rfl rfl rfl rfl rfl (by decide +kernel : TG 159 = 35) (by decide +kernel) rfl (c_288 σ3 h4 b c z7 h8) (by decide) (by decide) (fun v11 σ12 h10 => ?_)
  obtain ⟨h13, h14, z16, h17, z18, rfl, h15⟩ := h10
  have h19 := Fr_trans h9 h14 (by decide +kernel)
  exact En_ret (v := some (.int z18)) rfl rfl rfl ⟨h13, h19, z16, h17, z18, rfl, (by omega)⟩
/-- DoorSchoolModel.told(Ljava/lang/String;II)I -/
abbrev P_323s13 (σ0 : SG) (b : Int32) (c : Int32) (f : Int32) : PO := fun v σ => WT σ ∧ Fr [(35, 8), (35, 9), (35, 10), (35, 11), (35, 12), (35, 13)] σ0 σ ∧ ∃ f1 : Int32, (σ 159)[8]? = some (.int f1) ∧ ∃ ret : Int32, v = some (.int ret) ∧ -ret.toInt ≤ 0 ∧ ret.toInt - 99999 ≤ 0 ∧ -f1.toInt ≤ 0 ∧ f1.toInt - 1600 ≤ 0 ∧ -f1.toInt + f.toInt ≤ 0 ∧ f1.toInt - f.toInt - 1600 ≤ 0 ∧ f.toInt - f1.toInt ≤ 0 ∧ (b.toInt ≤ 0 → b.toInt - ret.toInt ≤ 0) ∧ (-b.toInt ≤ 0 → -ret.toInt ≤ 0) ∧ (-c.toInt ≤ 0 → ret.toInt - c.toInt ≤ 0) ∧ (c.toInt ≤ 0 → ret.toInt ≤ 0)
set_option maxRecDepth 10000 in
set_option maxHeartbeats 4000000 in
theorem c_323s13 (σ0 : SG) (hσ0 : WT σ0) (b : Int32) (c : Int32) (f : Int32) (h_f : (σ0 159)[8]? = some (.int f)) : En 7 156 none mr_323 (P_323s13 σ0 b c f) 0 [(0, .ref 159), (1, .retAddr 27), (2, .int b), (3, .int c)] [] σ0 := by
  obtain ⟨hl_f, hu_f⟩ := WT_int hσ0 (g := 35) (by decide +kernel) (by decide +kernel) (l := 0) (u := 1600) (by decide +kernel) h_f
  have hF0 : Fr [(35, 8), (35, 9), (35, 10), (35, 11), (35, 12), (35, 13)] σ0 σ0 := Fr_rfl
  refine En_Ps 2 (pc' := 2) (lv' := [(0, .ref 159), (1, .retAddr 27), (2, .int b), (3, .int c)]) (st' := [.retAddr 27, .ref 159]) rfl ?_
  refine En_callV rfl rfl rfl rfl rfl rfl rfl rfl (by decide +kernel : TG 159 = 35) (by decide +kernel) rfl (c_286s13 σ0 hσ0 f h_f) (by decide) (by decide) (fun v2 σ3 h1 => ?_)
  obtain ⟨h4, h5, z7, h8, rfl, h6⟩ := h1
  have h9 := Fr_trans hF0 h5 (by decide +kernel)
  refine En_Ps 3 (pc' := 8) (lv' := [(0, .ref 159), (1, .retAddr 27), (2, .int b), (3, .int c)]) (st' := [.int c, .int b, .ref 159]) rfl ?_
  refine En_callV rfl rfl rfl rfl rfl rfl rfl rfl (by decide +kernel : TG 159 = 35) (by decide +kernel) rfl (c_288 σ3 h4 b c z7 h8) (by decide) (by decide) (fun v11 σ12 h10 => ?_)
  obtain ⟨h13, h14, z16, h17, z18, rfl, h15⟩ := h10
  have h19 := Fr_trans h9 h14 (by decide +kernel)
  exact En_ret (v := some (.int z18)) rfl rfl rfl ⟨h13, h19, z16, h17, z18, rfl, (by omega)⟩
/-- DoorSchoolModel.told(Ljava/lang/String;II)I -/
abbrev P_323s14 (σ0 : SG) (b : Int32) (c : Int32) (f : Int32) : PO := fun v σ => WT σ ∧ Fr [(35, 8), (35, 9), (35, 10), (35, 11), (35, 12), (35, 13)] σ0 σ ∧ ∃ f1 : Int32, (σ 159)[8]? = some (.int f1) ∧ ∃ ret : Int32, v = some (.int ret) ∧ -ret.toInt ≤ 0 ∧ ret.toInt - 99999 ≤ 0 ∧ -f1.toInt ≤ 0 ∧ f1.toInt - 1600 ≤ 0 ∧ -f1.toInt + f.toInt ≤ 0 ∧ f1.toInt - f.toInt - 1600 ≤ 0 ∧ f.toInt - f1.toInt ≤ 0 ∧ (b.toInt ≤ 0 → b.toInt - ret.toInt ≤ 0) ∧ (-b.toInt ≤ 0 → -ret.toInt ≤ 0) ∧ (-c.toInt ≤ 0 → ret.toInt - c.toInt ≤ 0) ∧ (c.toInt ≤ 0 → ret.toInt ≤ 0)
set_option maxRecDepth 10000 in
set_option maxHeartbeats 4000000 in
theorem c_323s14 (σ0 : SG) (hσ0 : WT σ0) (b : Int32) (c : Int32) (f : Int32) (h_f : (σ0 159)[8]? = some (.int f)) : En 7 156 none mr_323 (P_323s14 σ0 b c f) 0 [(0, .ref 159), (1, .retAddr 29), (2, .int b), (3, .int c)] [] σ0 := by
  obtain ⟨hl_f, hu_f⟩ := WT_int hσ0 (g := 35) (by decide +kernel) (by decide +kernel) (l := 0) (u := 1600) (by decide +kernel) h_f
  have hF0 : Fr [(35, 8), (35, 9), (35, 10), (35, 11), (35, 12), (35, 13)] σ0 σ0 := Fr_rfl
  refine En_Ps 2 (pc' := 2) (lv' := [(0, .ref 159), (1, .retAddr 29), (2, .int b), (3, .int c)]) (st' := [.retAddr 29, .ref 159]) rfl ?_
  refine En_callV rfl rfl rfl rfl rfl rfl rfl rfl (by decide +kernel : TG 159 = 35) (by decide +kernel) rfl (c_286s14 σ0 hσ0 f h_f) (by decide) (by decide) (fun v2 σ3 h1 => ?_)
  obtain ⟨h4, h5, z7, h8, rfl, h6⟩ := h1
  have h9 := Fr_trans hF0 h5 (by decide +kernel)
  refine En_Ps 3 (pc' := 8) (lv' := [(0, .ref 159), (1, .retAddr 29), (2, .int b), (3, .int c)]) (st' := [.int c, .int b, .ref 159]) rfl ?_
  refine En_callV rfl rfl rfl rfl rfl rfl rfl rfl (by decide +kernel : TG 159 = 35) (by decide +kernel) rfl (c_288 σ3 h4 b c z7 h8) (by decide) (by decide) (fun v11 σ12 h10 => ?_)
  obtain ⟨h13, h14, z16, h17, z18, rfl, h15⟩ := h10
  have h19 := Fr_trans h9 h14 (by decide +kernel)
  exact En_ret (v := some (.int z18)) rfl rfl rfl ⟨h13, h19, z16, h17, z18, rfl, (by omega)⟩
/-- DoorSchoolModel.told(Ljava/lang/String;II)I -/
abbrev P_323s15 (σ0 : SG) (b : Int32) (c : Int32) (f : Int32) : PO := fun v σ => WT σ ∧ Fr [(35, 8), (35, 9), (35, 10), (35, 11), (35, 12), (35, 13)] σ0 σ ∧ ∃ f1 : Int32, (σ 159)[8]? = some (.int f1) ∧ ∃ ret : Int32, v = some (.int ret) ∧ -ret.toInt ≤ 0 ∧ ret.toInt - 99999 ≤ 0 ∧ -f1.toInt ≤ 0 ∧ f1.toInt - 1600 ≤ 0 ∧ -f1.toInt + f.toInt ≤ 0 ∧ f1.toInt - f.toInt - 1600 ≤ 0 ∧ f.toInt - f1.toInt ≤ 0 ∧ (b.toInt ≤ 0 → b.toInt - ret.toInt ≤ 0) ∧ (-b.toInt ≤ 0 → -ret.toInt ≤ 0) ∧ (-c.toInt ≤ 0 → ret.toInt - c.toInt ≤ 0) ∧ (c.toInt ≤ 0 → ret.toInt ≤ 0)
set_option maxRecDepth 10000 in
set_option maxHeartbeats 4000000 in
theorem c_323s15 (σ0 : SG) (hσ0 : WT σ0) (b : Int32) (c : Int32) (f : Int32) (h_f : (σ0 159)[8]? = some (.int f)) : En 7 156 none mr_323 (P_323s15 σ0 b c f) 0 [(0, .ref 159), (1, .retAddr 31), (2, .int b), (3, .int c)] [] σ0 := by
  obtain ⟨hl_f, hu_f⟩ := WT_int hσ0 (g := 35) (by decide +kernel) (by decide +kernel) (l := 0) (u := 1600) (by decide +kernel) h_f
  have hF0 : Fr [(35, 8), (35, 9), (35, 10), (35, 11), (35, 12), (35, 13)] σ0 σ0 := Fr_rfl
  refine En_Ps 2 (pc' := 2) (lv' := [(0, .ref 159), (1, .retAddr 31), (2, .int b), (3, .int c)]) (st' := [.retAddr 31, .ref 159]) rfl ?_
  refine En_callV rfl rfl rfl rfl rfl rfl rfl rfl (by decide +kernel : TG 159 = 35) (by decide +kernel) rfl (c_286s15 σ0 hσ0 f h_f) (by decide) (by decide) (fun v2 σ3 h1 => ?_)
  obtain ⟨h4, h5, z7, h8, rfl, h6⟩ := h1
  have h9 := Fr_trans hF0 h5 (by decide +kernel)
  refine En_Ps 3 (pc' := 8) (lv' := [(0, .ref 159), (1, .retAddr 31), (2, .int b), (3, .int c)]) (st' := [.int c, .int b, .ref 159]) rfl ?_
  refine En_callV rfl rfl rfl rfl rfl rfl rfl rfl (by decide +kernel : TG 159 = 35) (by decide +kernel) rfl (c_288 σ3 h4 b c z7 h8) (by decide) (by decide) (fun v11 σ12 h10 => ?_)
  obtain ⟨h13, h14, z16, h17, z18, rfl, h15⟩ := h10
  have h19 := Fr_trans h9 h14 (by decide +kernel)
  exact En_ret (v := some (.int z18)) rfl rfl rfl ⟨h13, h19, z16, h17, z18, rfl, (by omega)⟩
/-- DoorSchoolModel.told(Ljava/lang/String;II)I -/
abbrev P_323s16 (σ0 : SG) (b : Int32) (c : Int32) (f : Int32) : PO := fun v σ => WT σ ∧ Fr [(35, 8), (35, 9), (35, 10), (35, 11), (35, 12), (35, 13)] σ0 σ ∧ ∃ f1 : Int32, (σ 159)[8]? = some (.int f1) ∧ ∃ ret : Int32, v = some (.int ret) ∧ -ret.toInt ≤ 0 ∧ ret.toInt - 99999 ≤ 0 ∧ -f1.toInt ≤ 0 ∧ f1.toInt - 1600 ≤ 0 ∧ -f1.toInt + f.toInt ≤ 0 ∧ f1.toInt - f.toInt - 1600 ≤ 0 ∧ f.toInt - f1.toInt ≤ 0 ∧ (b.toInt ≤ 0 → b.toInt - ret.toInt ≤ 0) ∧ (-b.toInt ≤ 0 → -ret.toInt ≤ 0) ∧ (-c.toInt ≤ 0 → ret.toInt - c.toInt ≤ 0) ∧ (c.toInt ≤ 0 → ret.toInt ≤ 0)
set_option maxRecDepth 10000 in
set_option maxHeartbeats 4000000 in
theorem c_323s16 (σ0 : SG) (hσ0 : WT σ0) (b : Int32) (c : Int32) (f : Int32) (h_f : (σ0 159)[8]? = some (.int f)) : En 7 156 none mr_323 (P_323s16 σ0 b c f) 0 [(0, .ref 159), (1, .retAddr 33), (2, .int b), (3, .int c)] [] σ0 := by
  obtain ⟨hl_f, hu_f⟩ := WT_int hσ0 (g := 35) (by decide +kernel) (by decide +kernel) (l := 0) (u := 1600) (by decide +kernel) h_f
  have hF0 : Fr [(35, 8), (35, 9), (35, 10), (35, 11), (35, 12), (35, 13)] σ0 σ0 := Fr_rfl
  refine En_Ps 2 (pc' := 2) (lv' := [(0, .ref 159), (1, .retAddr 33), (2, .int b), (3, .int c)]) (st' := [.retAddr 33, .ref 159]) rfl ?_
  refine En_callV rfl rfl rfl rfl rfl rfl rfl rfl (by decide +kernel : TG 159 = 35) (by decide +kernel) rfl (c_286s16 σ0 hσ0 f h_f) (by decide) (by decide) (fun v2 σ3 h1 => ?_)
  obtain ⟨h4, h5, z7, h8, rfl, h6⟩ := h1
  have h9 := Fr_trans hF0 h5 (by decide +kernel)
  refine En_Ps 3 (pc' := 8) (lv' := [(0, .ref 159), (1, .retAddr 33), (2, .int b), (3, .int c)]) (st' := [.int c, .int b, .ref 159]) rfl ?_
  refine En_callV rfl rfl rfl rfl rfl rfl rfl rfl (by decide +kernel : TG 159 = 35) (by decide +kernel) rfl (c_288 σ3 h4 b c z7 h8) (by decide) (by decide) (fun v11 σ12 h10 => ?_)
  obtain ⟨h13, h14, z16, h17, z18, rfl, h15⟩ := h10
  have h19 := Fr_trans h9 h14 (by decide +kernel)
  exact En_ret (v := some (.int z18)) rfl rfl rfl ⟨h13, h19, z16, h17, z18, rfl, (by omega)⟩
/-- DoorSchoolModel.told(Ljava/lang/String;II)I -/
abbrev P_323s17 (σ0 : SG) (b : Int32) (c : Int32) (f : Int32) : PO := fun v σ => WT σ ∧ Fr [(35, 8), (35, 9), (35, 10), (35, 11), (35, 12), (35, 13)] σ0 σ ∧ ∃ f1 : Int32, (σ 159)[8]? = some (.int f1) ∧ ∃ ret : Int32, v = some (.int ret) ∧ -ret.toInt ≤ 0 ∧ ret.toInt - 99999 ≤ 0 ∧ -f1.toInt ≤ 0 ∧ f1.toInt - 1600 ≤ 0 ∧ -f1.toInt + f.toInt ≤ 0 ∧ f1.toInt - f.toInt - 1600 ≤ 0 ∧ f.toInt - f1.toInt ≤ 0 ∧ (b.toInt ≤ 0 → b.toInt - ret.toInt ≤ 0) ∧ (-b.toInt ≤ 0 → -ret.toInt ≤ 0) ∧ (-c.toInt ≤ 0 → ret.toInt - c.toInt ≤ 0) ∧ (c.toInt ≤ 0 → ret.toInt ≤ 0)
set_option maxRecDepth 10000 in
set_option maxHeartbeats 4000000 in
theorem c_323s17 (σ0 : SG) (hσ0 : WT σ0) (b : Int32) (c : Int32) (f : Int32) (h_f : (σ0 159)[8]? = some (.int f)) : En 7 156 none mr_323 (P_323s17 σ0 b c f) 0 [(0, .ref 159), (1, .retAddr 35), (2, .int b), (3, .int c)] [] σ0 := by
  obtain ⟨hl_f, hu_f⟩ := WT_int hσ0 (g := 35) (by decide +kernel) (by decide +kernel) (l := 0) (u := 1600) (by decide +kernel) h_f
  have hF0 : Fr [(35, 8), (35, 9), (35, 10), (35, 11), (35, 12), (35, 13)] σ0 σ0 := Fr_rfl
  refine En_Ps 2 (pc' := 2) (lv' := [(0, .ref 159), (1, .retAddr 35), (2, .int b), (3, .int c)]) (st' := [.retAddr 35, .ref 159]) rfl ?_
  refine En_callV rfl rfl rfl rfl rfl rfl rfl rfl (by decide +kernel : TG 159 = 35) (by decide +kernel) rfl (c_286s17 σ0 hσ0 f h_f) (by decide) (by decide) (fun v2 σ3 h1 => ?_)
  obtain ⟨h4, h5, z7, h8, rfl, h6⟩ := h1
  have h9 := Fr_trans hF0 h5 (by decide +kernel)
  refine En_Ps 3 (pc' := 8) (lv' := [(0, .ref 159), (1, .retAddr 35), (2, .int b), (3, .int c)]) (st' := [.int c, .int b, .ref 159]) rfl ?_
  refine En_callV rfl rfl rfl rfl rfl rfl rfl rfl (by decide +kernel : TG 159 = 35) (by decide +kernel) rfl (c_288 σ3 h4 b c z7 h8) (by decide) (by decide) (fun v11 σ12 h10 => ?_)
  obtain ⟨h13, h14, z16, h17, z18, rfl, h15⟩ := h10
  have h19 := Fr_trans h9 h14 (by decide +kernel)
  exact En_ret (v := some (.int z18)) rfl rfl rfl ⟨h13, h19, z16, h17, z18, rfl, (by omega)⟩
/-- DoorSchoolModel.rest(I)I -/
abbrev P_306 (σ0 : SG) (a : Int32) : PO := fun v σ => WT σ ∧ Fr [(35, 18), (35, 21), (42, 0), (43, 0), (44, 0), (45, 0), (46, 0)] σ0 σ ∧ ∃ ret : Int32, v = some (.int ret) ∧ -ret.toInt - 2 ≤ 0 ∧ ret.toInt - 215 ≤ 0
set_option maxRecDepth 10000 in
set_option maxHeartbeats 4000000 in
theorem c_306 (σ0 : SG) (hσ0 : WT σ0) (a : Int32) : En 6 138 none mr_306 (P_306 σ0 a) 0 [(0, .ref 159), (1, .int a)] [] σ0 := by
  have hF0 : Fr [(35, 18), (35, 21), (42, 0), (43, 0), (44, 0), (45, 0), (46, 0)] σ0 σ0 := Fr_rfl
  refine En_Ps 2 (pc' := 2) (lv' := [(0, .ref 159), (1, .int a)]) (st' := [.int a, .ref 159]) rfl ?_
  obtain ⟨z2, h1, h3, h4⟩ := WT_peekI hσ0 (by decide +kernel : TG 160 = 36) (by decide +kernel : FT 36 (2 : Int).toNat = (0, 0, 4)) (by decide +kernel)
  refine En_callV rfl rfl rfl rfl rfl rfl rfl rfl (by decide +kernel : TG 159 = 35) (by decide +kernel) rfl (c_254 σ0 hσ0 a z2 h1) (by decide) (by decide) (fun v6 σ7 h5 => ?_)
  obtain ⟨h8, h9, z11, rfl, h10⟩ := h5
  have h12 := Fr_trans hF0 h9 (by decide +kernel)
  refine En_iNe _ rfl rfl (fun h13 => ?_) (fun h13 => ?_)
  · refine En_Ps 2 (pc' := 13) (lv' := [(2, .int ((Int32.ofInt 0))), (0, .ref 159), (1, .int a)]) (st' := []) rfl ?_
    have key13 : ∀ (n13 : Nat) (σ15 : SG) (y14 : Int32), WT σ15 → Fr [(35, 18), (35, 21), (42, 0), (43, 0), (44, 0), (45, 0), (46, 0)] σ0 σ15 → (σ15 160)[(2 : Int).toNat]? = some (.int z2) → 0 ≤ y14.toInt → y14.toInt ≤ 3 → -y14.toInt + 3 < (n13 : Int) → En 6 138 none mr_306 (P_306 σ0 a) 13 [(0, .ref 159), (1, .int a), (2, .int y14)] [] σ15 := by
      intro n13
      induction n13 with
      | zero =>
        intro σ15 y14 h16 h17 h18 h19 h20 h21
        exfalso; omega
      | succ n13 ih13 =>
        intro σ15 y14 h16 h17 h18 h19 h20 h21
        refine En_Ps 2 (pc' := 15) (lv' := [(0, .ref 159), (1, .int a), (2, .int y14)]) (st' := [.int ((Int32.ofInt 3)), .int y14]) rfl ?_
        refine En_icGe _ rfl (by decide : (Int32.ofInt 3).toInt = 3) rfl (fun h22 => ?_) (fun h22 => ?_)
        · refine En_Ps 1 (pc' := 66) (lv' := [(0, .ref 159), (1, .int a), (2, .int y14)]) (st' := [.int ((Int32.ofInt (-1)))]) rfl ?_
          refine En_top (by decide : (Int32.ofInt (-1)).toInt = -1) (fun z23 h24 => ?_)
          exact En_ret (v := some (.int z23)) rfl rfl rfl ⟨h16, h17, z23, rfl, (by omega)⟩
        · refine En_Ps 2 (pc' := 20) (lv' := [(3, .int ((Int32.ofInt 0))), (0, .ref 159), (1, .int a), (2, .int y14)]) (st' := []) rfl ?_
          have key20 : ∀ (n20 : Nat) (σ26 : SG) (y25 : Int32), WT σ26 → Fr [(35, 18), (35, 21), (42, 0), (43, 0), (44, 0), (45, 0), (46, 0)] σ0 σ26 → (σ26 160)[(2 : Int).toNat]? = some (.int z2) → 0 ≤ y25.toInt → y25.toInt ≤ 16 → -y25.toInt + 16 < (n20 : Int) → En 6 138 none mr_306 (P_306 σ0 a) 20 [(0, .ref 159), (1, .int a), (2, .int y14), (3, .int y25)] [] σ26 := by
            intro n20
            induction n20 with
            | zero =>
              intro σ26 y25 h27 h28 h29 h30 h31 h32
              exfalso; omega
            | succ n20 ih20 =>
              intro σ26 y25 h27 h28 h29 h30 h31 h32
              refine En_Ps 2 (pc' := 22) (lv' := [(0, .ref 159), (1, .int a), (2, .int y14), (3, .int y25)]) (st' := [.ref 159, .int y25]) rfl ?_
              obtain ⟨z34, h33, h35, h36⟩ := WT_peekI h27 (by decide +kernel : TG 160 = 36) (by decide +kernel : FT 36 (0 : Int).toNat = (0, 0, 4)) (by decide +kernel)
              obtain ⟨z38, h37, h39, h40⟩ := WT_peekI h27 (by decide +kernel : TG 160 = 36) (by decide +kernel : FT 36 (7 : Int).toNat = (0, 0, 1600)) (by decide +kernel)
              refine En_callV rfl rfl rfl rfl rfl rfl rfl rfl (by decide +kernel : TG 159 = 35) (by decide +kernel) rfl (c_269 σ26 h27 z34 h33 z38 h37) (by decide) (by decide) (fun v42 σ43 h41 => ?_)
              obtain ⟨h44, h45, z47, rfl, h46⟩ := h41
              have h48 := Fr_trans h28 h45 (by decide +kernel)
              refine En_icGe _ rfl rfl rfl (fun h49 => ?_) (fun h49 => ?_)
              · refine En_Ps 1 (pc' := 62) (lv' := [(2, .int ((y14 + Int32.ofInt 1))), (0, .ref 159), (1, .int a), (3, .int y25)]) (st' := []) rfl ?_
                refine En_lv1 (addI rfl (by decide : (Int32.ofInt 1).toInt = 1) (by omega) (by omega)) (fun z50 h51 => ?_)
                refine En_Ps 1 (pc' := 13) (lv' := [(2, .int z50), (0, .ref 159), (1, .int a), (3, .int y25)]) (st' := []) rfl ?_
                refine En_lv (lv := [(0, .ref 159), (1, .int a), (2, .int z50)]) ⟨rfl, rfl, rfl, trivial⟩ ?_
                exact ih13 σ43 z50 h44 h48 ((h45 _ _ (inWa (by decide +kernel : TG 160 = 36) (by decide +kernel))).trans h29) (by omega) (by omega) (by omega)
              · refine En_Ps 2 (pc' := 30) (lv' := [(0, .ref 159), (1, .int a), (2, .int y14), (3, .int y25)]) (st' := [.int y25, .ref 159]) rfl ?_
                refine En_callV rfl rfl rfl rfl rfl rfl rfl rfl (by decide +kernel : TG 159 = 35) (by decide +kernel) rfl (c_267 σ43 h44 y25) (by decide) (by decide) (fun v53 σ54 h52 => ?_)
                obtain ⟨h55, h56, z58, rfl, h57⟩ := h52
                have h59 := Fr_trans h48 h56 (by decide +kernel)
                refine En_iEq _ rfl rfl (fun h60 => ?_) (fun h60 => ?_)
                · refine En_Ps 1 (pc' := 56) (lv' := [(3, .int ((y25 + Int32.ofInt 1))), (0, .ref 159), (1, .int a), (2, .int y14)]) (st' := []) rfl ?_
                  refine En_lv1 (addI rfl (by decide : (Int32.ofInt 1).toInt = 1) (by omega) (by omega)) (fun z61 h62 => ?_)
                  refine En_Ps 1 (pc' := 20) (lv' := [(3, .int z61), (0, .ref 159), (1, .int a), (2, .int y14)]) (st' := []) rfl ?_
                  refine En_lv (lv := [(0, .ref 159), (1, .int a), (2, .int y14), (3, .int z61)]) ⟨rfl, rfl, rfl, rfl, trivial⟩ ?_
                  exact ih20 σ54 z61 h55 h59 ((h56 _ _ (inWa (by decide +kernel : TG 160 = 36) (by decide +kernel))).trans ((h45 _ _ (inWa (by decide +kernel : TG 160 = 36) (by decide +kernel))).trans h29)) (by omega) (by omega) (by omega)
                · refine En_Ps 4 (pc' := 40) (lv' := [(0, .ref 159), (1, .int a), (2, .int y14), (3, .int y25)]) (st' := [.int y25, .int y14, .int a, .ref 159]) rfl ?_
                  refine En_callV rfl rfl rfl rfl rfl rfl rfl rfl (by decide +kernel : TG 159 = 35) (by decide +kernel) rfl (c_261 σ54 h55 a y14 y25 (geI rfl (by omega)) (leI rfl (by omega)) (geI rfl (by omega)) (leI rfl (by omega)) (geI rfl (by omega)) (leI rfl (by omega))) (by decide) (by decide) (fun v64 σ65 h63 => ?_)
                  obtain ⟨h66, h67, z69, rfl, h68⟩ := h63
                  have h70 := Fr_trans h59 h67 (by decide +kernel)
                  refine En_iEq _ rfl rfl (fun h71 => ?_) (fun h71 => ?_)
                  · refine En_Ps 1 (pc' := 56) (lv' := [(3, .int ((y25 + Int32.ofInt 1))), (0, .ref 159), (1, .int a), (2, .int y14)]) (st' := []) rfl ?_
                    refine En_lv1 (addI rfl (by decide : (Int32.ofInt 1).toInt = 1) (by omega) (by omega)) (fun z72 h73 => ?_)
                    refine En_Ps 1 (pc' := 20) (lv' := [(3, .int z72), (0, .ref 159), (1, .int a), (2, .int y14)]) (st' := []) rfl ?_
                    refine En_lv (lv := [(0, .ref 159), (1, .int a), (2, .int y14), (3, .int z72)]) ⟨rfl, rfl, rfl, rfl, trivial⟩ ?_
                    exact ih20 σ65 z72 h66 h70 ((h67 _ _ (inWa (by decide +kernel : TG 160 = 36) (by decide +kernel))).trans ((h56 _ _ (inWa (by decide +kernel : TG 160 = 36) (by decide +kernel))).trans ((h45 _ _ (inWa (by decide +kernel : TG 160 = 36) (by decide +kernel))).trans h29))) (by omega) (by omega) (by omega)
                  · refine En_Ps 3 (pc' := 50) (lv' := [(0, .ref 159), (1, .int a), (2, .int y14), (3, .int y25)]) (st' := [.int (((((Int8.ofInt 100).toInt32)) * y14))]) rfl ?_
                    refine En_top (mulI (by decide : ((Int8.ofInt 100).toInt32).toInt = 100) rfl (Z := 100 * y14.toInt) (by omega) (by omega) (by omega)) (fun z74 h75 => ?_)
                    refine En_Ps 2 (pc' := 52) (lv' := [(0, .ref 159), (1, .int a), (2, .int y14), (3, .int y25)]) (st' := [.int ((z74 + y25))]) rfl ?_
                    refine En_top (addI rfl rfl (by omega) (by omega)) (fun z76 h77 => ?_)
                    exact En_ret (v := some (.int z76)) rfl rfl rfl ⟨h66, h70, z76, rfl, (by omega)⟩
          have := (by decide : (Int32.ofInt 0).toInt = 0)
          refine En_lv (lv := [(0, .ref 159), (1, .int a), (2, .int y14), (3, .int ((Int32.ofInt 0)))]) ⟨rfl, rfl, rfl, rfl, trivial⟩ ?_
          exact key20 (Int.toNat (16) + 1) σ15 ((Int32.ofInt 0)) h16 h17 h18 (by omega) (by omega) (by omega)
    have := (by decide : (Int32.ofInt 0).toInt = 0)
    refine En_lv (lv := [(0, .ref 159), (1, .int a), (2, .int ((Int32.ofInt 0)))]) ⟨rfl, rfl, rfl, trivial⟩ ?_
    exact key13 (Int.toNat (3) + 1) σ7 ((Int32.ofInt 0)) h8 h12 ((h9 _ _ (inWa (by decide +kernel : TG 160 = 36) (by decide +kernel))).trans h1) (by omega) (by omega) (by omega)
  · refine En_Ps 1 (pc' := 10) (lv' := [(0, .ref 159), (1, .int a)]) (st' := [.int (((Int8.ofInt (-2)).toInt32))]) rfl ?_
    refine En_top (by decide : ((Int8.ofInt (-2)).toInt32).toInt = -2) (fun z78 h79 => ?_)
    exact En_ret (v := some (.int z78)) rfl rfl rfl ⟨h8, h12, z78, rfl, (by omega)⟩
/-- DoorSchoolModel.rests(I)I -/
abbrev P_307 (σ0 : SG) (a : Int32) : PO := fun v σ => WT σ ∧ Fr [(35, 18), (35, 21), (42, 0), (43, 0), (44, 0), (45, 0), (46, 0)] σ0 σ ∧ ∃ ret : Int32, v = some (.int ret) ∧ True
set_option maxRecDepth 10000 in
set_option maxHeartbeats 4000000 in
theorem c_307 (σ0 : SG) (hσ0 : WT σ0) (a : Int32) : En 6 138 none mr_307 (P_307 σ0 a) 0 [(0, .ref 159), (1, .int a)] [] σ0 := by
  have hF0 : Fr [(35, 18), (35, 21), (42, 0), (43, 0), (44, 0), (45, 0), (46, 0)] σ0 σ0 := Fr_rfl
  refine En_Ps 2 (pc' := 2) (lv' := [(0, .ref 159), (1, .int a)]) (st' := [.int a, .ref 159]) rfl ?_
  obtain ⟨z2, h1, h3, h4⟩ := WT_peekI hσ0 (by decide +kernel : TG 160 = 36) (by decide +kernel : FT 36 (2 : Int).toNat = (0, 0, 4)) (by decide +kernel)
  refine En_callV rfl rfl rfl rfl rfl rfl rfl rfl (by decide +kernel : TG 159 = 35) (by decide +kernel) rfl (c_254 σ0 hσ0 a z2 h1) (by decide) (by decide) (fun v6 σ7 h5 => ?_)
  obtain ⟨h8, h9, z11, rfl, h10⟩ := h5
  have h12 := Fr_trans hF0 h9 (by decide +kernel)
  refine En_iNe _ rfl rfl (fun h13 => ?_) (fun h13 => ?_)
  · refine En_Ps 4 (pc' := 15) (lv' := [(3, .int ((Int32.ofInt 0))), (2, .int ((Int32.ofInt 0))), (0, .ref 159), (1, .int a)]) (st' := []) rfl ?_
    have key15 : ∀ (n15 : Nat) (σ16 : SG) (y14 : Int32) (y15 : Int32), WT σ16 → Fr [(35, 18), (35, 21), (42, 0), (43, 0), (44, 0), (45, 0), (46, 0)] σ0 σ16 → (σ16 160)[(2 : Int).toNat]? = some (.int z2) → 0 ≤ y15.toInt → y15.toInt ≤ 3 → -y15.toInt + 3 < (n15 : Int) → En 6 138 none mr_307 (P_307 σ0 a) 15 [(0, .ref 159), (1, .int a), (2, .int y14), (3, .int y15)] [] σ16 := by
      intro n15
      induction n15 with
      | zero =>
        intro σ16 y14 y15 h17 h18 h19 h20 h21 h22
        exfalso; omega
      | succ n15 ih15 =>
        intro σ16 y14 y15 h17 h18 h19 h20 h21 h22
        refine En_Ps 2 (pc' := 17) (lv' := [(0, .ref 159), (1, .int a), (2, .int y14), (3, .int y15)]) (st' := [.int ((Int32.ofInt 3)), .int y15]) rfl ?_
        refine En_icGe _ rfl (by decide : (Int32.ofInt 3).toInt = 3) rfl (fun h23 => ?_) (fun h23 => ?_)
        · refine En_Ps 1 (pc' := 73) (lv' := [(0, .ref 159), (1, .int a), (2, .int y14), (3, .int y15)]) (st' := [.int y14]) rfl ?_
          exact En_ret (v := some (.int y14)) rfl rfl rfl ⟨h17, h18, y14, rfl, trivial⟩
        · refine En_Ps 2 (pc' := 23) (lv' := [(4, .int ((Int32.ofInt 0))), (0, .ref 159), (1, .int a), (2, .int y14), (3, .int y15)]) (st' := []) rfl ?_
          have key23 : ∀ (n23 : Nat) (σ26 : SG) (y24 : Int32) (y25 : Int32), WT σ26 → Fr [(35, 18), (35, 21), (42, 0), (43, 0), (44, 0), (45, 0), (46, 0)] σ0 σ26 → (σ26 160)[(2 : Int).toNat]? = some (.int z2) → 0 ≤ y25.toInt → y25.toInt ≤ 16 → -y25.toInt + 16 < (n23 : Int) → En 6 138 none mr_307 (P_307 σ0 a) 23 [(0, .ref 159), (1, .int a), (2, .int y24), (3, .int y15), (4, .int y25)] [] σ26 := by
            intro n23
            induction n23 with
            | zero =>
              intro σ26 y24 y25 h27 h28 h29 h30 h31 h32
              exfalso; omega
            | succ n23 ih23 =>
              intro σ26 y24 y25 h27 h28 h29 h30 h31 h32
              refine En_Ps 2 (pc' := 26) (lv' := [(0, .ref 159), (1, .int a), (2, .int y24), (3, .int y15), (4, .int y25)]) (st' := [.ref 159, .int y25]) rfl ?_
              obtain ⟨z34, h33, h35, h36⟩ := WT_peekI h27 (by decide +kernel : TG 160 = 36) (by decide +kernel : FT 36 (0 : Int).toNat = (0, 0, 4)) (by decide +kernel)
              obtain ⟨z38, h37, h39, h40⟩ := WT_peekI h27 (by decide +kernel : TG 160 = 36) (by decide +kernel : FT 36 (7 : Int).toNat = (0, 0, 1600)) (by decide +kernel)
              refine En_callV rfl rfl rfl rfl rfl rfl rfl rfl (by decide +kernel : TG 159 = 35) (by decide +kernel) rfl (c_269 σ26 h27 z34 h33 z38 h37) (by decide) (by decide) (fun v42 σ43 h41 => ?_)
              obtain ⟨h44, h45, z47, rfl, h46⟩ := h41
              have h48 := Fr_trans h28 h45 (by decide +kernel)
              refine En_icGe _ rfl rfl rfl (fun h49 => ?_) (fun h49 => ?_)
              · refine En_Ps 1 (pc' := 69) (lv' := [(3, .int ((y15 + Int32.ofInt 1))), (0, .ref 159), (1, .int a), (2, .int y24), (4, .int y25)]) (st' := []) rfl ?_
                refine En_lv1 (addI rfl (by decide : (Int32.ofInt 1).toInt = 1) (by omega) (by omega)) (fun z50 h51 => ?_)
                refine En_Ps 1 (pc' := 15) (lv' := [(3, .int z50), (0, .ref 159), (1, .int a), (2, .int y24), (4, .int y25)]) (st' := []) rfl ?_
                refine En_lv (lv := [(0, .ref 159), (1, .int a), (2, .int y24), (3, .int z50)]) ⟨rfl, rfl, rfl, rfl, trivial⟩ ?_
                exact ih15 σ43 y24 z50 h44 h48 ((h45 _ _ (inWa (by decide +kernel : TG 160 = 36) (by decide +kernel))).trans h29) (by omega) (by omega) (by omega)
              · refine En_Ps 3 (pc' := 36) (lv' := [(0, .ref 159), (1, .int a), (2, .int y24), (3, .int y15), (4, .int y25)]) (st' := [.int y25, .ref 159, .int y24]) rfl ?_
                refine En_callV rfl rfl rfl rfl rfl rfl rfl rfl (by decide +kernel : TG 159 = 35) (by decide +kernel) rfl (c_267 σ43 h44 y25) (by decide) (by decide) (fun v53 σ54 h52 => ?_)
                obtain ⟨h55, h56, z58, rfl, h57⟩ := h52
                have h59 := Fr_trans h48 h56 (by decide +kernel)
                refine En_iEq _ rfl rfl (fun h60 => ?_) (fun h60 => ?_)
                · refine En_Ps 2 (pc' := 59) (lv' := [(0, .ref 159), (1, .int a), (2, .int y24), (3, .int y15), (4, .int y25)]) (st' := [.int ((y24 + ((Int32.ofInt 0))))]) rfl ?_
                  refine En_hav (fun z61 => ?_)
                  refine En_Ps 2 (pc' := 63) (lv' := [(4, .int ((y25 + Int32.ofInt 1))), (2, .int z61), (0, .ref 159), (1, .int a), (3, .int y15)]) (st' := []) rfl ?_
                  refine En_lv1 (addI rfl (by decide : (Int32.ofInt 1).toInt = 1) (by omega) (by omega)) (fun z62 h63 => ?_)
                  refine En_Ps 1 (pc' := 23) (lv' := [(4, .int z62), (2, .int z61), (0, .ref 159), (1, .int a), (3, .int y15)]) (st' := []) rfl ?_
                  refine En_lv (lv := [(0, .ref 159), (1, .int a), (2, .int z61), (3, .int y15), (4, .int z62)]) ⟨rfl, rfl, rfl, rfl, rfl, trivial⟩ ?_
                  exact ih23 σ54 z61 z62 h55 h59 ((h56 _ _ (inWa (by decide +kernel : TG 160 = 36) (by decide +kernel))).trans ((h45 _ _ (inWa (by decide +kernel : TG 160 = 36) (by decide +kernel))).trans h29)) (by omega) (by omega) (by omega)
                · refine En_Ps 4 (pc' := 47) (lv' := [(0, .ref 159), (1, .int a), (2, .int y24), (3, .int y15), (4, .int y25)]) (st' := [.int y25, .int y15, .int a, .ref 159, .int y24]) rfl ?_
                  refine En_callV rfl rfl rfl rfl rfl rfl rfl rfl (by decide +kernel : TG 159 = 35) (by decide +kernel) rfl (c_261 σ54 h55 a y15 y25 (geI rfl (by omega)) (leI rfl (by omega)) (geI rfl (by omega)) (leI rfl (by omega)) (geI rfl (by omega)) (leI rfl (by omega))) (by decide) (by decide) (fun v65 σ66 h64 => ?_)
                  obtain ⟨h67, h68, z70, rfl, h69⟩ := h64
                  have h71 := Fr_trans h59 h68 (by decide +kernel)
                  refine En_iEq _ rfl rfl (fun h72 => ?_) (fun h72 => ?_)
                  · refine En_Ps 2 (pc' := 59) (lv' := [(0, .ref 159), (1, .int a), (2, .int y24), (3, .int y15), (4, .int y25)]) (st' := [.int ((y24 + ((Int32.ofInt 0))))]) rfl ?_
                    refine En_hav (fun z73 => ?_)
                    refine En_Ps 2 (pc' := 63) (lv' := [(4, .int ((y25 + Int32.ofInt 1))), (2, .int z73), (0, .ref 159), (1, .int a), (3, .int y15)]) (st' := []) rfl ?_
                    refine En_lv1 (addI rfl (by decide : (Int32.ofInt 1).toInt = 1) (by omega) (by omega)) (fun z74 h75 => ?_)
                    refine En_Ps 1 (pc' := 23) (lv' := [(4, .int z74), (2, .int z73), (0, .ref 159), (1, .int a), (3, .int y15)]) (st' := []) rfl ?_
                    refine En_lv (lv := [(0, .ref 159), (1, .int a), (2, .int z73), (3, .int y15), (4, .int z74)]) ⟨rfl, rfl, rfl, rfl, rfl, trivial⟩ ?_
                    exact ih23 σ66 z73 z74 h67 h71 ((h68 _ _ (inWa (by decide +kernel : TG 160 = 36) (by decide +kernel))).trans ((h56 _ _ (inWa (by decide +kernel : TG 160 = 36) (by decide +kernel))).trans ((h45 _ _ (inWa (by decide +kernel : TG 160 = 36) (by decide +kernel))).trans h29))) (by omega) (by omega) (by omega)
                  · refine En_Ps 3 (pc' := 59) (lv' := [(0, .ref 159), (1, .int a), (2, .int y24), (3, .int y15), (4, .int y25)]) (st' := [.int ((y24 + ((Int32.ofInt 1))))]) rfl ?_
                    refine En_hav (fun z76 => ?_)
                    refine En_Ps 2 (pc' := 63) (lv' := [(4, .int ((y25 + Int32.ofInt 1))), (2, .int z76), (0, .ref 159), (1, .int a), (3, .int y15)]) (st' := []) rfl ?_
                    refine En_lv1 (addI rfl (by decide : (Int32.ofInt 1).toInt = 1) (by omega) (by omega)) (fun z77 h78 => ?_)
                    refine En_Ps 1 (pc' := 23) (lv' := [(4, .int z77), (2, .int z76), (0, .ref 159), (1, .int a), (3, .int y15)]) (st' := []) rfl ?_
                    refine En_lv (lv := [(0, .ref 159), (1, .int a), (2, .int z76), (3, .int y15), (4, .int z77)]) ⟨rfl, rfl, rfl, rfl, rfl, trivial⟩ ?_
                    exact ih23 σ66 z76 z77 h67 h71 ((h68 _ _ (inWa (by decide +kernel : TG 160 = 36) (by decide +kernel))).trans ((h56 _ _ (inWa (by decide +kernel : TG 160 = 36) (by decide +kernel))).trans ((h45 _ _ (inWa (by decide +kernel : TG 160 = 36) (by decide +kernel))).trans h29))) (by omega) (by omega) (by omega)
          have := (by decide : (Int32.ofInt 0).toInt = 0)
          refine En_lv (lv := [(0, .ref 159), (1, .int a), (2, .int y14), (3, .int y15), (4, .int ((Int32.ofInt 0)))]) ⟨rfl, rfl, rfl, rfl, rfl, trivial⟩ ?_
          exact key23 (Int.toNat (16) + 1) σ16 y14 ((Int32.ofInt 0)) h17 h18 h19 (by omega) (by omega) (by omega)
    have := (by decide : (Int32.ofInt 0).toInt = 0)
    have := (by decide : (Int32.ofInt 0).toInt = 0)
    refine En_lv (lv := [(0, .ref 159), (1, .int a), (2, .int ((Int32.ofInt 0))), (3, .int ((Int32.ofInt 0)))]) ⟨rfl, rfl, rfl, rfl, trivial⟩ ?_
    exact key15 (Int.toNat (3) + 1) σ7 ((Int32.ofInt 0)) ((Int32.ofInt 0)) h8 h12 ((h9 _ _ (inWa (by decide +kernel : TG 160 = 36) (by decide +kernel))).trans h1) (by omega) (by omega) (by omega)
  · refine En_Ps 1 (pc' := 10) (lv' := [(0, .ref 159), (1, .int a)]) (st' := [.int (((Int8.ofInt (-2)).toInt32))]) rfl ?_
    refine En_top (by decide : ((Int8.ofInt (-2)).toInt32).toInt = -2) (fun z79 h80 => ?_)
    exact En_ret (v := some (.int z79)) rfl rfl rfl ⟨h8, h12, z79, rfl, trivial⟩
/-- DoorSchoolModel.row(III)I -/
abbrev P_308 (σ0 : SG) (a : Int32) (b : Int32) (c : Int32) : PO := fun v σ => WT σ ∧ Fr [(53, 0), (54, 0), (55, 0)] σ0 σ ∧ ∃ ret : Int32, v = some (.int ret) ∧ -ret.toInt - 3 ≤ 0 ∧ ret.toInt ≤ 0
set_option maxRecDepth 10000 in
set_option maxHeartbeats 4000000 in
theorem c_308 (σ0 : SG) (hσ0 : WT σ0) (a : Int32) (b : Int32) (c : Int32) : En 2 45 none mr_308 (P_308 σ0 a b c) 0 [(0, .ref 159), (1, .int a), (2, .int b), (3, .int c)] [] σ0 := by
  have hF0 : Fr [(53, 0), (54, 0), (55, 0)] σ0 σ0 := Fr_rfl
  refine En_Ps 1 (pc' := 1) (lv' := [(0, .ref 159), (1, .int a), (2, .int b), (3, .int c)]) (st' := [.int a]) rfl ?_
  refine En_callS rfl rfl rfl rfl rfl rfl rfl rfl rfl (c_266 σ0 hσ0 a) (by decide) (by decide) (fun v2 σ3 h1 => ?_)
  obtain ⟨h4, h5, z7, rfl, h6⟩ := h1
  have h8 := Fr_trans hF0 h5 (by decide +kernel)
  refine En_iEq _ rfl rfl (fun h9 => ?_) (fun h9 => ?_)
  · refine En_Ps 1 (pc' := 27) (lv' := [(0, .ref 159), (1, .int a), (2, .int b), (3, .int c)]) (st' := [.int (((Int8.ofInt (-2)).toInt32))]) rfl ?_
    refine En_top (by decide : ((Int8.ofInt (-2)).toInt32).toInt = -2) (fun z10 h11 => ?_)
    exact En_ret (v := some (.int z10)) rfl rfl rfl ⟨h4, h8, z10, rfl, (by omega)⟩
  · refine En_Ps 4 (pc' := 13) (lv' := [(0, .ref 159), (1, .int a), (2, .int b), (3, .int c)]) (st' := [.long ((3 : Int64)), .long ((Int64.ofNat 0)), .long b.toInt64]) rfl ?_
    have : b.toInt64.toInt = b.toInt := (i2lI rfl)
    have := (by decide : ((Int64.ofNat 0)).toInt = 0)
    have := (by decide : ((3 : Int64)).toInt = 3)
    refine En_callS rfl rfl rfl rfl rfl rfl rfl rfl rfl (c_249 σ3 h4 b.toInt64 ((Int64.ofNat 0)) ((3 : Int64))) (by decide) (by decide) (fun v13 σ14 h12 => ?_)
    obtain ⟨h15, h16, z18, rfl, h17⟩ := h12
    have h19 := Fr_trans h8 h16 (by decide +kernel)
    refine En_iEq _ rfl rfl (fun h20 => ?_) (fun h20 => ?_)
    · refine En_Ps 1 (pc' := 27) (lv' := [(0, .ref 159), (1, .int a), (2, .int b), (3, .int c)]) (st' := [.int (((Int8.ofInt (-2)).toInt32))]) rfl ?_
      refine En_top (by decide : ((Int8.ofInt (-2)).toInt32).toInt = -2) (fun z21 h22 => ?_)
      exact En_ret (v := some (.int z21)) rfl rfl rfl ⟨h15, h19, z21, rfl, (by omega)⟩
    · refine En_Ps 2 (pc' := 22) (lv' := [(0, .ref 159), (1, .int a), (2, .int b), (3, .int c)]) (st' := [.int (((Int8.ofInt 60).toInt32)), .int c]) rfl ?_
      refine En_icLe _ rfl (by decide : ((Int8.ofInt 60).toInt32).toInt = 60) rfl (fun h23 => ?_) (fun h23 => ?_)
      · refine En_Ps 1 (pc' := 29) (lv' := [(0, .ref 159), (1, .int a), (2, .int b), (3, .int c)]) (st' := [.int c]) rfl ?_
        refine En_iGe _ rfl rfl (fun h24 => ?_) (fun h24 => ?_)
        · refine En_Ps 1 (pc' := 36) (lv' := [(0, .ref 159), (1, .int a), (2, .int b), (3, .int c)]) (st' := [.ref 159]) rfl ?_
          refine En_getU (j := 32) (u := 177) (g' := 53) (q := 0) rfl rfl rfl (by decide +kernel : TG 159 = 35) (by decide +kernel) h15 (by decide +kernel) (by decide +kernel) (fun h25 => ?_)
          refine En_Ps 2 (pc' := 41) (lv' := [(0, .ref 159), (1, .int a), (2, .int b), (3, .int c)]) (st' := [.int c, .int a, .ref 177]) rfl ?_
          refine En_iast (l := (-1)) (u := 60) rfl rfl (by decide +kernel : TG 177 = 53) (by decide +kernel) (by omega) (lnI (by decide +kernel : LN _ = 4) (by omega)) (FTsgl (by decide +kernel)) (rngI rfl (by omega) (by omega)) h15 h19 (by decide +kernel) (fun σ27 h28 h29 h30 h31 => ?_)
          refine En_Ps 1 (pc' := 43) (lv' := [(0, .ref 159), (1, .int a), (2, .int b), (3, .int c)]) (st' := [.ref 159]) rfl ?_
          refine En_getU (j := 33) (u := 178) (g' := 54) (q := 0) rfl rfl rfl (by decide +kernel : TG 159 = 35) (by decide +kernel) h28 (by decide +kernel) (by decide +kernel) (fun h32 => ?_)
          refine En_Ps 2 (pc' := 48) (lv' := [(0, .ref 159), (1, .int a), (2, .int b), (3, .int c)]) (st' := [.int b, .int a, .ref 178]) rfl ?_
          refine En_iast (l := 0) (u := 3) rfl rfl (by decide +kernel : TG 178 = 54) (by decide +kernel) (by omega) (lnI (by decide +kernel : LN _ = 4) (by omega)) (FTsgl (by decide +kernel)) (rngI rfl (by omega) (by omega)) h28 h29 (by decide +kernel) (fun σ34 h35 h36 h37 h38 => ?_)
          refine En_Ps 2 (pc' := 52) (lv' := [(4, .int ((Int32.ofInt 0))), (0, .ref 159), (1, .int a), (2, .int b), (3, .int c)]) (st' := []) rfl ?_
          have key52 : ∀ (n52 : Nat) (σ40 : SG) (y39 : Int32), WT σ40 → Fr [(53, 0), (54, 0), (55, 0)] σ0 σ40 → (σ40 159)[32]? = some (.ref 177) → (σ40 159)[33]? = some (.ref 178) → 0 ≤ y39.toInt → y39.toInt ≤ 60 → -y39.toInt + 60 < (n52 : Int) → En 2 45 none mr_308 (P_308 σ0 a b c) 52 [(0, .ref 159), (1, .int a), (2, .int b), (3, .int c), (4, .int y39)] [] σ40 := by
            intro n52
            induction n52 with
            | zero =>
              intro σ40 y39 h41 h42 h43 h44 h45 h46 h47
              exfalso; omega
            | succ n52 ih52 =>
              intro σ40 y39 h41 h42 h43 h44 h45 h46 h47
              refine En_Ps 2 (pc' := 56) (lv' := [(0, .ref 159), (1, .int a), (2, .int b), (3, .int c), (4, .int y39)]) (st' := [.int (((Int8.ofInt 60).toInt32)), .int y39]) rfl ?_
              refine En_icGe _ rfl (by decide : ((Int8.ofInt 60).toInt32).toInt = 60) rfl (fun h48 => ?_) (fun h48 => ?_)
              · refine En_Ps 1 (pc' := 79) (lv' := [(0, .ref 159), (1, .int a), (2, .int b), (3, .int c), (4, .int y39)]) (st' := [.int ((Int32.ofInt 0))]) rfl ?_
                refine En_top (by decide : (Int32.ofInt 0).toInt = 0) (fun z49 h50 => ?_)
                exact En_ret (v := some (.int z49)) rfl rfl rfl ⟨h41, h42, z49, rfl, (by omega)⟩
              · refine En_Ps 1 (pc' := 60) (lv' := [(0, .ref 159), (1, .int a), (2, .int b), (3, .int c), (4, .int y39)]) (st' := [.ref 159]) rfl ?_
                refine En_getU (j := 34) (u := 179) (g' := 55) (q := 0) rfl rfl rfl (by decide +kernel : TG 159 = 35) (by decide +kernel) h41 (by decide +kernel) (by decide +kernel) (fun h51 => ?_)
                refine En_Ps 3 (pc' := 67) (lv' := [(0, .ref 159), (1, .int a), (2, .int b), (3, .int c), (4, .int y39)]) (st' := [.int (((((Int8.ofInt 60).toInt32)) * a)), .ref 179]) rfl ?_
                refine En_top (mulI (by decide : ((Int8.ofInt 60).toInt32).toInt = 60) rfl (Z := 60 * a.toInt) (by omega) (by omega) (by omega)) (fun z53 h54 => ?_)
                refine En_Ps 2 (pc' := 70) (lv' := [(0, .ref 159), (1, .int a), (2, .int b), (3, .int c), (4, .int y39)]) (st' := [.int ((z53 + y39)), .ref 179]) rfl ?_
                refine En_top (addI rfl rfl (by omega) (by omega)) (fun z55 h56 => ?_)
                refine En_Ps 1 (pc' := 71) (lv' := [(0, .ref 159), (1, .int a), (2, .int b), (3, .int c), (4, .int y39)]) (st' := [.long ((Int64.ofNat 0)), .int z55, .ref 179]) rfl ?_
                refine En_last (l := (-9223372036854775808)) (u := 9223372036854775807) rfl rfl (by decide +kernel : TG 179 = 55) (by decide +kernel) (by omega) (lnI (by decide +kernel : LN _ = 240) (by omega)) (FTsgl (by decide +kernel)) (fullL _) h41 h42 (by decide +kernel) (fun σ57 h58 h59 h60 h61 => ?_)
                refine En_Ps 1 (pc' := 75) (lv' := [(4, .int ((y39 + Int32.ofInt 1))), (0, .ref 159), (1, .int a), (2, .int b), (3, .int c)]) (st' := []) rfl ?_
                refine En_lv1 (addI rfl (by decide : (Int32.ofInt 1).toInt = 1) (by omega) (by omega)) (fun z62 h63 => ?_)
                refine En_Ps 1 (pc' := 52) (lv' := [(4, .int z62), (0, .ref 159), (1, .int a), (2, .int b), (3, .int c)]) (st' := []) rfl ?_
                refine En_lv (lv := [(0, .ref 159), (1, .int a), (2, .int b), (3, .int c), (4, .int z62)]) ⟨rfl, rfl, rfl, rfl, rfl, trivial⟩ ?_
                exact ih52 σ57 z62 h58 h59 ((h61 _ _ (Or.inl (neTG (by decide +kernel : TG 159 = 35) (by decide +kernel : TG 179 = 55) (by decide)))).trans h43) ((h61 _ _ (Or.inl (neTG (by decide +kernel : TG 159 = 35) (by decide +kernel : TG 179 = 55) (by decide)))).trans h44) (by omega) (by omega) (by omega)
          have := (by decide : (Int32.ofInt 0).toInt = 0)
          refine En_lv (lv := [(0, .ref 159), (1, .int a), (2, .int b), (3, .int c), (4, .int ((Int32.ofInt 0)))]) ⟨rfl, rfl, rfl, rfl, rfl, trivial⟩ ?_
          exact key52 (Int.toNat (60) + 1) σ34 ((Int32.ofInt 0)) h35 h36 ((h38 _ _ (Or.inl (neTG (by decide +kernel : TG 159 = 35) (by decide +kernel : TG 178 = 54) (by decide)))).trans ((h31 _ _ (Or.inl (neTG (by decide +kernel : TG 159 = 35) (by decide +kernel : TG 177 = 53) (by decide)))).trans h25)) ((h38 _ _ (Or.inl (neTG (by decide +kernel : TG 159 = 35) (by decide +kernel : TG 178 = 54) (by decide)))).trans h32) (by omega) (by omega) (by omega)
        · refine En_Ps 1 (pc' := 34) (lv' := [(0, .ref 159), (1, .int a), (2, .int b), (3, .int c)]) (st' := [.int (((Int8.ofInt (-3)).toInt32))]) rfl ?_
          refine En_top (by decide : ((Int8.ofInt (-3)).toInt32).toInt = -3) (fun z64 h65 => ?_)
          exact En_ret (v := some (.int z64)) rfl rfl rfl ⟨h15, h19, z64, rfl, (by omega)⟩
      · refine En_Ps 1 (pc' := 27) (lv' := [(0, .ref 159), (1, .int a), (2, .int b), (3, .int c)]) (st' := [.int (((Int8.ofInt (-2)).toInt32))]) rfl ?_
        refine En_top (by decide : ((Int8.ofInt (-2)).toInt32).toInt = -2) (fun z66 h67 => ?_)
        exact En_ret (v := some (.int z66)) rfl rfl rfl ⟨h15, h19, z66, rfl, (by omega)⟩
/-- DoorSchoolModel.rule(II)I -/
abbrev P_309 (σ0 : SG) (a : Int32) (b : Int32) : PO := fun v σ => WT σ ∧ Fr [(35, 18), (35, 21), (42, 0), (43, 0), (44, 0), (45, 0), (46, 0)] σ0 σ ∧ ∃ ret : Int32, v = some (.int ret) ∧ -ret.toInt - 2 ≤ 0 ∧ ret.toInt - 80 ≤ 0
set_option maxRecDepth 10000 in
set_option maxHeartbeats 4000000 in
theorem c_309 (σ0 : SG) (hσ0 : WT σ0) (a : Int32) (b : Int32) : En 4 87 none mr_309 (P_309 σ0 a b) 0 [(0, .ref 159), (1, .int a), (2, .int b)] [] σ0 := by
  have hF0 : Fr [(35, 18), (35, 21), (42, 0), (43, 0), (44, 0), (45, 0), (46, 0)] σ0 σ0 := Fr_rfl
  refine En_Ps 2 (pc' := 2) (lv' := [(0, .ref 159), (1, .int a), (2, .int b)]) (st' := [.int a, .ref 159]) rfl ?_
  obtain ⟨z2, h1, h3, h4⟩ := WT_peekI hσ0 (by decide +kernel : TG 160 = 36) (by decide +kernel : FT 36 (2 : Int).toNat = (0, 0, 4)) (by decide +kernel)
  refine En_callV rfl rfl rfl rfl rfl rfl rfl rfl (by decide +kernel : TG 159 = 35) (by decide +kernel) rfl (c_254 σ0 hσ0 a z2 h1) (by decide) (by decide) (fun v6 σ7 h5 => ?_)
  obtain ⟨h8, h9, z11, rfl, h10⟩ := h5
  have h12 := Fr_trans hF0 h9 (by decide +kernel)
  refine En_iEq _ rfl rfl (fun h13 => ?_) (fun h13 => ?_)
  · refine En_Ps 1 (pc' := 22) (lv' := [(0, .ref 159), (1, .int a), (2, .int b)]) (st' := [.int (((Int8.ofInt (-2)).toInt32))]) rfl ?_
    refine En_top (by decide : ((Int8.ofInt (-2)).toInt32).toInt = -2) (fun z14 h15 => ?_)
    exact En_ret (v := some (.int z14)) rfl rfl rfl ⟨h8, h12, z14, rfl, (by omega)⟩
  · refine En_Ps 4 (pc' := 14) (lv' := [(0, .ref 159), (1, .int a), (2, .int b)]) (st' := [.long ((2 : Int64)), .long ((Int64.ofNat 0)), .long b.toInt64]) rfl ?_
    have : b.toInt64.toInt = b.toInt := (i2lI rfl)
    have := (by decide : ((Int64.ofNat 0)).toInt = 0)
    have := (by decide : ((2 : Int64)).toInt = 2)
    refine En_callS rfl rfl rfl rfl rfl rfl rfl rfl rfl (c_249 σ7 h8 b.toInt64 ((Int64.ofNat 0)) ((2 : Int64))) (by decide) (by decide) (fun v17 σ18 h16 => ?_)
    obtain ⟨h19, h20, z22, rfl, h21⟩ := h16
    have h23 := Fr_trans h12 h20 (by decide +kernel)
    refine En_iNe _ rfl rfl (fun h24 => ?_) (fun h24 => ?_)
    · refine En_Ps 1 (pc' := 24) (lv' := [(0, .ref 159), (1, .int a), (2, .int b)]) (st' := [.ref 159]) rfl ?_
      obtain ⟨z26, h25, h27, h28⟩ := WT_peekI h19 (by decide +kernel : TG 160 = 36) (by decide +kernel : FT 36 (0 : Int).toNat = (0, 0, 4)) (by decide +kernel)
      obtain ⟨z30, h29, h31, h32⟩ := WT_peekI h19 (by decide +kernel : TG 160 = 36) (by decide +kernel : FT 36 (7 : Int).toNat = (0, 0, 1600)) (by decide +kernel)
      refine En_callV rfl rfl rfl rfl rfl rfl rfl rfl (by decide +kernel : TG 159 = 35) (by decide +kernel) rfl (c_272 σ18 h19 z26 h25 z30 h29) (by decide) (by decide) (fun v34 σ35 h33 => ?_)
      obtain ⟨h36, h37, rfl, h38⟩ := h33
      have h39 := Fr_trans h23 h37 (by decide +kernel)
      refine En_Ps 2 (pc' := 29) (lv' := [(0, .ref 159), (1, .int a), (2, .int b)]) (st' := [.int a, .ref 159]) rfl ?_
      refine En_callV rfl rfl rfl rfl rfl rfl rfl rfl (by decide +kernel : TG 159 = 35) (by decide +kernel) rfl (c_271 σ35 h36 a (geI rfl (by omega)) (leI rfl (by omega))) (by decide) (by decide) (fun v41 σ42 h40 => ?_)
      obtain ⟨h43, h44, z46, h47, rfl, h45⟩ := h40
      have h48 := Fr_trans h39 h44 (by decide +kernel)
      refine En_Ps 1 (pc' := 33) (lv' := [(0, .ref 159), (1, .int a), (2, .int b)]) (st' := [.ref 159]) rfl ?_
      refine En_callV rfl rfl rfl rfl rfl rfl rfl rfl (by decide +kernel : TG 159 = 35) (by decide +kernel) rfl (c_229 σ42 h43) (by decide) (by decide) (fun v50 σ51 h49 => ?_)
      obtain ⟨h52, h53, z55, rfl, h54⟩ := h49
      have h56 := Fr_trans h48 h53 (by decide +kernel)
      refine En_Ps 3 (pc' := 39) (lv' := [(3, .int z55), (0, .ref 159), (1, .int a), (2, .int b)]) (st' := [.int ((Int32.ofInt (-1))), .int z55]) rfl ?_
      refine En_icEq _ rfl (by decide : (Int32.ofInt (-1)).toInt = -1) rfl (fun h57 => ?_) (fun h57 => ?_)
      · refine En_Ps 2 (pc' := 70) (lv' := [(3, .int z55), (0, .ref 159), (1, .int a), (2, .int b)]) (st' := [.int z55]) rfl ?_
        exact En_ret (v := some (.int z55)) rfl rfl rfl ⟨h52, h56, z55, rfl, (by omega)⟩
      · refine En_Ps 2 (pc' := 44) (lv' := [(3, .int z55), (0, .ref 159), (1, .int a), (2, .int b)]) (st' := [.int ((Int32.ofInt 2)), .int b]) rfl ?_
        refine En_icNe _ rfl (by decide : (Int32.ofInt 2).toInt = 2) rfl (fun h58 => ?_) (fun h58 => ?_)
        · refine En_Ps 1 (pc' := 52) (lv' := [(3, .int z55), (0, .ref 159), (1, .int a), (2, .int b)]) (st' := [.int b]) rfl ?_
          refine En_iNe _ rfl rfl (fun h59 => ?_) (fun h59 => ?_)
          · refine En_Ps 1 (pc' := 65) (lv' := [(3, .int z55), (0, .ref 159), (1, .int a), (2, .int b)]) (st' := [.ref 159]) rfl ?_
            refine En_getU (j := 16) (u := 167) (g' := 43) (q := 0) rfl rfl rfl (by decide +kernel : TG 159 = 35) (by decide +kernel) h52 (by decide +kernel) (by decide +kernel) (fun h60 => ?_)
            refine En_Ps 1 (pc' := 69) (lv' := [(3, .int z55), (0, .ref 159), (1, .int a), (2, .int b)]) (st' := [.int z55, .ref 167]) rfl ?_
            refine En_iald (l := 0) (u := 15) rfl rfl (by decide +kernel : TG 167 = 43) (by decide +kernel) h52 (by omega) (lnI (by decide +kernel : LN _ = 81) (by omega)) (FTsgl (by decide +kernel)) (fun z63 h62 h64 h65 => ?_)
            exact En_ret (v := some (.int z63)) rfl rfl rfl ⟨h52, h56, z63, rfl, (by omega)⟩
          · refine En_Ps 1 (pc' := 56) (lv' := [(3, .int z55), (0, .ref 159), (1, .int a), (2, .int b)]) (st' := [.ref 159]) rfl ?_
            refine En_getU (j := 15) (u := 166) (g' := 42) (q := 0) rfl rfl rfl (by decide +kernel : TG 159 = 35) (by decide +kernel) h52 (by decide +kernel) (by decide +kernel) (fun h66 => ?_)
            refine En_Ps 1 (pc' := 60) (lv' := [(3, .int z55), (0, .ref 159), (1, .int a), (2, .int b)]) (st' := [.int z55, .ref 166]) rfl ?_
            refine En_iald (l := 0) (u := 15) rfl rfl (by decide +kernel : TG 166 = 42) (by decide +kernel) h52 (by omega) (lnI (by decide +kernel : LN _ = 81) (by omega)) (FTsgl (by decide +kernel)) (fun z69 h68 h70 h71 => ?_)
            refine En_Ps 1 (pc' := 70) (lv' := [(3, .int z55), (0, .ref 159), (1, .int a), (2, .int b)]) (st' := [.int z69]) rfl ?_
            exact En_ret (v := some (.int z69)) rfl rfl rfl ⟨h52, h56, z69, rfl, (by omega)⟩
        · refine En_Ps 2 (pc' := 70) (lv' := [(3, .int z55), (0, .ref 159), (1, .int a), (2, .int b)]) (st' := [.int z55]) rfl ?_
          exact En_ret (v := some (.int z55)) rfl rfl rfl ⟨h52, h56, z55, rfl, (by omega)⟩
    · refine En_Ps 1 (pc' := 22) (lv' := [(0, .ref 159), (1, .int a), (2, .int b)]) (st' := [.int (((Int8.ofInt (-2)).toInt32))]) rfl ?_
      refine En_top (by decide : ((Int8.ofInt (-2)).toInt32).toInt = -2) (fun z72 h73 => ?_)
      exact En_ret (v := some (.int z72)) rfl rfl rfl ⟨h19, h23, z72, rfl, (by omega)⟩
/-- DoorSchoolModel.rules(I)I -/
abbrev P_310 (σ0 : SG) (a : Int32) : PO := fun v σ => WT σ ∧ Fr [(35, 18), (35, 21), (42, 0), (43, 0), (44, 0), (45, 0), (46, 0)] σ0 σ ∧ ∃ ret : Int32, v = some (.int ret) ∧ -ret.toInt - 2 ≤ 0 ∧ ret.toInt - 81 ≤ 0
set_option maxRecDepth 10000 in
set_option maxHeartbeats 4000000 in
theorem c_310 (σ0 : SG) (hσ0 : WT σ0) (a : Int32) : En 4 87 none mr_310 (P_310 σ0 a) 0 [(0, .ref 159), (1, .int a)] [] σ0 := by
  have hF0 : Fr [(35, 18), (35, 21), (42, 0), (43, 0), (44, 0), (45, 0), (46, 0)] σ0 σ0 := Fr_rfl
  refine En_Ps 2 (pc' := 2) (lv' := [(0, .ref 159), (1, .int a)]) (st' := [.int a, .ref 159]) rfl ?_
  obtain ⟨z2, h1, h3, h4⟩ := WT_peekI hσ0 (by decide +kernel : TG 160 = 36) (by decide +kernel : FT 36 (2 : Int).toNat = (0, 0, 4)) (by decide +kernel)
  refine En_callV rfl rfl rfl rfl rfl rfl rfl rfl (by decide +kernel : TG 159 = 35) (by decide +kernel) rfl (c_254 σ0 hσ0 a z2 h1) (by decide) (by decide) (fun v6 σ7 h5 => ?_)
  obtain ⟨h8, h9, z11, rfl, h10⟩ := h5
  have h12 := Fr_trans hF0 h9 (by decide +kernel)
  refine En_iNe _ rfl rfl (fun h13 => ?_) (fun h13 => ?_)
  · refine En_Ps 1 (pc' := 12) (lv' := [(0, .ref 159), (1, .int a)]) (st' := [.ref 159]) rfl ?_
    obtain ⟨z15, h14, h16, h17⟩ := WT_peekI h8 (by decide +kernel : TG 160 = 36) (by decide +kernel : FT 36 (0 : Int).toNat = (0, 0, 4)) (by decide +kernel)
    obtain ⟨z19, h18, h20, h21⟩ := WT_peekI h8 (by decide +kernel : TG 160 = 36) (by decide +kernel : FT 36 (7 : Int).toNat = (0, 0, 1600)) (by decide +kernel)
    refine En_callV rfl rfl rfl rfl rfl rfl rfl rfl (by decide +kernel : TG 159 = 35) (by decide +kernel) rfl (c_272 σ7 h8 z15 h14 z19 h18) (by decide) (by decide) (fun v23 σ24 h22 => ?_)
    obtain ⟨h25, h26, rfl, h27⟩ := h22
    have h28 := Fr_trans h12 h26 (by decide +kernel)
    refine En_Ps 2 (pc' := 17) (lv' := [(0, .ref 159), (1, .int a)]) (st' := [.int a, .ref 159]) rfl ?_
    refine En_callV rfl rfl rfl rfl rfl rfl rfl rfl (by decide +kernel : TG 159 = 35) (by decide +kernel) rfl (c_271 σ24 h25 a (geI rfl (by omega)) (leI rfl (by omega))) (by decide) (by decide) (fun v30 σ31 h29 => ?_)
    obtain ⟨h32, h33, z35, h36, rfl, h34⟩ := h29
    have h37 := Fr_trans h28 h33 (by decide +kernel)
    refine En_Ps 4 (pc' := 24) (lv' := [(3, .int ((Int32.ofInt 0))), (2, .int ((Int32.ofInt 0))), (0, .ref 159), (1, .int a)]) (st' := []) rfl ?_
    have key24 : ∀ (n24 : Nat) (σ40 : SG) (y38 : Int32) (y39 : Int32), WT σ40 → Fr [(35, 18), (35, 21), (42, 0), (43, 0), (44, 0), (45, 0), (46, 0)] σ0 σ40 → (σ40 160)[(2 : Int).toNat]? = some (.int z2) → (σ40 160)[(0 : Int).toNat]? = some (.int z15) → (σ40 160)[(7 : Int).toNat]? = some (.int z19) → (σ40 159)[21]? = some (.int z35) → 0 ≤ y38.toInt → y38.toInt ≤ 81 → 0 ≤ y39.toInt → y39.toInt ≤ 81 → y38.toInt - y39.toInt ≤ 0 → -y39.toInt + 81 < (n24 : Int) → En 4 87 none mr_310 (P_310 σ0 a) 24 [(0, .ref 159), (1, .int a), (2, .int y38), (3, .int y39)] [] σ40 := by
      intro n24
      induction n24 with
      | zero =>
        intro σ40 y38 y39 h41 h42 h43 h44 h45 h46 h47 h48 h49 h50 h51 h52
        exfalso; omega
      | succ n24 ih24 =>
        intro σ40 y38 y39 h41 h42 h43 h44 h45 h46 h47 h48 h49 h50 h51 h52
        refine En_Ps 2 (pc' := 26) (lv' := [(0, .ref 159), (1, .int a), (2, .int y38), (3, .int y39)]) (st' := [.ref 159, .int y39]) rfl ?_
        refine En_getI (j := 18) (l := 0) (u := 81) rfl rfl rfl (by decide +kernel : TG 159 = 35) (by decide +kernel) h41 (by decide +kernel) (fun z54 h53 h55 h56 => ?_)
        refine En_icGe _ rfl rfl rfl (fun h57 => ?_) (fun h57 => ?_)
        · refine En_Ps 1 (pc' := 60) (lv' := [(0, .ref 159), (1, .int a), (2, .int y38), (3, .int y39)]) (st' := [.int y38]) rfl ?_
          exact En_ret (v := some (.int y38)) rfl rfl rfl ⟨h41, h42, y38, rfl, (by omega)⟩
        · refine En_Ps 3 (pc' := 35) (lv' := [(0, .ref 159), (1, .int a), (2, .int y38), (3, .int y39)]) (st' := [.ref 159, .ref 159, .int y38]) rfl ?_
          refine En_getU (j := 17) (u := 168) (g' := 44) (q := 0) rfl rfl rfl (by decide +kernel : TG 159 = 35) (by decide +kernel) h41 (by decide +kernel) (by decide +kernel) (fun h58 => ?_)
          refine En_Ps 1 (pc' := 39) (lv' := [(0, .ref 159), (1, .int a), (2, .int y38), (3, .int y39)]) (st' := [.int y39, .ref 168, .ref 159, .int y38]) rfl ?_
          refine En_iald (l := (-2147483648)) (u := 2147483647) rfl rfl (by decide +kernel : TG 168 = 44) (by decide +kernel) h41 (by omega) (lnI (by decide +kernel : LN _ = 81) (by omega)) (FTsgl (by decide +kernel)) (fun z61 h60 h62 h63 => ?_)
          refine En_callV rfl rfl rfl rfl rfl rfl rfl rfl (by decide +kernel : TG 159 = 35) (by decide +kernel) rfl (c_252 σ40 h41 z61) (by decide) (by decide) (fun v65 σ66 h64 => ?_)
          obtain ⟨h67, h68, z70, rfl, h69⟩ := h64
          have h71 := Fr_trans h42 h68 (by decide +kernel)
          refine En_iEq _ rfl rfl (fun h72 => ?_) (fun h72 => ?_)
          · refine En_Ps 2 (pc' := 52) (lv' := [(0, .ref 159), (1, .int a), (2, .int y38), (3, .int y39)]) (st' := [.int ((y38 + ((Int32.ofInt 0))))]) rfl ?_
            refine En_top (addI rfl (by decide : (Int32.ofInt 0).toInt = 0) (by omega) (by omega)) (fun z73 h74 => ?_)
            refine En_Ps 2 (pc' := 56) (lv' := [(3, .int ((y39 + Int32.ofInt 1))), (2, .int z73), (0, .ref 159), (1, .int a)]) (st' := []) rfl ?_
            refine En_lv1 (addI rfl (by decide : (Int32.ofInt 1).toInt = 1) (by omega) (by omega)) (fun z75 h76 => ?_)
            refine En_Ps 1 (pc' := 24) (lv' := [(3, .int z75), (2, .int z73), (0, .ref 159), (1, .int a)]) (st' := []) rfl ?_
            refine En_lv (lv := [(0, .ref 159), (1, .int a), (2, .int z73), (3, .int z75)]) ⟨rfl, rfl, rfl, rfl, trivial⟩ ?_
            exact ih24 σ66 z73 z75 h67 h71 ((h68 _ _ (inWa (by decide +kernel : TG 160 = 36) (by decide +kernel))).trans h43) ((h68 _ _ (inWa (by decide +kernel : TG 160 = 36) (by decide +kernel))).trans h44) ((h68 _ _ (inWa (by decide +kernel : TG 160 = 36) (by decide +kernel))).trans h45) ((h68 _ _ (inW (by decide +kernel : TG 159 = 35) (by decide +kernel))).trans h46) (by omega) (by omega) (by omega) (by omega) (by omega) (by omega)
          · refine En_Ps 3 (pc' := 52) (lv' := [(0, .ref 159), (1, .int a), (2, .int y38), (3, .int y39)]) (st' := [.int ((y38 + ((Int32.ofInt 1))))]) rfl ?_
            refine En_top (addI rfl (by decide : (Int32.ofInt 1).toInt = 1) (by omega) (by omega)) (fun z77 h78 => ?_)
            refine En_Ps 2 (pc' := 56) (lv' := [(3, .int ((y39 + Int32.ofInt 1))), (2, .int z77), (0, .ref 159), (1, .int a)]) (st' := []) rfl ?_
            refine En_lv1 (addI rfl (by decide : (Int32.ofInt 1).toInt = 1) (by omega) (by omega)) (fun z79 h80 => ?_)
            refine En_Ps 1 (pc' := 24) (lv' := [(3, .int z79), (2, .int z77), (0, .ref 159), (1, .int a)]) (st' := []) rfl ?_
            refine En_lv (lv := [(0, .ref 159), (1, .int a), (2, .int z77), (3, .int z79)]) ⟨rfl, rfl, rfl, rfl, trivial⟩ ?_
            exact ih24 σ66 z77 z79 h67 h71 ((h68 _ _ (inWa (by decide +kernel : TG 160 = 36) (by decide +kernel))).trans h43) ((h68 _ _ (inWa (by decide +kernel : TG 160 = 36) (by decide +kernel))).trans h44) ((h68 _ _ (inWa (by decide +kernel : TG 160 = 36) (by decide +kernel))).trans h45) ((h68 _ _ (inW (by decide +kernel : TG 159 = 35) (by decide +kernel))).trans h46) (by omega) (by omega) (by omega) (by omega) (by omega) (by omega)
    have := (by decide : (Int32.ofInt 0).toInt = 0)
    have := (by decide : (Int32.ofInt 0).toInt = 0)
    refine En_lv (lv := [(0, .ref 159), (1, .int a), (2, .int ((Int32.ofInt 0))), (3, .int ((Int32.ofInt 0)))]) ⟨rfl, rfl, rfl, rfl, trivial⟩ ?_
    exact key24 (Int.toNat (81) + 1) σ31 ((Int32.ofInt 0)) ((Int32.ofInt 0)) h32 h37 ((h33 _ _ (inWa (by decide +kernel : TG 160 = 36) (by decide +kernel))).trans ((h26 _ _ (inWa (by decide +kernel : TG 160 = 36) (by decide +kernel))).trans ((h9 _ _ (inWa (by decide +kernel : TG 160 = 36) (by decide +kernel))).trans h1))) ((h33 _ _ (inWa (by decide +kernel : TG 160 = 36) (by decide +kernel))).trans ((h26 _ _ (inWa (by decide +kernel : TG 160 = 36) (by decide +kernel))).trans h14)) ((h33 _ _ (inWa (by decide +kernel : TG 160 = 36) (by decide +kernel))).trans ((h26 _ _ (inWa (by decide +kernel : TG 160 = 36) (by decide +kernel))).trans h18)) h36 (by omega) (by omega) (by omega) (by omega) (by omega) (by omega)
  · refine En_Ps 1 (pc' := 10) (lv' := [(0, .ref 159), (1, .int a)]) (st' := [.int (((Int8.ofInt (-2)).toInt32))]) rfl ?_
    refine En_top (by decide : ((Int8.ofInt (-2)).toInt32).toInt = -2) (fun z81 h82 => ?_)
    exact En_ret (v := some (.int z81)) rfl rfl rfl ⟨h8, h12, z81, rfl, (by omega)⟩
/-- DoorSchoolModel.sets(III)I -/
abbrev P_314 (σ0 : SG) (a : Int32) (b : Int32) (c : Int32) : PO := fun v σ => WT σ ∧ Fr [(35, 18), (35, 21), (42, 0), (43, 0), (44, 0), (45, 0), (46, 0)] σ0 σ ∧ ∃ ret : Int32, v = some (.int ret) ∧ -ret.toInt - 2 ≤ 0 ∧ ret.toInt - 65536 ≤ 0
set_option maxRecDepth 10000 in
set_option maxHeartbeats 4000000 in
theorem c_314 (σ0 : SG) (hσ0 : WT σ0) (a : Int32) (b : Int32) (c : Int32) : En 5 115 none mr_314 (P_314 σ0 a b c) 0 [(0, .ref 159), (1, .int a), (2, .int b), (3, .int c)] [] σ0 := by
  have hF0 : Fr [(35, 18), (35, 21), (42, 0), (43, 0), (44, 0), (45, 0), (46, 0)] σ0 σ0 := Fr_rfl
  refine En_Ps 1 (pc' := 1) (lv' := [(0, .ref 159), (1, .int a), (2, .int b), (3, .int c)]) (st' := [.int a]) rfl ?_
  refine En_callS rfl rfl rfl rfl rfl rfl rfl rfl rfl (c_268 σ0 hσ0 a) (by decide) (by decide) (fun v2 σ3 h1 => ?_)
  obtain ⟨h4, h5, z7, rfl, h6⟩ := h1
  have h8 := Fr_trans hF0 h5 (by decide +kernel)
  refine En_iEq _ rfl rfl (fun h9 => ?_) (fun h9 => ?_)
  · refine En_Ps 1 (pc' := 29) (lv' := [(0, .ref 159), (1, .int a), (2, .int b), (3, .int c)]) (st' := [.int (((Int8.ofInt (-2)).toInt32))]) rfl ?_
    refine En_top (by decide : ((Int8.ofInt (-2)).toInt32).toInt = -2) (fun z10 h11 => ?_)
    exact En_ret (v := some (.int z10)) rfl rfl rfl ⟨h4, h8, z10, rfl, (by omega)⟩
  · refine En_Ps 2 (pc' := 9) (lv' := [(0, .ref 159), (1, .int a), (2, .int b), (3, .int c)]) (st' := [.int b, .ref 159]) rfl ?_
    refine En_callV rfl rfl rfl rfl rfl rfl rfl rfl (by decide +kernel : TG 159 = 35) (by decide +kernel) rfl (c_195 σ3 h4 b) (by decide) (by decide) (fun v13 σ14 h12 => ?_)
    obtain ⟨h15, h16, z18, rfl, h17⟩ := h12
    have h19 := Fr_trans h8 h16 (by decide +kernel)
    refine En_iEq _ rfl rfl (fun h20 => ?_) (fun h20 => ?_)
    · refine En_Ps 1 (pc' := 29) (lv' := [(0, .ref 159), (1, .int a), (2, .int b), (3, .int c)]) (st' := [.int (((Int8.ofInt (-2)).toInt32))]) rfl ?_
      refine En_top (by decide : ((Int8.ofInt (-2)).toInt32).toInt = -2) (fun z21 h22 => ?_)
      exact En_ret (v := some (.int z21)) rfl rfl rfl ⟨h15, h19, z21, rfl, (by omega)⟩
    · refine En_Ps 4 (pc' := 21) (lv' := [(0, .ref 159), (1, .int a), (2, .int b), (3, .int c)]) (st' := [.long ((16 : Int64)), .long ((Int64.ofNat 0)), .long c.toInt64]) rfl ?_
      have : c.toInt64.toInt = c.toInt := (i2lI rfl)
      have := (by decide : ((Int64.ofNat 0)).toInt = 0)
      have := (by decide : ((16 : Int64)).toInt = 16)
      refine En_callS rfl rfl rfl rfl rfl rfl rfl rfl rfl (c_249 σ14 h15 c.toInt64 ((Int64.ofNat 0)) ((16 : Int64))) (by decide) (by decide) (fun v24 σ25 h23 => ?_)
      obtain ⟨h26, h27, z29, rfl, h28⟩ := h23
      have h30 := Fr_trans h19 h27 (by decide +kernel)
      refine En_iNe _ rfl rfl (fun h31 => ?_) (fun h31 => ?_)
      · refine En_Ps 1 (pc' := 31) (lv' := [(0, .ref 159), (1, .int a), (2, .int b), (3, .int c)]) (st' := [.ref 159]) rfl ?_
        obtain ⟨z33, h32, h34, h35⟩ := WT_peekI h26 (by decide +kernel : TG 160 = 36) (by decide +kernel : FT 36 (0 : Int).toNat = (0, 0, 4)) (by decide +kernel)
        obtain ⟨z37, h36, h38, h39⟩ := WT_peekI h26 (by decide +kernel : TG 160 = 36) (by decide +kernel : FT 36 (7 : Int).toNat = (0, 0, 1600)) (by decide +kernel)
        refine En_callV rfl rfl rfl rfl rfl rfl rfl rfl (by decide +kernel : TG 159 = 35) (by decide +kernel) rfl (c_272 σ25 h26 z33 h32 z37 h36) (by decide) (by decide) (fun v41 σ42 h40 => ?_)
        obtain ⟨h43, h44, rfl, h45⟩ := h40
        have h46 := Fr_trans h30 h44 (by decide +kernel)
        refine En_Ps 4 (pc' := 40) (lv' := [(5, .int ((Int32.ofInt 0))), (4, .int ((Int32.ofInt 0))), (0, .ref 159), (1, .int a), (2, .int b), (3, .int c)]) (st' := []) rfl ?_
        have key40 : ∀ (n40 : Nat) (σ49 : SG) (y47 : Int32) (y48 : Int32), WT σ49 → Fr [(35, 18), (35, 21), (42, 0), (43, 0), (44, 0), (45, 0), (46, 0)] σ0 σ49 → (σ49 160)[(0 : Int).toNat]? = some (.int z33) → (σ49 160)[(7 : Int).toNat]? = some (.int z37) → 0 ≤ y47.toInt → y47.toInt ≤ 65536 → 0 ≤ y48.toInt → y48.toInt ≤ 65536 → y47.toInt - y48.toInt ≤ 0 → -y48.toInt + 65536 < (n40 : Int) → En 5 115 none mr_314 (P_314 σ0 a b c) 40 [(0, .ref 159), (1, .int a), (2, .int b), (3, .int c), (4, .int y47), (5, .int y48)] [] σ49 := by
          intro n40
          induction n40 with
          | zero =>
            intro σ49 y47 y48 h50 h51 h52 h53 h54 h55 h56 h57 h58 h59
            exfalso; omega
          | succ n40 ih40 =>
            intro σ49 y47 y48 h50 h51 h52 h53 h54 h55 h56 h57 h58 h59
            refine En_Ps 2 (pc' := 43) (lv' := [(0, .ref 159), (1, .int a), (2, .int b), (3, .int c), (4, .int y47), (5, .int y48)]) (st' := [.ref 159, .int y48]) rfl ?_
            refine En_callV rfl rfl rfl rfl rfl rfl rfl rfl (by decide +kernel : TG 159 = 35) (by decide +kernel) rfl (c_192 σ49 h50) (by decide) (by decide) (fun v61 σ62 h60 => ?_)
            obtain ⟨h63, h64, z66, rfl, h65⟩ := h60
            have h67 := Fr_trans h51 h64 (by decide +kernel)
            refine En_icGt _ rfl rfl rfl (fun h68 => ?_) (fun h68 => ?_)
            · refine En_Ps 1 (pc' := 87) (lv' := [(0, .ref 159), (1, .int a), (2, .int b), (3, .int c), (4, .int y47), (5, .int y48)]) (st' := [.int y47]) rfl ?_
              exact En_ret (v := some (.int y47)) rfl rfl rfl ⟨h63, h67, y47, rfl, (by omega)⟩
            · refine En_Ps 2 (pc' := 53) (lv' := [(0, .ref 159), (1, .int a), (2, .int b), (3, .int c), (4, .int y47), (5, .int y48)]) (st' := [.int y48, .int y47]) rfl ?_
              refine En_callS rfl rfl rfl rfl rfl rfl rfl rfl rfl (c_203b σ62 h63 y48) (by decide) (by decide) (fun v70 σ71 h69 => ?_)
              obtain ⟨h72, h73, z75, rfl, h74⟩ := h69
              have h76 := Fr_trans h67 h73 (by decide +kernel)
              refine En_Ps 1 (pc' := 57) (lv' := [(0, .ref 159), (1, .int a), (2, .int b), (3, .int c), (4, .int y47), (5, .int y48)]) (st' := [.int c, .int z75, .int y47]) rfl ?_
              refine En_icNe _ rfl rfl rfl (fun h77 => ?_) (fun h77 => ?_)
              · refine En_Ps 2 (pc' := 77) (lv' := [(0, .ref 159), (1, .int a), (2, .int b), (3, .int c), (4, .int y47), (5, .int y48)]) (st' := [.int ((y47 + ((Int32.ofInt 0))))]) rfl ?_
                refine En_top (addI rfl (by decide : (Int32.ofInt 0).toInt = 0) (by omega) (by omega)) (fun z78 h79 => ?_)
                refine En_Ps 2 (pc' := 82) (lv' := [(5, .int ((y48 + Int32.ofInt 1))), (4, .int z78), (0, .ref 159), (1, .int a), (2, .int b), (3, .int c)]) (st' := []) rfl ?_
                refine En_lv1 (addI rfl (by decide : (Int32.ofInt 1).toInt = 1) (by omega) (by omega)) (fun z80 h81 => ?_)
                refine En_Ps 1 (pc' := 40) (lv' := [(5, .int z80), (4, .int z78), (0, .ref 159), (1, .int a), (2, .int b), (3, .int c)]) (st' := []) rfl ?_
                refine En_lv (lv := [(0, .ref 159), (1, .int a), (2, .int b), (3, .int c), (4, .int z78), (5, .int z80)]) ⟨rfl, rfl, rfl, rfl, rfl, rfl, trivial⟩ ?_
                exact ih40 σ71 z78 z80 h72 h76 ((h73 _ _ (inWa (by decide +kernel : TG 160 = 36) (by decide +kernel))).trans ((h64 _ _ (inWa (by decide +kernel : TG 160 = 36) (by decide +kernel))).trans h52)) ((h73 _ _ (inWa (by decide +kernel : TG 160 = 36) (by decide +kernel))).trans ((h64 _ _ (inWa (by decide +kernel : TG 160 = 36) (by decide +kernel))).trans h53)) (by omega) (by omega) (by omega) (by omega) (by omega) (by omega)
              · refine En_Ps 4 (pc' := 65) (lv' := [(0, .ref 159), (1, .int a), (2, .int b), (3, .int c), (4, .int y47), (5, .int y48)]) (st' := [.int b, .int y48, .int a, .ref 159, .int y47]) rfl ?_
                refine En_callV rfl rfl rfl rfl rfl rfl rfl rfl (by decide +kernel : TG 159 = 35) (by decide +kernel) rfl (c_275 σ71 h72 a y48 b) (by decide) (by decide) (fun v83 σ84 h82 => ?_)
                obtain ⟨h85, h86, z88, rfl, h87⟩ := h82
                have h89 := Fr_trans h76 h86 (by decide +kernel)
                refine En_iEq _ rfl rfl (fun h90 => ?_) (fun h90 => ?_)
                · refine En_Ps 2 (pc' := 77) (lv' := [(0, .ref 159), (1, .int a), (2, .int b), (3, .int c), (4, .int y47), (5, .int y48)]) (st' := [.int ((y47 + ((Int32.ofInt 0))))]) rfl ?_
                  refine En_top (addI rfl (by decide : (Int32.ofInt 0).toInt = 0) (by omega) (by omega)) (fun z91 h92 => ?_)
                  refine En_Ps 2 (pc' := 82) (lv' := [(5, .int ((y48 + Int32.ofInt 1))), (4, .int z91), (0, .ref 159), (1, .int a), (2, .int b), (3, .int c)]) (st' := []) rfl ?_
                  refine En_lv1 (addI rfl (by decide : (Int32.ofInt 1).toInt = 1) (by omega) (by omega)) (fun z93 h94 => ?_)
                  refine En_Ps 1 (pc' := 40) (lv' := [(5, .int z93), (4, .int z91), (0, .ref 159), (1, .int a), (2, .int b), (3, .int c)]) (st' := []) rfl ?_
                  refine En_lv (lv := [(0, .ref 159), (1, .int a), (2, .int b), (3, .int c), (4, .int z91), (5, .int z93)]) ⟨rfl, rfl, rfl, rfl, rfl, rfl, trivial⟩ ?_
                  exact ih40 σ84 z91 z93 h85 h89 ((h86 _ _ (inWa (by decide +kernel : TG 160 = 36) (by decide +kernel))).trans ((h73 _ _ (inWa (by decide +kernel : TG 160 = 36) (by decide +kernel))).trans ((h64 _ _ (inWa (by decide +kernel : TG 160 = 36) (by decide +kernel))).trans h52))) ((h86 _ _ (inWa (by decide +kernel : TG 160 = 36) (by decide +kernel))).trans ((h73 _ _ (inWa (by decide +kernel : TG 160 = 36) (by decide +kernel))).trans ((h64 _ _ (inWa (by decide +kernel : TG 160 = 36) (by decide +kernel))).trans h53))) (by omega) (by omega) (by omega) (by omega) (by omega) (by omega)
                · refine En_Ps 3 (pc' := 77) (lv' := [(0, .ref 159), (1, .int a), (2, .int b), (3, .int c), (4, .int y47), (5, .int y48)]) (st' := [.int ((y47 + ((Int32.ofInt 1))))]) rfl ?_
                  refine En_top (addI rfl (by decide : (Int32.ofInt 1).toInt = 1) (by omega) (by omega)) (fun z95 h96 => ?_)
                  refine En_Ps 2 (pc' := 82) (lv' := [(5, .int ((y48 + Int32.ofInt 1))), (4, .int z95), (0, .ref 159), (1, .int a), (2, .int b), (3, .int c)]) (st' := []) rfl ?_
                  refine En_lv1 (addI rfl (by decide : (Int32.ofInt 1).toInt = 1) (by omega) (by omega)) (fun z97 h98 => ?_)
                  refine En_Ps 1 (pc' := 40) (lv' := [(5, .int z97), (4, .int z95), (0, .ref 159), (1, .int a), (2, .int b), (3, .int c)]) (st' := []) rfl ?_
                  refine En_lv (lv := [(0, .ref 159), (1, .int a), (2, .int b), (3, .int c), (4, .int z95), (5, .int z97)]) ⟨rfl, rfl, rfl, rfl, rfl, rfl, trivial⟩ ?_
                  exact ih40 σ84 z95 z97 h85 h89 ((h86 _ _ (inWa (by decide +kernel : TG 160 = 36) (by decide +kernel))).trans ((h73 _ _ (inWa (by decide +kernel : TG 160 = 36) (by decide +kernel))).trans ((h64 _ _ (inWa (by decide +kernel : TG 160 = 36) (by decide +kernel))).trans h52))) ((h86 _ _ (inWa (by decide +kernel : TG 160 = 36) (by decide +kernel))).trans ((h73 _ _ (inWa (by decide +kernel : TG 160 = 36) (by decide +kernel))).trans ((h64 _ _ (inWa (by decide +kernel : TG 160 = 36) (by decide +kernel))).trans h53))) (by omega) (by omega) (by omega) (by omega) (by omega) (by omega)
        have := (by decide : (Int32.ofInt 0).toInt = 0)
        have := (by decide : (Int32.ofInt 0).toInt = 0)
        refine En_lv (lv := [(0, .ref 159), (1, .int a), (2, .int b), (3, .int c), (4, .int ((Int32.ofInt 0))), (5, .int ((Int32.ofInt 0)))]) ⟨rfl, rfl, rfl, rfl, rfl, rfl, trivial⟩ ?_
        exact key40 (Int.toNat (65536) + 1) σ42 ((Int32.ofInt 0)) ((Int32.ofInt 0)) h43 h46 ((h44 _ _ (inWa (by decide +kernel : TG 160 = 36) (by decide +kernel))).trans h32) ((h44 _ _ (inWa (by decide +kernel : TG 160 = 36) (by decide +kernel))).trans h36) (by omega) (by omega) (by omega) (by omega) (by omega) (by omega)
      · refine En_Ps 1 (pc' := 29) (lv' := [(0, .ref 159), (1, .int a), (2, .int b), (3, .int c)]) (st' := [.int (((Int8.ofInt (-2)).toInt32))]) rfl ?_
        refine En_top (by decide : ((Int8.ofInt (-2)).toInt32).toInt = -2) (fun z99 h100 => ?_)
        exact En_ret (v := some (.int z99)) rfl rfl rfl ⟨h26, h30, z99, rfl, (by omega)⟩
/-- DoorSchoolModel.stormed(JI)I -/
abbrev P_316 (σ0 : SG) (a : Int64) (b : Int32) : PO := fun v σ => WT σ ∧ Fr [(35, 18), (35, 21), (35, 31), (42, 0), (43, 0), (44, 0), (45, 0), (46, 0)] σ0 σ ∧ ∃ ret : Int32, v = some (.int ret) ∧ True
set_option maxRecDepth 10000 in
set_option maxHeartbeats 4000000 in
theorem c_316 (σ0 : SG) (hσ0 : WT σ0) (a : Int64) (b : Int32) (hl_b : 0 ≤ b.toInt) (hu_b : b.toInt ≤ 3) (hp0 : -a.toInt ≤ 0) (hp1 : a.toInt - 2147483647 ≤ 0) : En 5 112 none mr_316 (P_316 σ0 a b) 0 [(0, .ref 159), (1, .long a), (3, .int b)] [] σ0 := by
  have hF0 : Fr [(35, 18), (35, 21), (35, 31), (42, 0), (43, 0), (44, 0), (45, 0), (46, 0)] σ0 σ0 := Fr_rfl
  refine En_Ps 4 (pc' := 5) (lv' := [(4, .long a), (0, .ref 159), (1, .long a), (3, .int b)]) (st' := [.int ((Int32.ofInt 0)), .ref 159]) rfl ?_
  refine En_put (j := 31) rfl rfl rfl (by decide +kernel : TG 159 = 35) (by decide +kernel) rfl (vF (by decide +kernel)) hσ0 hF0 (by decide +kernel) (fun σ1 h2 h3 h4 h5 => ?_)
  refine En_Ps 2 (pc' := 10) (lv' := [(4, .long a), (0, .ref 159), (1, .long a), (3, .int b)]) (st' := [.int b, .ref 159]) rfl ?_
  refine En_callV rfl rfl rfl rfl rfl rfl rfl rfl (by decide +kernel : TG 159 = 35) (by decide +kernel) rfl (c_213 σ1 h2 b (geI rfl (by omega)) (leI rfl (by omega))) (by decide) (by decide) (fun v7 σ8 h6 => ?_)
  obtain ⟨h9, h10, z12, h13, z14, rfl, h11⟩ := h6
  have h15 := Fr_trans h3 h10 (by decide +kernel)
  refine En_Ps 3 (pc' := 18) (lv' := [(7, .int ((Int32.ofInt 0))), (6, .int z14), (4, .long a), (0, .ref 159), (1, .long a), (3, .int b)]) (st' := []) rfl ?_
  have key18 : ∀ (n18 : Nat) (σ20 : SG) (y16 : Int64) (y17 : Int32) (y18 : Int32) (y19 : Int32), WT σ20 → Fr [(35, 18), (35, 21), (35, 31), (42, 0), (43, 0), (44, 0), (45, 0), (46, 0)] σ0 σ20 → (σ20 159)[21]? = some (.int z12) → (σ20 159)[31]? = some (.int y19) → 0 ≤ y16.toInt → y16.toInt ≤ 2147483647 → 0 ≤ y18.toInt → y18.toInt ≤ 16 → 0 ≤ y19.toInt → y19.toInt ≤ 16 → y19.toInt - y18.toInt ≤ 0 → -y18.toInt + 16 < (n18 : Int) → En 5 112 none mr_316 (P_316 σ0 a b) 18 [(0, .ref 159), (1, .long a), (3, .int b), (4, .long y16), (6, .int y17), (7, .int y18)] [] σ20 := by
    intro n18
    induction n18 with
    | zero =>
      intro σ20 y16 y17 y18 y19 h21 h22 h23 h24 h25 h26 h27 h28 h29 h30 h31 h32
      exfalso; omega
    | succ n18 ih18 =>
      intro σ20 y16 y17 y18 y19 h21 h22 h23 h24 h25 h26 h27 h28 h29 h30 h31 h32
      refine En_Ps 2 (pc' := 21) (lv' := [(0, .ref 159), (1, .long a), (3, .int b), (4, .long y16), (6, .int y17), (7, .int y18)]) (st' := [.ref 159, .int y18]) rfl ?_
      obtain ⟨z34, h33, h35, h36⟩ := WT_peekI h21 (by decide +kernel : TG 160 = 36) (by decide +kernel : FT 36 (0 : Int).toNat = (0, 0, 4)) (by decide +kernel)
      obtain ⟨z38, h37, h39, h40⟩ := WT_peekI h21 (by decide +kernel : TG 160 = 36) (by decide +kernel : FT 36 (7 : Int).toNat = (0, 0, 1600)) (by decide +kernel)
      refine En_callV rfl rfl rfl rfl rfl rfl rfl rfl (by decide +kernel : TG 159 = 35) (by decide +kernel) rfl (c_269 σ20 h21 z34 h33 z38 h37) (by decide) (by decide) (fun v42 σ43 h41 => ?_)
      obtain ⟨h44, h45, z47, rfl, h46⟩ := h41
      have h48 := Fr_trans h22 h45 (by decide +kernel)
      refine En_icGe _ rfl rfl rfl (fun h49 => ?_) (fun h49 => ?_)
      · refine En_Ps 1 (pc' := 94) (lv' := [(0, .ref 159), (1, .long a), (3, .int b), (4, .long y16), (6, .int y17), (7, .int y18)]) (st' := [.int y17]) rfl ?_
        exact En_ret (v := some (.int y17)) rfl rfl rfl ⟨h44, h48, y17, rfl, trivial⟩
      · refine En_Ps 3 (pc' := 33) (lv' := [(0, .ref 159), (1, .long a), (3, .int b), (4, .long y16), (6, .int y17), (7, .int y18)]) (st' := [.long ((((1103515245 : Int64)) * y16))]) rfl ?_
        refine En_topL (mulL (by decide : (1103515245 : Int64).toInt = 1103515245) rfl (Z := 1103515245 * y16.toInt) (by omega) (by omega) (by omega)) (fun z50 h51 => ?_)
        refine En_Ps 2 (pc' := 37) (lv' := [(0, .ref 159), (1, .long a), (3, .int b), (4, .long y16), (6, .int y17), (7, .int y18)]) (st' := [.long ((z50 + ((12345 : Int64))))]) rfl ?_
        refine En_topL (addL rfl (by decide : (12345 : Int64).toInt = 12345) (by omega) (by omega)) (fun z52 h53 => ?_)
        refine En_Ps 1 (pc' := 40) (lv' := [(0, .ref 159), (1, .long a), (3, .int b), (4, .long y16), (6, .int y17), (7, .int y18)]) (st' := [.long ((2147483648 : Int64)), .long z52]) rfl ?_
        refine En_lrem (c := 2147483648) rfl rfl (by decide : (2147483648 : Int64).toInt = 2147483648) (by omega) (by decide) (fun z54 h55 => ?_)
        refine En_Ps 3 (pc' := 48) (lv' := [(4, .long z54), (0, .ref 159), (1, .long a), (3, .int b), (6, .int y17), (7, .int y18)]) (st' := [.long ((65536 : Int64)), .long z54]) rfl ?_
        refine En_ldiv (c := 65536) rfl rfl (by decide : (65536 : Int64).toInt = 65536) (by omega) (by decide) (fun z56 h57 => ?_)
        refine En_Ps 1 (pc' := 52) (lv' := [(4, .long z54), (0, .ref 159), (1, .long a), (3, .int b), (6, .int y17), (7, .int y18)]) (st' := [.long ((100 : Int64)), .long z56]) rfl ?_
        refine En_lrem (c := 100) rfl rfl (by decide : (100 : Int64).toInt = 100) (by omega) (by decide) (fun z58 h59 => ?_)
        refine En_Ps 3 (pc' := 56) (lv' := [(4, .long z54), (0, .ref 159), (1, .long a), (3, .int b), (6, .int y17), (7, .int y18)]) (st' := [.int ((Int32.ofInt 1)), .int b, .ref 159, .long z58]) rfl ?_
        have := (by decide : ((Int32.ofInt 1)).toInt = 1)
        obtain ⟨z60, h61, h62, h63⟩ := WT_peekJ (J := (4 * b.toInt + ((Int32.ofInt 1)).toInt + 10)) (l := 0) (u := 50) h44 (by decide +kernel : TG 160 = 36) (by decide +kernel) (by omega) (lnI (by decide +kernel : LN _ = 226) (by omega)) (FTrow 36 11 4 4 (by decide +kernel) (by omega) (by omega) (by omega))
        have := (by decide : ((Int32.ofInt 1)).toInt = 1)
        refine En_callV rfl rfl rfl rfl rfl rfl rfl rfl (by decide +kernel : TG 159 = 35) (by decide +kernel) rfl (c_290b σ43 h44 b ((Int32.ofInt 1)) (geI rfl (by omega)) (leI rfl (by omega)) (geI (by decide : (Int32.ofInt 1).toInt = 1) (by omega)) (leI (by decide : (Int32.ofInt 1).toInt = 1) (by omega)) z60 h61) (by decide) (by decide) (fun v65 σ66 h64 => ?_)
        obtain ⟨h67, h68, z70, rfl, h69⟩ := h64
        have h71 := Fr_trans h48 h68 (by decide +kernel)
        refine En_Ps 2 (pc' := 61) (lv' := [(4, .long z54), (0, .ref 159), (1, .long a), (3, .int b), (6, .int y17), (7, .int y18)]) (st' := [.int (lg_cmp z58 z70.toInt64)]) rfl ?_
        refine En_lgLt _ rfl (i2lI rfl) rfl (fun h72 => ?_) (fun h72 => ?_)
        · refine En_Ps 4 (pc' := 73) (lv' := [(4, .long z54), (0, .ref 159), (1, .long a), (3, .int b), (6, .int y17), (7, .int y18)]) (st' := [.int ((((Int32.ofInt 1)) <<< (y18 &&& 31))), .int y17]) rfl ?_
          refine En_rng (shl1_p 15 rfl (by omega) (by omega) (by decide)) (fun z73 h74 h75 => ?_)
          refine En_Ps 1 (pc' := 74) (lv' := [(4, .long z54), (0, .ref 159), (1, .long a), (3, .int b), (6, .int y17), (7, .int y18)]) (st' := [.int ((y17 ^^^ z73))]) rfl ?_
          refine En_hav (fun z76 => ?_)
          refine En_Ps 3 (pc' := 78) (lv' := [(6, .int z76), (4, .long z54), (0, .ref 159), (1, .long a), (3, .int b), (7, .int y18)]) (st' := [.ref 159, .ref 159]) rfl ?_
          refine En_getK (j := 31) ((h68 _ _ (inW (by decide +kernel : TG 159 = 35) (by decide +kernel))).trans ((h45 _ _ (inW (by decide +kernel : TG 159 = 35) (by decide +kernel))).trans h24)) rfl rfl rfl (by decide +kernel : TG 159 = 35) (by decide +kernel) ?_
          refine En_Ps 2 (pc' := 83) (lv' := [(6, .int z76), (4, .long z54), (0, .ref 159), (1, .long a), (3, .int b), (7, .int y18)]) (st' := [.int ((y19 + ((Int32.ofInt 1)))), .ref 159]) rfl ?_
          refine En_top (addI rfl (by decide : (Int32.ofInt 1).toInt = 1) (by omega) (by omega)) (fun z77 h78 => ?_)
          refine En_put (j := 31) rfl rfl rfl (by decide +kernel : TG 159 = 35) (by decide +kernel) rfl (vF (by decide +kernel)) h67 h71 (by decide +kernel) (fun σ79 h80 h81 h82 h83 => ?_)
          refine En_Ps 1 (pc' := 89) (lv' := [(7, .int ((y18 + Int32.ofInt 1))), (6, .int z76), (4, .long z54), (0, .ref 159), (1, .long a), (3, .int b)]) (st' := []) rfl ?_
          refine En_lv1 (addI rfl (by decide : (Int32.ofInt 1).toInt = 1) (by omega) (by omega)) (fun z84 h85 => ?_)
          refine En_Ps 1 (pc' := 18) (lv' := [(7, .int z84), (6, .int z76), (4, .long z54), (0, .ref 159), (1, .long a), (3, .int b)]) (st' := []) rfl ?_
          refine En_lv (lv := [(0, .ref 159), (1, .long a), (3, .int b), (4, .long z54), (6, .int z76), (7, .int z84)]) ⟨rfl, rfl, rfl, rfl, rfl, rfl, trivial⟩ ?_
          exact ih18 σ79 z54 z76 z84 z77 h80 h81 ((h83 _ _ (Or.inr (by decide))).trans ((h68 _ _ (inW (by decide +kernel : TG 159 = 35) (by decide +kernel))).trans ((h45 _ _ (inW (by decide +kernel : TG 159 = 35) (by decide +kernel))).trans h23))) h82 (by omega) (by omega) (by omega) (by omega) (by omega) (by omega) (by omega) (by omega)
        · refine En_Ps 2 (pc' := 89) (lv' := [(7, .int ((y18 + Int32.ofInt 1))), (4, .long z54), (0, .ref 159), (1, .long a), (3, .int b), (6, .int y17)]) (st' := []) rfl ?_
          refine En_lv1 (addI rfl (by decide : (Int32.ofInt 1).toInt = 1) (by omega) (by omega)) (fun z86 h87 => ?_)
          refine En_Ps 1 (pc' := 18) (lv' := [(7, .int z86), (4, .long z54), (0, .ref 159), (1, .long a), (3, .int b), (6, .int y17)]) (st' := []) rfl ?_
          refine En_lv (lv := [(0, .ref 159), (1, .long a), (3, .int b), (4, .long z54), (6, .int y17), (7, .int z86)]) ⟨rfl, rfl, rfl, rfl, rfl, rfl, trivial⟩ ?_
          exact ih18 σ66 z54 y17 z86 y19 h67 h71 ((h68 _ _ (inW (by decide +kernel : TG 159 = 35) (by decide +kernel))).trans ((h45 _ _ (inW (by decide +kernel : TG 159 = 35) (by decide +kernel))).trans h23)) ((h68 _ _ (inW (by decide +kernel : TG 159 = 35) (by decide +kernel))).trans ((h45 _ _ (inW (by decide +kernel : TG 159 = 35) (by decide +kernel))).trans h24)) (by omega) (by omega) (by omega) (by omega) (by omega) (by omega) (by omega) (by omega)
  have := (by decide : (Int32.ofInt 0).toInt = 0)
  have := (by decide : (Int32.ofInt 0).toInt = 0)
  refine En_lv (lv := [(0, .ref 159), (1, .long a), (3, .int b), (4, .long a), (6, .int z14), (7, .int ((Int32.ofInt 0)))]) ⟨rfl, rfl, rfl, rfl, rfl, rfl, trivial⟩ ?_
  exact key18 (Int.toNat (16) + 1) σ8 a z14 ((Int32.ofInt 0)) ((Int32.ofInt 0)) h9 h15 h13 ((h10 _ _ (inW (by decide +kernel : TG 159 = 35) (by decide +kernel))).trans h4) (by omega) (by omega) (by omega) (by omega) (by omega) (by omega) (by omega) (by omega)
/-- DoorSchoolModel.storm(III)I -/
abbrev P_315 (σ0 : SG) (a : Int32) (b : Int32) (c : Int32) : PO := fun v σ => WT σ ∧ Fr [(35, 18), (35, 21), (35, 31), (42, 0), (43, 0), (44, 0), (45, 0), (46, 0)] σ0 σ ∧ ∃ ret : Int32, v = some (.int ret) ∧ True
set_option maxRecDepth 10000 in
set_option maxHeartbeats 4000000 in
theorem c_315 (σ0 : SG) (hσ0 : WT σ0) (a : Int32) (b : Int32) (c : Int32) : En 6 139 none mr_315 (P_315 σ0 a b c) 0 [(0, .ref 159), (1, .int a), (2, .int b), (3, .int c)] [] σ0 := by
  have hF0 : Fr [(35, 18), (35, 21), (35, 31), (42, 0), (43, 0), (44, 0), (45, 0), (46, 0)] σ0 σ0 := Fr_rfl
  refine En_Ps 1 (pc' := 1) (lv' := [(0, .ref 159), (1, .int a), (2, .int b), (3, .int c)]) (st' := [.int a]) rfl ?_
  refine En_callS rfl rfl rfl rfl rfl rfl rfl rfl rfl (c_265 σ0 hσ0 a) (by decide) (by decide) (fun v2 σ3 h1 => ?_)
  obtain ⟨h4, h5, z7, rfl, h6⟩ := h1
  have h8 := Fr_trans hF0 h5 (by decide +kernel)
  refine En_iEq _ rfl rfl (fun h9 => ?_) (fun h9 => ?_)
  · refine En_Ps 1 (pc' := 29) (lv' := [(0, .ref 159), (1, .int a), (2, .int b), (3, .int c)]) (st' := [.int (((Int8.ofInt (-2)).toInt32))]) rfl ?_
    refine En_top (by decide : ((Int8.ofInt (-2)).toInt32).toInt = -2) (fun z10 h11 => ?_)
    exact En_ret (v := some (.int z10)) rfl rfl rfl ⟨h4, h8, z10, rfl, trivial⟩
  · refine En_Ps 2 (pc' := 9) (lv' := [(0, .ref 159), (1, .int a), (2, .int b), (3, .int c)]) (st' := [.int b, .ref 159]) rfl ?_
    obtain ⟨z13, h12, h14, h15⟩ := WT_peekI h4 (by decide +kernel : TG 160 = 36) (by decide +kernel : FT 36 (2 : Int).toNat = (0, 0, 4)) (by decide +kernel)
    refine En_callV rfl rfl rfl rfl rfl rfl rfl rfl (by decide +kernel : TG 159 = 35) (by decide +kernel) rfl (c_254 σ3 h4 b z13 h12) (by decide) (by decide) (fun v17 σ18 h16 => ?_)
    obtain ⟨h19, h20, z22, rfl, h21⟩ := h16
    have h23 := Fr_trans h8 h20 (by decide +kernel)
    refine En_iEq _ rfl rfl (fun h24 => ?_) (fun h24 => ?_)
    · refine En_Ps 1 (pc' := 29) (lv' := [(0, .ref 159), (1, .int a), (2, .int b), (3, .int c)]) (st' := [.int (((Int8.ofInt (-2)).toInt32))]) rfl ?_
      refine En_top (by decide : ((Int8.ofInt (-2)).toInt32).toInt = -2) (fun z25 h26 => ?_)
      exact En_ret (v := some (.int z25)) rfl rfl rfl ⟨h19, h23, z25, rfl, trivial⟩
    · refine En_Ps 4 (pc' := 21) (lv' := [(0, .ref 159), (1, .int a), (2, .int b), (3, .int c)]) (st' := [.long ((2 : Int64)), .long ((Int64.ofNat 0)), .long c.toInt64]) rfl ?_
      have : c.toInt64.toInt = c.toInt := (i2lI rfl)
      have := (by decide : ((Int64.ofNat 0)).toInt = 0)
      have := (by decide : ((2 : Int64)).toInt = 2)
      refine En_callS rfl rfl rfl rfl rfl rfl rfl rfl rfl (c_249 σ18 h19 c.toInt64 ((Int64.ofNat 0)) ((2 : Int64))) (by decide) (by decide) (fun v28 σ29 h27 => ?_)
      obtain ⟨h30, h31, z33, rfl, h32⟩ := h27
      have h34 := Fr_trans h23 h31 (by decide +kernel)
      refine En_iNe _ rfl rfl (fun h35 => ?_) (fun h35 => ?_)
      · refine En_Ps 4 (pc' := 34) (lv' := [(0, .ref 159), (1, .int a), (2, .int b), (3, .int c)]) (st' := [.int b, .long a.toInt64, .ref 159]) rfl ?_
        have : a.toInt64.toInt = a.toInt := (i2lI rfl)
        refine En_callV rfl rfl rfl rfl rfl rfl rfl rfl (by decide +kernel : TG 159 = 35) (by decide +kernel) rfl (c_316 σ29 h30 a.toInt64 b (geI rfl (by omega)) (leI rfl (by omega)) (by omega) (by omega)) (by decide) (by decide) (fun v37 σ38 h36 => ?_)
        obtain ⟨h39, h40, z42, rfl, h41⟩ := h36
        have h43 := Fr_trans h34 h40 (by decide +kernel)
        refine En_Ps 2 (pc' := 40) (lv' := [(4, .int z42), (0, .ref 159), (1, .int a), (2, .int b), (3, .int c)]) (st' := [.int c]) rfl ?_
        refine En_iNe _ rfl rfl (fun h44 => ?_) (fun h44 => ?_)
        · refine En_Ps 2 (pc' := 50) (lv' := [(4, .int z42), (0, .ref 159), (1, .int a), (2, .int b), (3, .int c)]) (st' := [.int ((Int32.ofInt 1)), .int c]) rfl ?_
          refine En_icNe _ rfl (by decide : (Int32.ofInt 1).toInt = 1) rfl (fun h45 => ?_) (fun h45 => ?_)
          · refine En_Ps 1 (pc' := 63) (lv' := [(4, .int z42), (0, .ref 159), (1, .int a), (2, .int b), (3, .int c)]) (st' := [.ref 159]) rfl ?_
            refine En_getI (j := 31) (l := (-2147483648)) (u := 2147483647) rfl rfl rfl (by decide +kernel : TG 159 = 35) (by decide +kernel) h39 (by decide +kernel) (fun z47 h46 h48 h49 => ?_)
            exact En_ret (v := some (.int z47)) rfl rfl rfl ⟨h39, h43, z47, rfl, trivial⟩
          · refine En_Ps 2 (pc' := 56) (lv' := [(4, .int z42), (0, .ref 159), (1, .int a), (2, .int b), (3, .int c)]) (st' := [.int z42, .ref 159]) rfl ?_
            refine En_callV rfl rfl rfl rfl rfl rfl rfl rfl (by decide +kernel : TG 159 = 35) (by decide +kernel) rfl (c_283 σ38 h39 z42) (by decide) (by decide) (fun v51 σ52 h50 => ?_)
            obtain ⟨h53, h54, z56, rfl, h55⟩ := h50
            have h57 := Fr_trans h43 h54 (by decide +kernel)
            refine En_Ps 1 (pc' := 66) (lv' := [(4, .int z42), (0, .ref 159), (1, .int a), (2, .int b), (3, .int c)]) (st' := [.int z56]) rfl ?_
            exact En_ret (v := some (.int z56)) rfl rfl rfl ⟨h53, h57, z56, rfl, trivial⟩
        · refine En_Ps 2 (pc' := 66) (lv' := [(4, .int z42), (0, .ref 159), (1, .int a), (2, .int b), (3, .int c)]) (st' := [.int z42]) rfl ?_
          exact En_ret (v := some (.int z42)) rfl rfl rfl ⟨h39, h43, z42, rfl, trivial⟩
      · refine En_Ps 1 (pc' := 29) (lv' := [(0, .ref 159), (1, .int a), (2, .int b), (3, .int c)]) (st' := [.int (((Int8.ofInt (-2)).toInt32))]) rfl ?_
        refine En_top (by decide : ((Int8.ofInt (-2)).toInt32).toInt = -2) (fun z58 h59 => ?_)
        exact En_ret (v := some (.int z58)) rfl rfl rfl ⟨h30, h34, z58, rfl, trivial⟩
/-- DoorSchoolModel.told(II)I -/
abbrev P_324 (σ0 : SG) (a : Int32) (b : Int32) (f : Int32) : PO := fun v σ => WT σ ∧ Fr [(35, 18), (42, 0), (43, 0), (44, 0)] σ0 σ ∧ ∃ f1 : Int32, (σ 159)[8]? = some (.int f1) ∧ ∃ ret : Int32, v = some (.int ret) ∧ -ret.toInt - 2 ≤ 0 ∧ ret.toInt - 15 ≤ 0 ∧ -f1.toInt ≤ 0 ∧ f1.toInt - 1600 ≤ 0 ∧ -f1.toInt + f.toInt ≤ 0 ∧ f1.toInt - f.toInt ≤ 0 ∧ f.toInt - f1.toInt ≤ 0 ∧ (b.toInt ≤ 0 → b.toInt - ret.toInt ≤ 0) ∧ (-b.toInt ≤ 0 → -ret.toInt ≤ 0) ∧ (-c.toInt ≤ 0 → ret.toInt - c.toInt ≤ 0) ∧ (c.toInt ≤ 0 → ret.toInt ≤ 0)
set_option maxRecDepth 10000 in
set_option maxHeartbeats 4000000 in
theorem c_324 (σ0 : SG) (hσ0 : WT σ0) (a : Int32) (b : Int32) (f : Int32) (h_f : (σ0 159)[8]? = some (.int f)) : En 4 87 none mr_324 (P_324 σ0 a b f) 0 [(0, .ref 159), (1, .int a), (2, .int b)] [] σ0 := by
  obtain ⟨hl_f, hu_f⟩ := WT_int hσ0 (g := 35) (by decide +kernel) (by decide +kernel) (l := 0) (u := 1600) (by decide +kernel) h_f
  have hF0 : Fr [(35, 18), (42, 0), (43, 0), (44, 0)] σ0 σ0 := Fr_rfl
  refine En_Ps 2 (pc' := 2) (lv' := [(0, .ref 159), (1, .int a), (2, .int b)]) (st' := [.int a, .ref 159]) rfl ?_
  refine En_callV rfl rfl rfl rfl rfl rfl rfl rfl (by decide +kernel : TG 159 = 35) (by decide +kernel) rfl (c_195 σ0 hσ0 a) (by decide) (by decide) (fun v2 σ3 h1 => ?_)
  obtain ⟨h4, h5, z7, rfl, h6⟩ := h1
  have h8 := Fr_trans hF0 h5 (by decide +kernel)
  refine En_iEq _ rfl rfl (fun h9 => ?_) (fun h9 => ?_)
  · refine En_Ps 1 (pc' := 20) (lv' := [(0, .ref 159), (1, .int a), (2, .int b)]) (st' := [.int (((Int8.ofInt (-2)).toInt32))]) rfl ?_
    refine En_top (by decide : ((Int8.ofInt (-2)).toInt32).toInt = -2) (fun z10 h11 => ?_)
    exact En_ret (v := some (.int z10)) rfl rfl rfl ⟨h4, h8, f, ((h5 _ _ (inW (by decide +kernel : TG 159 = 35) (by decide +kernel))).trans h_f), z10, rfl, (by omega)⟩
  · refine En_Ps 4 (pc' := 12) (lv' := [(0, .ref 159), (1, .int a), (2, .int b)]) (st' := [.long ((Int64.ofNat 1)), .long ((Int64.ofNat 0)), .long b.toInt64]) rfl ?_
    have : b.toInt64.toInt = b.toInt := (i2lI rfl)
    have := (by decide : ((Int64.ofNat 0)).toInt = 0)
    have := (by decide : ((Int64.ofNat 1)).toInt = 1)
    refine En_callS rfl rfl rfl rfl rfl rfl rfl rfl rfl (c_249 σ3 h4 b.toInt64 ((Int64.ofNat 0)) ((Int64.ofNat 1))) (by decide) (by decide) (fun v13 σ14 h12 => ?_)
    obtain ⟨h15, h16, z18, rfl, h17⟩ := h12
    have h19 := Fr_trans h8 h16 (by decide +kernel)
    refine En_iNe _ rfl rfl (fun h20 => ?_) (fun h20 => ?_)
    · refine En_Ps 1 (pc' := 22) (lv' := [(0, .ref 159), (1, .int a), (2, .int b)]) (st' := [.ref 159]) rfl ?_
      obtain ⟨z22, h21, h23, h24⟩ := WT_peekI h15 (by decide +kernel : TG 160 = 36) (by decide +kernel : FT 36 (0 : Int).toNat = (0, 0, 4)) (by decide +kernel)
      obtain ⟨z26, h25, h27, h28⟩ := WT_peekI h15 (by decide +kernel : TG 160 = 36) (by decide +kernel : FT 36 (7 : Int).toNat = (0, 0, 1600)) (by decide +kernel)
      refine En_callV rfl rfl rfl rfl rfl rfl rfl rfl (by decide +kernel : TG 159 = 35) (by decide +kernel) rfl (c_272 σ14 h15 z22 h21 z26 h25) (by decide) (by decide) (fun v30 σ31 h29 => ?_)
      obtain ⟨h32, h33, rfl, h34⟩ := h29
      have h35 := Fr_trans h19 h33 (by decide +kernel)
      refine En_Ps 2 (pc' := 27) (lv' := [(3, .int ((Int32.ofInt 0))), (0, .ref 159), (1, .int a), (2, .int b)]) (st' := []) rfl ?_
      have key27 : ∀ (n27 : Nat) (σ37 : SG) (y36 : Int32), WT σ37 → Fr [(35, 18), (42, 0), (43, 0), (44, 0)] σ0 σ37 → (σ37 159)[8]? = some (.int f) → (σ37 160)[(0 : Int).toNat]? = some (.int z22) → (σ37 160)[(7 : Int).toNat]? = some (.int z26) → 0 ≤ y36.toInt → y36.toInt ≤ 81 → -y36.toInt + 81 < (n27 : Int) → En 4 87 none mr_324 (P_324 σ0 a b f) 27 [(0, .ref 159), (1, .int a), (2, .int b), (3, .int y36)] [] σ37 := by
        intro n27
        induction n27 with
        | zero =>
          intro σ37 y36 h38 h39 h40 h41 h42 h43 h44 h45
          exfalso; omega
        | succ n27 ih27 =>
          intro σ37 y36 h38 h39 h40 h41 h42 h43 h44 h45
          refine En_Ps 2 (pc' := 29) (lv' := [(0, .ref 159), (1, .int a), (2, .int b), (3, .int y36)]) (st' := [.ref 159, .int y36]) rfl ?_
          refine En_getI (j := 18) (l := 0) (u := 81) rfl rfl rfl (by decide +kernel : TG 159 = 35) (by decide +kernel) h38 (by decide +kernel) (fun z47 h46 h48 h49 => ?_)
          refine En_icGe _ rfl rfl rfl (fun h50 => ?_) (fun h50 => ?_)
          · refine En_Ps 1 (pc' := 72) (lv' := [(0, .ref 159), (1, .int a), (2, .int b), (3, .int y36)]) (st' := [.int ((Int32.ofInt (-1)))]) rfl ?_
            refine En_top (by decide : (Int32.ofInt (-1)).toInt = -1) (fun z51 h52 => ?_)
            exact En_ret (v := some (.int z51)) rfl rfl rfl ⟨h38, h39, f, h40, z51, rfl, (by omega)⟩
          · refine En_Ps 1 (pc' := 36) (lv' := [(0, .ref 159), (1, .int a), (2, .int b), (3, .int y36)]) (st' := [.ref 159]) rfl ?_
            refine En_getU (j := 17) (u := 168) (g' := 44) (q := 0) rfl rfl rfl (by decide +kernel : TG 159 = 35) (by decide +kernel) h38 (by decide +kernel) (by decide +kernel) (fun h53 => ?_)
            refine En_Ps 1 (pc' := 40) (lv' := [(0, .ref 159), (1, .int a), (2, .int b), (3, .int y36)]) (st' := [.int y36, .ref 168]) rfl ?_
            refine En_iald (l := (-2147483648)) (u := 2147483647) rfl rfl (by decide +kernel : TG 168 = 44) (by decide +kernel) h38 (by omega) (lnI (by decide +kernel : LN _ = 81) (by omega)) (FTsgl (by decide +kernel)) (fun z56 h55 h57 h58 => ?_)
            refine En_Ps 1 (pc' := 42) (lv' := [(0, .ref 159), (1, .int a), (2, .int b), (3, .int y36)]) (st' := [.int a, .int z56]) rfl ?_
            refine En_icNe _ rfl rfl rfl (fun h59 => ?_) (fun h59 => ?_)
            · refine En_Ps 1 (pc' := 68) (lv' := [(3, .int ((y36 + Int32.ofInt 1))), (0, .ref 159), (1, .int a), (2, .int b)]) (st' := []) rfl ?_
              refine En_lv1 (addI rfl (by decide : (Int32.ofInt 1).toInt = 1) (by omega) (by omega)) (fun z60 h61 => ?_)
              refine En_Ps 1 (pc' := 27) (lv' := [(3, .int z60), (0, .ref 159), (1, .int a), (2, .int b)]) (st' := []) rfl ?_
              refine En_lv (lv := [(0, .ref 159), (1, .int a), (2, .int b), (3, .int z60)]) ⟨rfl, rfl, rfl, rfl, trivial⟩ ?_
              exact ih27 σ37 z60 h38 h39 h40 h41 h42 (by omega) (by omega) (by omega)
            · refine En_Ps 1 (pc' := 46) (lv' := [(0, .ref 159), (1, .int a), (2, .int b), (3, .int y36)]) (st' := [.int b]) rfl ?_
              refine En_iNe _ rfl rfl (fun h62 => ?_) (fun h62 => ?_)
              · refine En_Ps 1 (pc' := 59) (lv' := [(0, .ref 159), (1, .int a), (2, .int b), (3, .int y36)]) (st' := [.ref 159]) rfl ?_
                refine En_getU (j := 16) (u := 167) (g' := 43) (q := 0) rfl rfl rfl (by decide +kernel : TG 159 = 35) (by decide +kernel) h38 (by decide +kernel) (by decide +kernel) (fun h63 => ?_)
                refine En_Ps 1 (pc' := 63) (lv' := [(0, .ref 159), (1, .int a), (2, .int b), (3, .int y36)]) (st' := [.int y36, .ref 167]) rfl ?_
                refine En_iald (l := 0) (u := 15) rfl rfl (by decide +kernel : TG 167 = 43) (by decide +kernel) h38 (by omega) (lnI (by decide +kernel : LN _ = 81) (by omega)) (FTsgl (by decide +kernel)) (fun z66 h65 h67 h68 => ?_)
                exact En_ret (v := some (.int z66)) rfl rfl rfl ⟨h38, h39, f, h40, z66, rfl, (by omega)⟩
              · refine En_Ps 1 (pc' := 50) (lv' := [(0, .ref 159), (1, .int a), (2, .int b), (3, .int y36)]) (st' := [.ref 159]) rfl ?_
                refine En_getU (j := 15) (u := 166) (g' := 42) (q := 0) rfl rfl rfl (by decide +kernel : TG 159 = 35) (by decide +kernel) h38 (by decide +kernel) (by decide +kernel) (fun h69 => ?_)
                refine En_Ps 1 (pc' := 54) (lv' := [(0, .ref 159), (1, .int a), (2, .int b), (3, .int y36)]) (st' := [.int y36, .ref 166]) rfl ?_
                refine En_iald (l := 0) (u := 15) rfl rfl (by decide +kernel : TG 166 = 42) (by decide +kernel) h38 (by omega) (lnI (by decide +kernel : LN _ = 81) (by omega)) (FTsgl (by decide +kernel)) (fun z72 h71 h73 h74 => ?_)
                refine En_Ps 1 (pc' := 64) (lv' := [(0, .ref 159), (1, .int a), (2, .int b), (3, .int y36)]) (st' := [.int z72]) rfl ?_
                exact En_ret (v := some (.int z72)) rfl rfl rfl ⟨h38, h39, f, h40, z72, rfl, (by omega)⟩
      have := (by decide : (Int32.ofInt 0).toInt = 0)
      refine En_lv (lv := [(0, .ref 159), (1, .int a), (2, .int b), (3, .int ((Int32.ofInt 0)))]) ⟨rfl, rfl, rfl, rfl, trivial⟩ ?_
      exact key27 (Int.toNat (81) + 1) σ31 ((Int32.ofInt 0)) h32 h35 ((h33 _ _ (inW (by decide +kernel : TG 159 = 35) (by decide +kernel))).trans ((h16 _ _ (inW (by decide +kernel : TG 159 = 35) (by decide +kernel))).trans ((h5 _ _ (inW (by decide +kernel : TG 159 = 35) (by decide +kernel))).trans h_f))) ((h33 _ _ (inWa (by decide +kernel : TG 160 = 36) (by decide +kernel))).trans h21) ((h33 _ _ (inWa (by decide +kernel : TG 160 = 36) (by decide +kernel))).trans h25) (by omega) (by omega) (by omega)
    · refine En_Ps 1 (pc' := 20) (lv' := [(0, .ref 159), (1, .int a), (2, .int b)]) (st' := [.int (((Int8.ofInt (-2)).toInt32))]) rfl ?_
      refine En_top (by decide : ((Int8.ofInt (-2)).toInt32).toInt = -2) (fun z75 h76 => ?_)
      exact En_ret (v := some (.int z75)) rfl rfl rfl ⟨h15, h19, f, ((h16 _ _ (inW (by decide +kernel : TG 159 = 35) (by decide +kernel))).trans ((h5 _ _ (inW (by decide +kernel : TG 159 = 35) (by decide +kernel))).trans h_f)), z75, rfl, (by omega)⟩
/-- DoorSchoolModel.train(III)I -/
abbrev P_325 (σ0 : SG) (a : Int32) (b : Int32) (c : Int32) : PO := fun v σ => WT σ ∧ Fr [(36, 0)] σ0 σ ∧ ∃ ret : Int32, v = some (.int ret) ∧ -ret.toInt - 2 ≤ 0 ∧ ret.toInt - 50 ≤ 0
set_option maxRecDepth 10000 in
set_option maxHeartbeats 4000000 in
theorem c_325 (σ0 : SG) (hσ0 : WT σ0) (a : Int32) (b : Int32) (c : Int32) : En 2 46 none mr_325 (P_325 σ0 a b c) 0 [(0, .ref 159), (1, .int a), (2, .int b), (3, .int c)] [] σ0 := by
  have hF0 : Fr [(36, 0)] σ0 σ0 := Fr_rfl
  refine En_Ps 2 (pc' := 2) (lv' := [(0, .ref 159), (1, .int a), (2, .int b), (3, .int c)]) (st' := [.int a, .ref 159]) rfl ?_
  obtain ⟨z2, h1, h3, h4⟩ := WT_peekI hσ0 (by decide +kernel : TG 160 = 36) (by decide +kernel : FT 36 (2 : Int).toNat = (0, 0, 4)) (by decide +kernel)
  refine En_callV rfl rfl rfl rfl rfl rfl rfl rfl (by decide +kernel : TG 159 = 35) (by decide +kernel) rfl (c_254 σ0 hσ0 a z2 h1) (by decide) (by decide) (fun v6 σ7 h5 => ?_)
  obtain ⟨h8, h9, z11, rfl, h10⟩ := h5
  have h12 := Fr_trans hF0 h9 (by decide +kernel)
  refine En_iEq _ rfl rfl (fun h13 => ?_) (fun h13 => ?_)
  · refine En_Ps 1 (pc' := 42) (lv' := [(0, .ref 159), (1, .int a), (2, .int b), (3, .int c)]) (st' := [.int (((Int8.ofInt (-2)).toInt32))]) rfl ?_
    refine En_top (by decide : ((Int8.ofInt (-2)).toInt32).toInt = -2) (fun z14 h15 => ?_)
    exact En_ret (v := some (.int z14)) rfl rfl rfl ⟨h8, h12, z14, rfl, (by omega)⟩
  · refine En_Ps 4 (pc' := 12) (lv' := [(0, .ref 159), (1, .int a), (2, .int b), (3, .int c)]) (st' := [.long ((Int64.ofNat 1)), .long ((Int64.ofNat 0)), .long b.toInt64]) rfl ?_
    have : b.toInt64.toInt = b.toInt := (i2lI rfl)
    have := (by decide : ((Int64.ofNat 0)).toInt = 0)
    have := (by decide : ((Int64.ofNat 1)).toInt = 1)
    refine En_callS rfl rfl rfl rfl rfl rfl rfl rfl rfl (c_249 σ7 h8 b.toInt64 ((Int64.ofNat 0)) ((Int64.ofNat 1))) (by decide) (by decide) (fun v17 σ18 h16 => ?_)
    obtain ⟨h19, h20, z22, rfl, h21⟩ := h16
    have h23 := Fr_trans h12 h20 (by decide +kernel)
    refine En_iEq _ rfl rfl (fun h24 => ?_) (fun h24 => ?_)
    · refine En_Ps 1 (pc' := 42) (lv' := [(0, .ref 159), (1, .int a), (2, .int b), (3, .int c)]) (st' := [.int (((Int8.ofInt (-2)).toInt32))]) rfl ?_
      refine En_top (by decide : ((Int8.ofInt (-2)).toInt32).toInt = -2) (fun z25 h26 => ?_)
      exact En_ret (v := some (.int z25)) rfl rfl rfl ⟨h19, h23, z25, rfl, (by omega)⟩
    · refine En_Ps 4 (pc' := 22) (lv' := [(0, .ref 159), (1, .int a), (2, .int b), (3, .int c)]) (st' := [.int b, .long ((Int64.ofNat 0)), .long c.toInt64]) rfl ?_
      refine En_iNe _ rfl rfl (fun h27 => ?_) (fun h27 => ?_)
      · refine En_Ps 1 (pc' := 34) (lv' := [(0, .ref 159), (1, .int a), (2, .int b), (3, .int c)]) (st' := [.long ((50 : Int64)), .long ((Int64.ofNat 0)), .long c.toInt64]) rfl ?_
        have : c.toInt64.toInt = c.toInt := (i2lI rfl)
        have := (by decide : ((Int64.ofNat 0)).toInt = 0)
        have := (by decide : ((50 : Int64)).toInt = 50)
        refine En_callS rfl rfl rfl rfl rfl rfl rfl rfl rfl (c_249 σ18 h19 c.toInt64 ((Int64.ofNat 0)) ((50 : Int64))) (by decide) (by decide) (fun v29 σ30 h28 => ?_)
        obtain ⟨h31, h32, z34, rfl, h33⟩ := h28
        have h35 := Fr_trans h23 h32 (by decide +kernel)
        refine En_iNe _ rfl rfl (fun h36 => ?_) (fun h36 => ?_)
        · refine En_Ps 3 (pc' := 46) (lv' := [(0, .ref 159), (1, .int a), (2, .int b), (3, .int c)]) (st' := [.int b, .int a, .ref 159]) rfl ?_
          obtain ⟨z37, h38, h39, h40⟩ := WT_peekJ (J := (4 * a.toInt + b.toInt + 10)) (l := 0) (u := 50) h31 (by decide +kernel : TG 160 = 36) (by decide +kernel) (by omega) (lnI (by decide +kernel : LN _ = 226) (by omega)) (FTrow 36 11 4 4 (by decide +kernel) (by omega) (by omega) (by omega))
          refine En_callV rfl rfl rfl rfl rfl rfl rfl rfl (by decide +kernel : TG 159 = 35) (by decide +kernel) rfl (c_290b σ30 h31 a b (geI rfl (by omega)) (leI rfl (by omega)) (geI rfl (by omega)) (leI rfl (by omega)) z37 h38) (by decide) (by decide) (fun v42 σ43 h41 => ?_)
          obtain ⟨h44, h45, z47, rfl, h46⟩ := h41
          have h48 := Fr_trans h35 h45 (by decide +kernel)
          refine En_Ps 2 (pc' := 52) (lv' := [(4, .int z47), (0, .ref 159), (1, .int a), (2, .int b), (3, .int c)]) (st' := [.ref 159]) rfl ?_
          refine En_getU (j := 1) (u := 160) (g' := 36) (q := 0) rfl rfl rfl (by decide +kernel : TG 159 = 35) (by decide +kernel) h44 (by decide +kernel) (by decide +kernel) (fun h49 => ?_)
          refine En_Ps 4 (pc' := 60) (lv' := [(4, .int z47), (0, .ref 159), (1, .int a), (2, .int b), (3, .int c)]) (st' := [.int ((((Int32.ofInt 4)) * a)), .int (((Int8.ofInt 10).toInt32)), .ref 160]) rfl ?_
          refine En_top (mulI (by decide : (Int32.ofInt 4).toInt = 4) rfl (Z := 4 * a.toInt) (by omega) (by omega) (by omega)) (fun z51 h52 => ?_)
          refine En_Ps 1 (pc' := 61) (lv' := [(4, .int z47), (0, .ref 159), (1, .int a), (2, .int b), (3, .int c)]) (st' := [.int (((((Int8.ofInt 10).toInt32)) + z51)), .ref 160]) rfl ?_
          refine En_top (addI (by decide : ((Int8.ofInt 10).toInt32).toInt = 10) rfl (by omega) (by omega)) (fun z53 h54 => ?_)
          refine En_Ps 2 (pc' := 63) (lv' := [(4, .int z47), (0, .ref 159), (1, .int a), (2, .int b), (3, .int c)]) (st' := [.int ((z53 + b)), .ref 160]) rfl ?_
          refine En_top (addI rfl rfl (by omega) (by omega)) (fun z55 h56 => ?_)
          refine En_Ps 1 (pc' := 64) (lv' := [(4, .int z47), (0, .ref 159), (1, .int a), (2, .int b), (3, .int c)]) (st' := [.int c, .int z55, .ref 160]) rfl ?_
          refine En_iast (l := 0) (u := 50) rfl rfl (by decide +kernel : TG 160 = 36) (by decide +kernel) (by omega) (lnI (by decide +kernel : LN _ = 226) (by omega)) (FTrow 36 11 4 4 (by decide +kernel) (by omega) (by omega) (by omega)) (rngI rfl (by omega) (by omega)) h44 h48 (by decide +kernel) (fun σ57 h58 h59 h60 h61 => ?_)
          refine En_Ps 1 (pc' := 67) (lv' := [(4, .int z47), (0, .ref 159), (1, .int a), (2, .int b), (3, .int c)]) (st' := [.int z47]) rfl ?_
          exact En_ret (v := some (.int z47)) rfl rfl rfl ⟨h58, h59, z47, rfl, (by omega)⟩
        · refine En_Ps 1 (pc' := 42) (lv' := [(0, .ref 159), (1, .int a), (2, .int b), (3, .int c)]) (st' := [.int (((Int8.ofInt (-2)).toInt32))]) rfl ?_
          refine En_top (by decide : ((Int8.ofInt (-2)).toInt32).toInt = -2) (fun z62 h63 => ?_)
          exact En_ret (v := some (.int z62)) rfl rfl rfl ⟨h31, h35, z62, rfl, (by omega)⟩
      · refine En_Ps 2 (pc' := 34) (lv' := [(0, .ref 159), (1, .int a), (2, .int b), (3, .int c)]) (st' := [.long ((2 : Int64)), .long ((Int64.ofNat 0)), .long c.toInt64]) rfl ?_
        have : c.toInt64.toInt = c.toInt := (i2lI rfl)
        have := (by decide : ((Int64.ofNat 0)).toInt = 0)
        have := (by decide : ((2 : Int64)).toInt = 2)
        refine En_callS rfl rfl rfl rfl rfl rfl rfl rfl rfl (c_249 σ18 h19 c.toInt64 ((Int64.ofNat 0)) ((2 : Int64))) (by decide) (by decide) (fun v65 σ66 h64 => ?_)
        obtain ⟨h67, h68, z70, rfl, h69⟩ := h64
        have h71 := Fr_trans h23 h68 (by decide +kernel)
        refine En_iNe _ rfl rfl (fun h72 => ?_) (fun h72 => ?_)
        · refine En_Ps 3 (pc' := 46) (lv' := [(0, .ref 159), (1, .int a), (2, .int b), (3, .int c)]) (st' := [.int b, .int a, .ref 159]) rfl ?_
          obtain ⟨z73, h74, h75, h76⟩ := WT_peekJ (J := (4 * a.toInt + b.toInt + 10)) (l := 0) (u := 2) h67 (by decide +kernel : TG 160 = 36) (by decide +kernel) (by omega) (lnI (by decide +kernel : LN _ = 226) (by omega)) (FTrow 36 10 4 4 (by decide +kernel) (by omega) (by omega) (by omega))
          refine En_callV rfl rfl rfl rfl rfl rfl rfl rfl (by decide +kernel : TG 159 = 35) (by decide +kernel) rfl (c_290a σ66 h67 a b (geI rfl (by omega)) (leI rfl (by omega)) (geI rfl (by omega)) (leI rfl (by omega)) z73 h74) (by decide) (by decide) (fun v78 σ79 h77 => ?_)
          obtain ⟨h80, h81, z83, rfl, h82⟩ := h77
          have h84 := Fr_trans h71 h81 (by decide +kernel)
          refine En_Ps 2 (pc' := 52) (lv' := [(4, .int z83), (0, .ref 159), (1, .int a), (2, .int b), (3, .int c)]) (st' := [.ref 159]) rfl ?_
          refine En_getU (j := 1) (u := 160) (g' := 36) (q := 0) rfl rfl rfl (by decide +kernel : TG 159 = 35) (by decide +kernel) h80 (by decide +kernel) (by decide +kernel) (fun h85 => ?_)
          refine En_Ps 4 (pc' := 60) (lv' := [(4, .int z83), (0, .ref 159), (1, .int a), (2, .int b), (3, .int c)]) (st' := [.int ((((Int32.ofInt 4)) * a)), .int (((Int8.ofInt 10).toInt32)), .ref 160]) rfl ?_
          refine En_top (mulI (by decide : (Int32.ofInt 4).toInt = 4) rfl (Z := 4 * a.toInt) (by omega) (by omega) (by omega)) (fun z87 h88 => ?_)
          refine En_Ps 1 (pc' := 61) (lv' := [(4, .int z83), (0, .ref 159), (1, .int a), (2, .int b), (3, .int c)]) (st' := [.int (((((Int8.ofInt 10).toInt32)) + z87)), .ref 160]) rfl ?_
          refine En_top (addI (by decide : ((Int8.ofInt 10).toInt32).toInt = 10) rfl (by omega) (by omega)) (fun z89 h90 => ?_)
          refine En_Ps 2 (pc' := 63) (lv' := [(4, .int z83), (0, .ref 159), (1, .int a), (2, .int b), (3, .int c)]) (st' := [.int ((z89 + b)), .ref 160]) rfl ?_
          refine En_top (addI rfl rfl (by omega) (by omega)) (fun z91 h92 => ?_)
          refine En_Ps 1 (pc' := 64) (lv' := [(4, .int z83), (0, .ref 159), (1, .int a), (2, .int b), (3, .int c)]) (st' := [.int c, .int z91, .ref 160]) rfl ?_
          refine En_iast (l := 0) (u := 2) rfl rfl (by decide +kernel : TG 160 = 36) (by decide +kernel) (by omega) (lnI (by decide +kernel : LN _ = 226) (by omega)) (FTrow 36 10 4 4 (by decide +kernel) (by omega) (by omega) (by omega)) (rngI rfl (by omega) (by omega)) h80 h84 (by decide +kernel) (fun σ93 h94 h95 h96 h97 => ?_)
          refine En_Ps 1 (pc' := 67) (lv' := [(4, .int z83), (0, .ref 159), (1, .int a), (2, .int b), (3, .int c)]) (st' := [.int z83]) rfl ?_
          exact En_ret (v := some (.int z83)) rfl rfl rfl ⟨h94, h95, z83, rfl, (by omega)⟩
        · refine En_Ps 1 (pc' := 42) (lv' := [(0, .ref 159), (1, .int a), (2, .int b), (3, .int c)]) (st' := [.int (((Int8.ofInt (-2)).toInt32))]) rfl ?_
          refine En_top (by decide : ((Int8.ofInt (-2)).toInt32).toInt = -2) (fun z98 h99 => ?_)
          exact En_ret (v := some (.int z98)) rfl rfl rfl ⟨h67, h71, z98, rfl, (by omega)⟩
