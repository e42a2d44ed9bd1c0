/-- DoorSchoolModel.told(Ljava/lang/String;II)I -/
abbrev P_323s0 (σ0 : SG) (b : Int32) (c : Int32) (f : Int32) (k : Int32) : PO := fun v σ => WT σ ∧ Fr [(35, 8), (35, 9), (35, 10), (35, 11), (35, 12), (35, 13)] σ0 σ ∧ ∃ f1 : Int32, (σ 159)[8]? = some (.int f1) ∧ ∃ k1 : Int32, (σ 159)[12]? = some (.int k1) ∧ ∃ ret : Int32, v = some (.int ret) ∧ -ret.toInt ≤ 0 ∧ ret.toInt - 99999 ≤ 0 ∧ -f1.toInt ≤ 0 ∧ f1.toInt - 1600 ≤ 0 ∧ -f1.toInt + f.toInt ≤ 0 ∧ f1.toInt - f.toInt - 1600 ≤ 0 ∧ -f1.toInt + k.toInt - 3 ≤ 0 ∧ f1.toInt - k.toInt - 1600 ≤ 0 ∧ -k1.toInt ≤ 0 ∧ k1.toInt - 3 ≤ 0 ∧ -k1.toInt + f.toInt - 1600 ≤ 0 ∧ k1.toInt - f.toInt - 3 ≤ 0 ∧ -k1.toInt + k.toInt ≤ 0 ∧ k1.toInt - k.toInt - 3 ≤ 0 ∧ f.toInt - f1.toInt ≤ 0 ∧ (b.toInt ≤ 0 → b.toInt - ret.toInt ≤ 0) ∧ (-b.toInt ≤ 0 → -ret.toInt ≤ 0) ∧ (-c.toInt ≤ 0 → ret.toInt - c.toInt ≤ 0) ∧ (c.toInt ≤ 0 → ret.toInt ≤ 0) ∧ (k1.toInt ≤ 0 → k.toInt ≤ 0 ∧ b.toInt - ret.toInt ≤ 0 ∧ ret.toInt - c.toInt ≤ 0)
set_option maxRecDepth 10000 in
set_option maxHeartbeats 4000000 in
theorem c_323s0 (σ0 : SG) (hσ0 : WT σ0) (b : Int32) (c : Int32) (f : Int32) (h_f : (σ0 159)[8]? = some (.int f)) (k : Int32) (h_k : (σ0 159)[12]? = some (.int k)) : En 7 156 none mr_323 (P_323s0 σ0 b c f k) 0 [(0, .ref 159), (1, .retAddr 1), (2, .int b), (3, .int c)] [] σ0 := by
  obtain ⟨hl_f, hu_f⟩ := WT_int hσ0 (g := 35) (by decide +kernel) (by decide +kernel) (l := 0) (u := 1600) (by decide +kernel) h_f
  obtain ⟨hl_k, hu_k⟩ := WT_int hσ0 (g := 35) (by decide +kernel) (by decide +kernel) (l := 0) (u := 3) (by decide +kernel) h_k
  have hF0 : Fr [(35, 8), (35, 9), (35, 10), (35, 11), (35, 12), (35, 13)] σ0 σ0 := Fr_rfl
  refine En_Ps 2 (pc' := 2) (lv' := [(0, .ref 159), (1, .retAddr 1), (2, .int b), (3, .int c)]) (st' := [.retAddr 1, .ref 159]) rfl ?_
  refine En_callV rfl rfl rfl rfl rfl rfl rfl rfl (by decide +kernel : TG 159 = 35) (by decide +kernel) rfl (c_286s0 σ0 hσ0 f h_f k h_k) (by decide) (by decide) (fun v2 σ3 h1 => ?_)
  obtain ⟨h4, h5, z7, h8, z9, h10, rfl, h6⟩ := h1
  have h11 := Fr_trans hF0 h5 (by decide +kernel)
  refine En_Ps 3 (pc' := 8) (lv' := [(0, .ref 159), (1, .retAddr 1), (2, .int b), (3, .int c)]) (st' := [.int c, .int b, .ref 159]) rfl ?_
  obtain ⟨z13, h12, h14, h15⟩ := WT_peekI h4 (by decide +kernel : TG 159 = 35) (by decide +kernel : FT 35 10 = (0, 0, 4)) (by decide +kernel)
  obtain ⟨z17, h16, h18, h19⟩ := WT_peekI h4 (by decide +kernel : TG 159 = 35) (by decide +kernel : FT 35 11 = (0, 0, 99999)) (by decide +kernel)
  refine En_callV rfl rfl rfl rfl rfl rfl rfl rfl (by decide +kernel : TG 159 = 35) (by decide +kernel) rfl (c_288 σ3 h4 b c z7 h8 z9 h10 z13 h12 z17 h16) (by decide) (by decide) (fun v21 σ22 h20 => ?_)
  obtain ⟨h23, h24, z26, h27, z28, h29, z30, rfl, h25⟩ := h20
  have h31 := Fr_trans h11 h24 (by decide +kernel)
  exact En_ret (v := some (.int z30)) rfl rfl rfl ⟨h23, h31, z26, h27, z28, h29, z30, rfl, (by omega)⟩
/-- DoorSchoolModel.told(Ljava/lang/String;II)I -/
abbrev P_323s1 (σ0 : SG) (b : Int32) (c : Int32) (f : Int32) (k : Int32) : PO := fun v σ => WT σ ∧ Fr [(35, 8), (35, 9), (35, 10), (35, 11), (35, 12), (35, 13)] σ0 σ ∧ ∃ f1 : Int32, (σ 159)[8]? = some (.int f1) ∧ ∃ k1 : Int32, (σ 159)[12]? = some (.int k1) ∧ ∃ ret : Int32, v = some (.int ret) ∧ -ret.toInt ≤ 0 ∧ ret.toInt - 99999 ≤ 0 ∧ -f1.toInt ≤ 0 ∧ f1.toInt - 1600 ≤ 0 ∧ -f1.toInt + f.toInt ≤ 0 ∧ f1.toInt - f.toInt - 1600 ≤ 0 ∧ -f1.toInt + k.toInt - 3 ≤ 0 ∧ f1.toInt - k.toInt - 1600 ≤ 0 ∧ -k1.toInt ≤ 0 ∧ k1.toInt - 3 ≤ 0 ∧ -k1.toInt + f.toInt - 1600 ≤ 0 ∧ k1.toInt - f.toInt - 3 ≤ 0 ∧ -k1.toInt + k.toInt ≤ 0 ∧ k1.toInt - k.toInt - 3 ≤ 0 ∧ f.toInt - f1.toInt ≤ 0 ∧ (b.toInt ≤ 0 → b.toInt - ret.toInt ≤ 0) ∧ (-b.toInt ≤ 0 → -ret.toInt ≤ 0) ∧ (-c.toInt ≤ 0 → ret.toInt - c.toInt ≤ 0) ∧ (c.toInt ≤ 0 → ret.toInt ≤ 0) ∧ (k1.toInt ≤ 0 → k.toInt ≤ 0 ∧ b.toInt - ret.toInt ≤ 0 ∧ ret.toInt - c.toInt ≤ 0)
set_option maxRecDepth 10000 in
set_option maxHeartbeats 4000000 in
theorem c_323s1 (σ0 : SG) (hσ0 : WT σ0) (b : Int32) (c : Int32) (f : Int32) (h_f : (σ0 159)[8]? = some (.int f)) (k : Int32) (h_k : (σ0 159)[12]? = some (.int k)) : En 7 156 none mr_323 (P_323s1 σ0 b c f k) 0 [(0, .ref 159), (1, .retAddr 3), (2, .int b), (3, .int c)] [] σ0 := by
  obtain ⟨hl_f, hu_f⟩ := WT_int hσ0 (g := 35) (by decide +kernel) (by decide +kernel) (l := 0) (u := 1600) (by decide +kernel) h_f
  obtain ⟨hl_k, hu_k⟩ := WT_int hσ0 (g := 35) (by decide +kernel) (by decide +kernel) (l := 0) (u := 3) (by decide +kernel) h_k
  have hF0 : Fr [(35, 8), (35, 9), (35, 10), (35, 11), (35, 12), (35, 13)] σ0 σ0 := Fr_rfl
  refine En_Ps 2 (pc' := 2) (lv' := [(0, .ref 159), (1, .retAddr 3), (2, .int b), (3, .int c)]) (st' := [.retAddr 3, .ref 159]) rfl ?_
  refine En_callV rfl rfl rfl rfl rfl rfl rfl rfl (by decide +kernel : TG 159 = 35) (by decide +kernel) rfl (c_286s1 σ0 hσ0 f h_f k h_k) (by decide) (by decide) (fun v2 σ3 h1 => ?_)
  obtain ⟨h4, h5, z7, h8, z9, h10, rfl, h6⟩ := h1
  have h11 := Fr_trans hF0 h5 (by decide +kernel)
  refine En_Ps 3 (pc' := 8) (lv' := [(0, .ref 159), (1, .retAddr 3), (2, .int b), (3, .int c)]) (st' := [.int c, .int b, .ref 159]) rfl ?_
  obtain ⟨z13, h12, h14, h15⟩ := WT_peekI h4 (by decide +kernel : TG 159 = 35) (by decide +kernel : FT 35 10 = (0, 0, 4)) (by decide +kernel)
  obtain ⟨z17, h16, h18, h19⟩ := WT_peekI h4 (by decide +kernel : TG 159 = 35) (by decide +kernel : FT 35 11 = (0, 0, 99999)) (by decide +kernel)
  refine En_callV rfl rfl rfl rfl rfl rfl rfl rfl (by decide +kernel : TG 159 = 35) (by decide +kernel) rfl (c_288 σ3 h4 b c z7 h8 z9 h10 z13 h12 z17 h16) (by decide) (by decide) (fun v21 σ22 h20 => ?_)
  obtain ⟨h23, h24, z26, h27, z28, h29, z30, rfl, h25⟩ := h20
  have h31 := Fr_trans h11 h24 (by decide +kernel)
  exact En_ret (v := some (.int z30)) rfl rfl rfl ⟨h23, h31, z26, h27, z28, h29, z30, rfl, (by omega)⟩
/-- DoorSchoolModel.told(Ljava/lang/String;II)I -/
abbrev P_323s2 (σ0 : SG) (b : Int32) (c : Int32) (f : Int32) (k : Int32) : PO := fun v σ => WT σ ∧ Fr [(35, 8), (35, 9), (35, 10), (35, 11), (35, 12), (35, 13)] σ0 σ ∧ ∃ f1 : Int32, (σ 159)[8]? = some (.int f1) ∧ ∃ k1 : Int32, (σ 159)[12]? = some (.int k1) ∧ ∃ ret : Int32, v = some (.int ret) ∧ -ret.toInt ≤ 0 ∧ ret.toInt - 99999 ≤ 0 ∧ -f1.toInt ≤ 0 ∧ f1.toInt - 1600 ≤ 0 ∧ -f1.toInt + f.toInt ≤ 0 ∧ f1.toInt - f.toInt - 1600 ≤ 0 ∧ -f1.toInt + k.toInt - 3 ≤ 0 ∧ f1.toInt - k.toInt - 1600 ≤ 0 ∧ -k1.toInt ≤ 0 ∧ k1.toInt - 3 ≤ 0 ∧ -k1.toInt + f.toInt - 1600 ≤ 0 ∧ k1.toInt - f.toInt - 3 ≤ 0 ∧ -k1.toInt + k.toInt ≤ 0 ∧ k1.toInt - k.toInt - 3 ≤ 0 ∧ f.toInt - f1.toInt ≤ 0 ∧ (b.toInt ≤ 0 → b.toInt - ret.toInt ≤ 0) ∧ (-b.toInt ≤ 0 → -ret.toInt ≤ 0) ∧ (-c.toInt ≤ 0 → ret.toInt - c.toInt ≤ 0) ∧ (c.toInt ≤ 0 → ret.toInt ≤ 0) ∧ (k1.toInt ≤ 0 → k.toInt ≤ 0 ∧ b.toInt - ret.toInt ≤ 0 ∧ ret.toInt - c.toInt ≤ 0)
set_option maxRecDepth 10000 in
set_option maxHeartbeats 4000000 in
theorem c_323s2 (σ0 : SG) (hσ0 : WT σ0) (b : Int32) (c : Int32) (f : Int32) (h_f : (σ0 159)[8]? = some (.int f)) (k : Int32) (h_k : (σ0 159)[12]? = some (.int k)) : En 7 156 none mr_323 (P_323s2 σ0 b c f k) 0 [(0, .ref 159), (1, .retAddr 5), (2, .int b), (3, .int c)] [] σ0 := by
  obtain ⟨hl_f, hu_f⟩ := WT_int hσ0 (g := 35) (by decide +kernel) (by decide +kernel) (l := 0) (u := 1600) (by decide +kernel) h_f
  obtain ⟨hl_k, hu_k⟩ := WT_int hσ0 (g := 35) (by decide +kernel) (by decide +kernel) (l := 0) (u := 3) (by decide +kernel) h_k
  have hF0 : Fr [(35, 8), (35, 9), (35, 10), (35, 11), (35, 12), (35, 13)] σ0 σ0 := Fr_rfl
  refine En_Ps 2 (pc' := 2) (lv' := [(0, .ref 159), (1, .retAddr 5), (2, .int b), (3, .int c)]) (st' := [.retAddr 5, .ref 159]) rfl ?_
  refine En_callV rfl rfl rfl rfl rfl rfl rfl rfl (by decide +kernel : TG 159 = 35) (by decide +kernel) rfl (c_286s2 σ0 hσ0 f h_f k h_k) (by decide) (by decide) (fun v2 σ3 h1 => ?_)
  obtain ⟨h4, h5, z7, h8, z9, h10, rfl, h6⟩ := h1
  have h11 := Fr_trans hF0 h5 (by decide +kernel)
  refine En_Ps 3 (pc' := 8) (lv' := [(0, .ref 159), (1, .retAddr 5), (2, .int b), (3, .int c)]) (st' := [.int c, .int b, .ref 159]) rfl ?_
  obtain ⟨z13, h12, h14, h15⟩ := WT_peekI h4 (by decide +kernel : TG 159 = 35) (by decide +kernel : FT 35 10 = (0, 0, 4)) (by decide +kernel)
  obtain ⟨z17, h16, h18, h19⟩ := WT_peekI h4 (by decide +kernel : TG 159 = 35) (by decide +kernel : FT 35 11 = (0, 0, 99999)) (by decide +kernel)
  refine En_callV rfl rfl rfl rfl rfl rfl rfl rfl (by decide +kernel : TG 159 = 35) (by decide +kernel) rfl (c_288 σ3 h4 b c z7 h8 z9 h10 z13 h12 z17 h16) (by decide) (by decide) (fun v21 σ22 h20 => ?_)
  obtain ⟨h23, h24, z26, h27, z28, h29, z30, rfl, h25⟩ := h20
  have h31 := Fr_trans h11 h24 (by decide +kernel)
  exact En_ret (v := some (.int z30)) rfl rfl rfl ⟨h23, h31, z26, h27, z28, h29, z30, rfl, (by omega)⟩
/-- DoorSchoolModel.told(Ljava/lang/String;II)I -/
abbrev P_323s3 (σ0 : SG) (b : Int32) (c : Int32) (f : Int32) (k : Int32) : PO := fun v σ => WT σ ∧ Fr [(35, 8), (35, 9), (35, 10), (35, 11), (35, 12), (35, 13)] σ0 σ ∧ ∃ f1 : Int32, (σ 159)[8]? = some (.int f1) ∧ ∃ k1 : Int32, (σ 159)[12]? = some (.int k1) ∧ ∃ ret : Int32, v = some (.int ret) ∧ -ret.toInt ≤ 0 ∧ ret.toInt - 99999 ≤ 0 ∧ -f1.toInt ≤ 0 ∧ f1.toInt - 1600 ≤ 0 ∧ -f1.toInt + f.toInt ≤ 0 ∧ f1.toInt - f.toInt - 1600 ≤ 0 ∧ -f1.toInt + k.toInt - 3 ≤ 0 ∧ f1.toInt - k.toInt - 1600 ≤ 0 ∧ -k1.toInt ≤ 0 ∧ k1.toInt - 3 ≤ 0 ∧ -k1.toInt + f.toInt - 1600 ≤ 0 ∧ k1.toInt - f.toInt - 3 ≤ 0 ∧ -k1.toInt + k.toInt ≤ 0 ∧ k1.toInt - k.toInt - 3 ≤ 0 ∧ f.toInt - f1.toInt ≤ 0 ∧ (b.toInt ≤ 0 → b.toInt - ret.toInt ≤ 0) ∧ (-b.toInt ≤ 0 → -ret.toInt ≤ 0) ∧ (-c.toInt ≤ 0 → ret.toInt - c.toInt ≤ 0) ∧ (c.toInt ≤ 0 → ret.toInt ≤ 0) ∧ (k1.toInt ≤ 0 → k.toInt ≤ 0 ∧ b.toInt - ret.toInt ≤ 0 ∧ ret.toInt - c.toInt ≤ 0)
set_option maxRecDepth 10000 in
set_option maxHeartbeats 4000000 in
theorem c_323s3 (σ0 : SG) (hσ0 : WT σ0) (b : Int32) (c : Int32) (f : Int32) (h_f : (σ0 159)[8]? = some (.int f)) (k : Int32) (h_k : (σ0 159)[12]? = some (.int k)) : En 7 156 none mr_323 (P_323s3 σ0 b c f k) 0 [(0, .ref 159), (1, .retAddr 7), (2, .int b), (3, .int c)] [] σ0 := by
  obtain ⟨hl_f, hu_f⟩ := WT_int hσ0 (g := 35) (by decide +kernel) (by decide +kernel) (l := 0) (u := 1600) (by decide +kernel) h_f
  obtain ⟨hl_k, hu_k⟩ := WT_int hσ0 (g := 35) (by decide +kernel) (by decide +kernel) (l := 0) (u := 3) (by decide +kernel) h_k
  have hF0 : Fr [(35, 8), (35, 9), (35, 10), (35, 11), (35, 12), (35, 13)] σ0 σ0 := Fr_rfl
  refine En_Ps 2 (pc' := 2) (lv' := [(0, .ref 159), (1, .retAddr 7), (2, .int b), (3, .int c)]) (st' := [.retAddr 7, .ref 159]) rfl ?_
  refine En_callV rfl rfl rfl rfl rfl rfl rfl rfl (by decide +kernel : TG 159 = 35) (by decide +kernel) rfl (c_286s3 σ0 hσ0 f h_f k h_k) (by decide) (by decide) (fun v2 σ3 h1 => ?_)
  obtain ⟨h4, h5, z7, h8, z9, h10, rfl, h6⟩ := h1
  have h11 := Fr_trans hF0 h5 (by decide +kernel)
  refine En_Ps 3 (pc' := 8) (lv' := [(0, .ref 159), (1, .retAddr 7), (2, .int b), (3, .int c)]) (st' := [.int c, .int b, .ref 159]) rfl ?_
  obtain ⟨z13, h12, h14, h15⟩ := WT_peekI h4 (by decide +kernel : TG 159 = 35) (by decide +kernel : FT 35 10 = (0, 0, 4)) (by decide +kernel)
  obtain ⟨z17, h16, h18, h19⟩ := WT_peekI h4 (by decide +kernel : TG 159 = 35) (by decide +kernel : FT 35 11 = (0, 0, 99999)) (by decide +kernel)
  refine En_callV rfl rfl rfl rfl rfl rfl rfl rfl (by decide +kernel : TG 159 = 35) (by decide +kernel) rfl (c_288 σ3 h4 b c z7 h8 z9 h10 z13 h12 z17 h16) (by decide) (by decide) (fun v21 σ22 h20 => ?_)
  obtain ⟨h23, h24, z26, h27, z28, h29, z30, rfl, h25⟩ := h20
  have h31 := Fr_trans h11 h24 (by decide +kernel)
  exact En_ret (v := some (.int z30)) rfl rfl rfl ⟨h23, h31, z26, h27, z28, h29, z30, rfl, (by omega)⟩
/-- DoorSchoolModel.told(Ljava/lang/String;II)I -/
abbrev P_323s4 (σ0 : SG) (b : Int32) (c : Int32) (f : Int32) (k : Int32) : PO := fun v σ => WT σ ∧ Fr [(35, 8), (35, 9), (35, 10), (35, 11), (35, 12), (35, 13)] σ0 σ ∧ ∃ f1 : Int32, (σ 159)[8]? = some (.int f1) ∧ ∃ k1 : Int32, (σ 159)[12]? = some (.int k1) ∧ ∃ ret : Int32, v = some (.int ret) ∧ -ret.toInt ≤ 0 ∧ ret.toInt - 99999 ≤ 0 ∧ -f1.toInt ≤ 0 ∧ f1.toInt - 1600 ≤ 0 ∧ -f1.toInt + f.toInt ≤ 0 ∧ f1.toInt - f.toInt - 1600 ≤ 0 ∧ -f1.toInt + k.toInt - 3 ≤ 0 ∧ f1.toInt - k.toInt - 1600 ≤ 0 ∧ -k1.toInt ≤ 0 ∧ k1.toInt - 3 ≤ 0 ∧ -k1.toInt + f.toInt - 1600 ≤ 0 ∧ k1.toInt - f.toInt - 3 ≤ 0 ∧ -k1.toInt + k.toInt ≤ 0 ∧ k1.toInt - k.toInt - 3 ≤ 0 ∧ f.toInt - f1.toInt ≤ 0 ∧ (b.toInt ≤ 0 → b.toInt - ret.toInt ≤ 0) ∧ (-b.toInt ≤ 0 → -ret.toInt ≤ 0) ∧ (-c.toInt ≤ 0 → ret.toInt - c.toInt ≤ 0) ∧ (c.toInt ≤ 0 → ret.toInt ≤ 0) ∧ (k1.toInt ≤ 0 → k.toInt ≤ 0 ∧ b.toInt - ret.toInt ≤ 0 ∧ ret.toInt - c.toInt ≤ 0)
set_option maxRecDepth 10000 in
set_option maxHeartbeats 4000000 in
theorem c_323s4 (σ0 : SG) (hσ0 : WT σ0) (b : Int32) (c : Int32) (f : Int32) (h_f : (σ0 159)[8]? = some (.int f)) (k : Int32) (h_k : (σ0 159)[12]? = some (.int k)) : En 7 156 none mr_323 (P_323s4 σ0 b c f k) 0 [(0, .ref 159), (1, .retAddr 9), (2, .int b), (3, .int c)] [] σ0 := by
  obtain ⟨hl_f, hu_f⟩ := WT_int hσ0 (g := 35) (by decide +kernel) (by decide +kernel) (l := 0) (u := 1600) (by decide +kernel) h_f
  obtain ⟨hl_k, hu_k⟩ := WT_int hσ0 (g := 35) (by decide +kernel) (by decide +kernel) (l := 0) (u := 3) (by decide +kernel) h_k
  have hF0 : Fr [(35, 8), (35, 9), (35, 10), (35, 11), (35, 12), (35, 13)] σ0 σ0 := Fr_rfl
  refine En_Ps 2 (pc' := 2) (lv' := [(0, .ref 159), (1, .retAddr 9), (2, .int b), (3, .int c)]) (st' := [.retAddr 9, .ref 159]) rfl ?_
  refine En_callV rfl rfl rfl rfl rfl rfl rfl rfl (by decide +kernel : TG 159 = 35) (by decide +kernel) rfl (c_286s4 σ0 hσ0 f h_f k h_k) (by decide) (by decide) (fun v2 σ3 h1 => ?_)
  obtain ⟨h4, h5, z7, h8, z9, h10, rfl, h6⟩ := h1
  have h11 := Fr_trans hF0 h5 (by decide +kernel)
  refine En_Ps 3 (pc' := 8) (lv' := [(0, .ref 159), (1, .retAddr 9), (2, .int b), (3, .int c)]) (st' := [.int c, .int b, .ref 159]) rfl ?_
  obtain ⟨z13, h12, h14, h15⟩ := WT_peekI h4 (by decide +kernel : TG 159 = 35) (by decide +kernel : FT 35 10 = (0, 0, 4)) (by decide +kernel)
  obtain ⟨z17, h16, h18, h19⟩ := WT_peekI h4 (by decide +kernel : TG 159 = 35) (by decide +kernel : FT 35 11 = (0, 0, 99999)) (by decide +kernel)
  refine En_callV rfl rfl rfl rfl rfl rfl rfl rfl (by decide +kernel : TG 159 = 35) (by decide +kernel) rfl (c_288 σ3 h4 b c z7 h8 z9 h10 z13 h12 z17 h16) (by decide) (by decide) (fun v21 σ22 h20 => ?_)
  obtain ⟨h23, h24, z26, h27, z28, h29, z30, rfl, h25⟩ := h20
  have h31 := Fr_trans h11 h24 (by decide +kernel)
  exact En_ret (v := some (.int z30)) rfl rfl rfl ⟨h23, h31, z26, h27, z28, h29, z30, rfl, (by omega)⟩
/-- DoorSchoolModel.told(Ljava/lang/String;II)I -/
abbrev P_323s5 (σ0 : SG) (b : Int32) (c : Int32) (f : Int32) (k : Int32) : PO := fun v σ => WT σ ∧ Fr [(35, 8), (35, 9), (35, 10), (35, 11), (35, 12), (35, 13)] σ0 σ ∧ ∃ f1 : Int32, (σ 159)[8]? = some (.int f1) ∧ ∃ k1 : Int32, (σ 159)[12]? = some (.int k1) ∧ ∃ ret : Int32, v = some (.int ret) ∧ -ret.toInt ≤ 0 ∧ ret.toInt - 99999 ≤ 0 ∧ -f1.toInt ≤ 0 ∧ f1.toInt - 1600 ≤ 0 ∧ -f1.toInt + f.toInt ≤ 0 ∧ f1.toInt - f.toInt - 1600 ≤ 0 ∧ -f1.toInt + k.toInt - 3 ≤ 0 ∧ f1.toInt - k.toInt - 1600 ≤ 0 ∧ -k1.toInt ≤ 0 ∧ k1.toInt - 3 ≤ 0 ∧ -k1.toInt + f.toInt - 1600 ≤ 0 ∧ k1.toInt - f.toInt - 3 ≤ 0 ∧ -k1.toInt + k.toInt ≤ 0 ∧ k1.toInt - k.toInt - 3 ≤ 0 ∧ f.toInt - f1.toInt ≤ 0 ∧ (b.toInt ≤ 0 → b.toInt - ret.toInt ≤ 0) ∧ (-b.toInt ≤ 0 → -ret.toInt ≤ 0) ∧ (-c.toInt ≤ 0 → ret.toInt - c.toInt ≤ 0) ∧ (c.toInt ≤ 0 → ret.toInt ≤ 0) ∧ (k1.toInt ≤ 0 → k.toInt ≤ 0 ∧ b.toInt - ret.toInt ≤ 0 ∧ ret.toInt - c.toInt ≤ 0)
set_option maxRecDepth 10000 in
set_option maxHeartbeats 4000000 in
theorem c_323s5 (σ0 : SG) (hσ0 : WT σ0) (b : Int32) (c : Int32) (f : Int32) (h_f : (σ0 159)[8]? = some (.int f)) (k : Int32) (h_k : (σ0 159)[12]? = some (.int k)) : En 7 156 none mr_323 (P_323s5 σ0 b c f k) 0 [(0, .ref 159), (1, .retAddr 11), (2, .int b), (3, .int c)] [] σ0 := by
  obtain ⟨hl_f, hu_f⟩ := WT_int hσ0 (g := 35) (by decide +kernel) (by decide +kernel) (l := 0) (u := 1600) (by decide +kernel) h_f
  obtain ⟨hl_k, hu_k⟩ := WT_int hσ0 (g := 35) (by decide +kernel) (by decide +kernel) (l := 0) (u := 3) (by decide +kernel) h_k
  have hF0 : Fr [(35, 8), (35, 9), (35, 10), (35, 11), (35, 12), (35, 13)] σ0 σ0 := Fr_rfl
  refine En_Ps 2 (pc' := 2) (lv' := [(0, .ref 159), (1, .retAddr 11), (2, .int b), (3, .int c)]) (st' := [.retAddr 11, .ref 159]) rfl ?_
  refine En_callV rfl rfl rfl rfl rfl rfl rfl rfl (by decide +kernel : TG 159 = 35) (by decide +kernel) rfl (c_286s5 σ0 hσ0 f h_f k h_k) (by decide) (by decide) (fun v2 σ3 h1 => ?_)
  obtain ⟨h4, h5, z7, h8, z9, h10, rfl, h6⟩ := h1
  have h11 := Fr_trans hF0 h5 (by decide +kernel)
  refine En_Ps 3 (pc' := 8) (lv' := [(0, .ref 159), (1, .retAddr 11), (2, .int b), (3, .int c)]) (st' := [.int c, .int b, .ref 159]) rfl ?_
  obtain ⟨z13, h12, h14, h15⟩ := WT_peekI h4 (by decide +kernel : TG 159 = 35) (by decide +kernel : FT 35 10 = (0, 0, 4)) (by decide +kernel)
  obtain ⟨z17, h16, h18, h19⟩ := WT_peekI h4 (by decide +kernel : TG 159 = 35) (by decide +kernel : FT 35 11 = (0, 0, 99999)) (by decide +kernel)
  refine En_callV rfl rfl rfl rfl rfl rfl rfl rfl (by decide +kernel : TG 159 = 35) (by decide +kernel) rfl (c_288 σ3 h4 b c z7 h8 z9 h10 z13 h12 z17 h16) (by decide) (by decide) (fun v21 σ22 h20 => ?_)
  obtain ⟨h23, h24, z26, h27, z28, h29, z30, rfl, h25⟩ := h20
  have h31 := Fr_trans h11 h24 (by decide +kernel)
  exact En_ret (v := some (.int z30)) rfl rfl rfl ⟨h23, h31, z26, h27, z28, h29, z30, rfl, (by omega)⟩
/-- DoorSchoolModel.told(Ljava/lang/String;II)I -/
abbrev P_323s6 (σ0 : SG) (b : Int32) (c : Int32) (f : Int32) (k : Int32) : PO := fun v σ => WT σ ∧ Fr [(35, 8), (35, 9), (35, 10), (35, 11), (35, 12), (35, 13)] σ0 σ ∧ ∃ f1 : Int32, (σ 159)[8]? = some (.int f1) ∧ ∃ k1 : Int32, (σ 159)[12]? = some (.int k1) ∧ ∃ ret : Int32, v = some (.int ret) ∧ -ret.toInt ≤ 0 ∧ ret.toInt - 99999 ≤ 0 ∧ -f1.toInt ≤ 0 ∧ f1.toInt - 1600 ≤ 0 ∧ -f1.toInt + f.toInt ≤ 0 ∧ f1.toInt - f.toInt - 1600 ≤ 0 ∧ -f1.toInt + k.toInt - 3 ≤ 0 ∧ f1.toInt - k.toInt - 1600 ≤ 0 ∧ -k1.toInt ≤ 0 ∧ k1.toInt - 3 ≤ 0 ∧ -k1.toInt + f.toInt - 1600 ≤ 0 ∧ k1.toInt - f.toInt - 3 ≤ 0 ∧ -k1.toInt + k.toInt ≤ 0 ∧ k1.toInt - k.toInt - 3 ≤ 0 ∧ f.toInt - f1.toInt ≤ 0 ∧ (b.toInt ≤ 0 → b.toInt - ret.toInt ≤ 0) ∧ (-b.toInt ≤ 0 → -ret.toInt ≤ 0) ∧ (-c.toInt ≤ 0 → ret.toInt - c.toInt ≤ 0) ∧ (c.toInt ≤ 0 → ret.toInt ≤ 0) ∧ (k1.toInt ≤ 0 → k.toInt ≤ 0 ∧ b.toInt - ret.toInt ≤ 0 ∧ ret.toInt - c.toInt ≤ 0)
set_option maxRecDepth 10000 in
set_option maxHeartbeats 4000000 in
theorem c_323s6 (σ0 : SG) (hσ0 : WT σ0) (b : Int32) (c : Int32) (f : Int32) (h_f : (σ0 159)[8]? = some (.int f)) (k : Int32) (h_k : (σ0 159)[12]? = some (.int k)) : En 7 156 none mr_323 (P_323s6 σ0 b c f k) 0 [(0, .ref 159), (1, .retAddr 13), (2, .int b), (3, .int c)] [] σ0 := by
  obtain ⟨hl_f, hu_f⟩ := WT_int hσ0 (g := 35) (by decide +kernel) (by decide +kernel) (l := 0) (u := 1600) (by decide +kernel) h_f
  obtain ⟨hl_k, hu_k⟩ := WT_int hσ0 (g := 35) (by decide +kernel) (by decide +kernel) (l := 0) (u := 3) (by decide +kernel) h_k
  have hF0 : Fr [(35, 8), (35, 9), (35, 10), (35, 11), (35, 12), (35, 13)] σ0 σ0 := Fr_rfl
  refine En_Ps 2 (pc' := 2) (lv' := [(0, .ref 159), (1, .retAddr 13), (2, .int b), (3, .int c)]) (st' := [.retAddr 13, .ref 159]) rfl ?_
  refine En_callV rfl rfl rfl rfl rfl rfl rfl rfl (by decide +kernel : TG 159 = 35) (by decide +kernel) rfl (c_286s6 σ0 hσ0 f h_f k h_k) (by decide) (by decide) (fun v2 σ3 h1 => ?_)
  obtain ⟨h4, h5, z7, h8, z9, h10, rfl, h6⟩ := h1
  have h11 := Fr_trans hF0 h5 (by decide +kernel)
  refine En_Ps 3 (pc' := 8) (lv' := [(0, .ref 159), (1, .retAddr 13), (2, .int b), (3, .int c)]) (st' := [.int c, .int b, .ref 159]) rfl ?_
  obtain ⟨z13, h12, h14, h15⟩ := WT_peekI h4 (by decide +kernel : TG 159 = 35) (by decide +kernel : FT 35 10 = (0, 0, 4)) (by decide +kernel)
  obtain ⟨z17, h16, h18, h19⟩ := WT_peekI h4 (by decide +kernel : TG 159 = 35) (by decide +kernel : FT 35 11 = (0, 0, 99999)) (by decide +kernel)
  refine En_callV rfl rfl rfl rfl rfl rfl rfl rfl (by decide +kernel : TG 159 = 35) (by decide +kernel) rfl (c_288 σ3 h4 b c z7 h8 z9 h10 z13 h12 z17 h16) (by decide) (by decide) (fun v21 σ22 h20 => ?_)
  obtain ⟨h23, h24, z26, h27, z28, h29, z30, rfl, h25⟩ := h20
  have h31 := Fr_trans h11 h24 (by decide +kernel)
  exact En_ret (v := some (.int z30)) rfl rfl rfl ⟨h23, h31, z26, h27, z28, h29, z30, rfl, (by omega)⟩
/-- DoorSchoolModel.told(Ljava/lang/String;II)I -/
abbrev P_323s7 (σ0 : SG) (b : Int32) (c : Int32) (f : Int32) (k : Int32) : PO := fun v σ => WT σ ∧ Fr [(35, 8), (35, 9), (35, 10), (35, 11), (35, 12), (35, 13)] σ0 σ ∧ ∃ f1 : Int32, (σ 159)[8]? = some (.int f1) ∧ ∃ k1 : Int32, (σ 159)[12]? = some (.int k1) ∧ ∃ ret : Int32, v = some (.int ret) ∧ -ret.toInt ≤ 0 ∧ ret.toInt - 99999 ≤ 0 ∧ -f1.toInt ≤ 0 ∧ f1.toInt - 1600 ≤ 0 ∧ -f1.toInt + f.toInt ≤ 0 ∧ f1.toInt - f.toInt - 1600 ≤ 0 ∧ -f1.toInt + k.toInt - 3 ≤ 0 ∧ f1.toInt - k.toInt - 1600 ≤ 0 ∧ -k1.toInt ≤ 0 ∧ k1.toInt - 3 ≤ 0 ∧ -k1.toInt + f.toInt - 1600 ≤ 0 ∧ k1.toInt - f.toInt - 3 ≤ 0 ∧ -k1.toInt + k.toInt ≤ 0 ∧ k1.toInt - k.toInt - 3 ≤ 0 ∧ f.toInt - f1.toInt ≤ 0 ∧ (b.toInt ≤ 0 → b.toInt - ret.toInt ≤ 0) ∧ (-b.toInt ≤ 0 → -ret.toInt ≤ 0) ∧ (-c.toInt ≤ 0 → ret.toInt - c.toInt ≤ 0) ∧ (c.toInt ≤ 0 → ret.toInt ≤ 0) ∧ (k1.toInt ≤ 0 → k.toInt ≤ 0 ∧ b.toInt - ret.toInt ≤ 0 ∧ ret.toInt - c.toInt ≤ 0)
set_option maxRecDepth 10000 in
set_option maxHeartbeats 4000000 in
theorem c_323s7 (σ0 : SG) (hσ0 : WT σ0) (b : Int32) (c : Int32) (f : Int32) (h_f : (σ0 159)[8]? = some (.int f)) (k : Int32) (h_k : (σ0 159)[12]? = some (.int k)) : En 7 156 none mr_323 (P_323s7 σ0 b c f k) 0 [(0, .ref 159), (1, .retAddr 15), (2, .int b), (3, .int c)] [] σ0 := by
  obtain ⟨hl_f, hu_f⟩ := WT_int hσ0 (g := 35) (by decide +kernel) (by decide +kernel) (l := 0) (u := 1600) (by decide +kernel) h_f
  obtain ⟨hl_k, hu_k⟩ := WT_int hσ0 (g := 35) (by decide +kernel) (by decide +kernel) (l := 0) (u := 3) (by decide +kernel) h_k
  have hF0 : Fr [(35, 8), (35, 9), (35, 10), (35, 11), (35, 12), (35, 13)] σ0 σ0 := Fr_rfl
  refine En_Ps 2 (pc' := 2) (lv' := [(0, .ref 159), (1, .retAddr 15), (2, .int b), (3, .int c)]) (st' := [.retAddr 15, .ref 159]) rfl ?_
  refine En_callV rfl rfl rfl rfl rfl rfl rfl rfl (by decide +kernel : TG 159 = 35) (by decide +kernel) rfl (c_286s7 σ0 hσ0 f h_f k h_k) (by decide) (by decide) (fun v2 σ3 h1 => ?_)
  obtain ⟨h4, h5, z7, h8, z9, h10, rfl, h6⟩ := h1
  have h11 := Fr_trans hF0 h5 (by decide +kernel)
  refine En_Ps 3 (pc' := 8) (lv' := [(0, .ref 159), (1, .retAddr 15), (2, .int b), (3, .int c)]) (st' := [.int c, .int b, .ref 159]) rfl ?_
  obtain ⟨z13, h12, h14, h15⟩ := WT_peekI h4 (by decide +kernel : TG 159 = 35) (by decide +kernel : FT 35 10 = (0, 0, 4)) (by decide +kernel)
  obtain ⟨z17, h16, h18, h19⟩ := WT_peekI h4 (by decide +kernel : TG 159 = 35) (by decide +kernel : FT 35 11 = (0, 0, 99999)) (by decide +kernel)
  refine En_callV rfl rfl rfl rfl rfl rfl rfl rfl (by decide +kernel : TG 159 = 35) (by decide +kernel) rfl (c_288 σ3 h4 b c z7 h8 z9 h10 z13 h12 z17 h16) (by decide) (by decide) (fun v21 σ22 h20 => ?_)
  obtain ⟨h23, h24, z26, h27, z28, h29, z30, rfl, h25⟩ := h20
  have h31 := Fr_trans h11 h24 (by decide +kernel)
  exact En_ret (v := some (.int z30)) rfl rfl rfl ⟨h23, h31, z26, h27, z28, h29, z30, rfl, (by omega)⟩
/-- DoorSchoolModel.told(Ljava/lang/String;II)I -/
abbrev P_323s8 (σ0 : SG) (b : Int32) (c : Int32) (f : Int32) (k : Int32) : PO := fun v σ => WT σ ∧ Fr [(35, 8), (35, 9), (35, 10), (35, 11), (35, 12), (35, 13)] σ0 σ ∧ ∃ f1 : Int32, (σ 159)[8]? = some (.int f1) ∧ ∃ k1 : Int32, (σ 159)[12]? = some (.int k1) ∧ ∃ ret : Int32, v = some (.int ret) ∧ -ret.toInt ≤ 0 ∧ ret.toInt - 99999 ≤ 0 ∧ -f1.toInt ≤ 0 ∧ f1.toInt - 1600 ≤ 0 ∧ -f1.toInt + f.toInt ≤ 0 ∧ f1.toInt - f.toInt - 1600 ≤ 0 ∧ -f1.toInt + k.toInt - 3 ≤ 0 ∧ f1.toInt - k.toInt - 1600 ≤ 0 ∧ -k1.toInt ≤ 0 ∧ k1.toInt - 3 ≤ 0 ∧ -k1.toInt + f.toInt - 1600 ≤ 0 ∧ k1.toInt - f.toInt - 3 ≤ 0 ∧ -k1.toInt + k.toInt ≤ 0 ∧ k1.toInt - k.toInt - 3 ≤ 0 ∧ f.toInt - f1.toInt ≤ 0 ∧ (b.toInt ≤ 0 → b.toInt - ret.toInt ≤ 0) ∧ (-b.toInt ≤ 0 → -ret.toInt ≤ 0) ∧ (-c.toInt ≤ 0 → ret.toInt - c.toInt ≤ 0) ∧ (c.toInt ≤ 0 → ret.toInt ≤ 0) ∧ (k1.toInt ≤ 0 → k.toInt ≤ 0 ∧ b.toInt - ret.toInt ≤ 0 ∧ ret.toInt - c.toInt ≤ 0)
set_option maxRecDepth 10000 in
set_option maxHeartbeats 4000000 in
theorem c_323s8 (σ0 : SG) (hσ0 : WT σ0) (b : Int32) (c : Int32) (f : Int32) (h_f : (σ0 159)[8]? = some (.int f)) (k : Int32) (h_k : (σ0 159)[12]? = some (.int k)) : En 7 156 none mr_323 (P_323s8 σ0 b c f k) 0 [(0, .ref 159), (1, .retAddr 17), (2, .int b), (3, .int c)] [] σ0 := by
  obtain ⟨hl_f, hu_f⟩ := WT_int hσ0 (g := 35) (by decide +kernel) (by decide +kernel) (l := 0) (u := 1600) (by decide +kernel) h_f
  obtain ⟨hl_k, hu_k⟩ := WT_int hσ0 (g := 35) (by decide +kernel) (by decide +kernel) (l := 0) (u := 3) (by decide +kernel) h_k
  have hF0 : Fr [(35, 8), (35, 9), (35, 10), (35, 11), (35, 12), (35, 13)] σ0 σ0 := Fr_rfl
  refine En_Ps 2 (pc' := 2) (lv' := [(0, .ref 159), (1, .retAddr 17), (2, .int b), (3, .int c)]) (st' := [.retAddr 17, .ref 159]) rfl ?_
  refine En_callV rfl rfl rfl rfl rfl rfl rfl rfl (by decide +kernel : TG 159 = 35) (by decide +kernel) rfl (c_286s8 σ0 hσ0 f h_f k h_k) (by decide) (by decide) (fun v2 σ3 h1 => ?_)
  obtain ⟨h4, h5, z7, h8, z9, h10, rfl, h6⟩ := h1
  have h11 := Fr_trans hF0 h5 (by decide +kernel)
  refine En_Ps 3 (pc' := 8) (lv' := [(0, .ref 159), (1, .retAddr 17), (2, .int b), (3, .int c)]) (st' := [.int c, .int b, .ref 159]) rfl ?_
  obtain ⟨z13, h12, h14, h15⟩ := WT_peekI h4 (by decide +kernel : TG 159 = 35) (by decide +kernel : FT 35 10 = (0, 0, 4)) (by decide +kernel)
  obtain ⟨z17, h16, h18, h19⟩ := WT_peekI h4 (by decide +kernel : TG 159 = 35) (by decide +kernel : FT 35 11 = (0, 0, 99999)) (by decide +kernel)
  refine En_callV rfl rfl rfl rfl rfl rfl rfl rfl (by decide +kernel : TG 159 = 35) (by decide +kernel) rfl (c_288 σ3 h4 b c z7 h8 z9 h10 z13 h12 z17 h16) (by decide) (by decide) (fun v21 σ22 h20 => ?_)
  obtain ⟨h23, h24, z26, h27, z28, h29, z30, rfl, h25⟩ := h20
  have h31 := Fr_trans h11 h24 (by decide +kernel)
  exact En_ret (v := some (.int z30)) rfl rfl rfl ⟨h23, h31, z26, h27, z28, h29, z30, rfl, (by omega)⟩
/-- DoorSchoolModel.told(Ljava/lang/String;II)I -/
abbrev P_323s9 (σ0 : SG) (b : Int32) (c : Int32) (f : Int32) (k : Int32) : PO := fun v σ => WT σ ∧ Fr [(35, 8), (35, 9), (35, 10), (35, 11), (35, 12), (35, 13)] σ0 σ ∧ ∃ f1 : Int32, (σ 159)[8]? = some (.int f1) ∧ ∃ k1 : Int32, (σ 159)[12]? = some (.int k1) ∧ ∃ ret : Int32, v = some (.int ret) ∧ -ret.toInt ≤ 0 ∧ ret.toInt - 99999 ≤ 0 ∧ -f1.toInt ≤ 0 ∧ f1.toInt - 1600 ≤ 0 ∧ -f1.toInt + f.toInt ≤ 0 ∧ f1.toInt - f.toInt - 1600 ≤ 0 ∧ -f1.toInt + k.toInt - 3 ≤ 0 ∧ f1.toInt - k.toInt - 1600 ≤ 0 ∧ -k1.toInt ≤ 0 ∧ k1.toInt - 3 ≤ 0 ∧ -k1.toInt + f.toInt - 1600 ≤ 0 ∧ k1.toInt - f.toInt - 3 ≤ 0 ∧ -k1.toInt + k.toInt ≤ 0 ∧ k1.toInt - k.toInt - 3 ≤ 0 ∧ f.toInt - f1.toInt ≤ 0 ∧ (b.toInt ≤ 0 → b.toInt - ret.toInt ≤ 0) ∧ (-b.toInt ≤ 0 → -ret.toInt ≤ 0) ∧ (-c.toInt ≤ 0 → ret.toInt - c.toInt ≤ 0) ∧ (c.toInt ≤ 0 → ret.toInt ≤ 0) ∧ (k1.toInt ≤ 0 → k.toInt ≤ 0 ∧ b.toInt - ret.toInt ≤ 0 ∧ ret.toInt - c.toInt ≤ 0)
set_option maxRecDepth 10000 in
set_option maxHeartbeats 4000000 in
theorem c_323s9 (σ0 : SG) (hσ0 : WT σ0) (b : Int32) (c : Int32) (f : Int32) (h_f : (σ0 159)[8]? = some (.int f)) (k : Int32) (h_k : (σ0 159)[12]? = some (.int k)) : En 7 156 none mr_323 (P_323s9 σ0 b c f k) 0 [(0, .ref 159), (1, .retAddr 19), (2, .int b), (3, .int c)] [] σ0 := by
  obtain ⟨hl_f, hu_f⟩ := WT_int hσ0 (g := 35) (by decide +kernel) (by decide +kernel) (l := 0) (u := 1600) (by decide +kernel) h_f
  obtain ⟨hl_k, hu_k⟩ := WT_int hσ0 (g := 35) (by decide +kernel) (by decide +kernel) (l := 0) (u := 3) (by decide +kernel) h_k
  have hF0 : Fr [(35, 8), (35, 9), (35, 10), (35, 11), (35, 12), (35, 13)] σ0 σ0 := Fr_rfl
  refine En_Ps 2 (pc' := 2) (lv' := [(0, .ref 159), (1, .retAddr 19), (2, .int b), (3, .int c)]) (st' := [.retAddr 19, .ref 159]) rfl ?_
  refine En_callV rfl rfl rfl rfl rfl rfl rfl rfl (by decide +kernel : TG 159 = 35) (by decide +kernel) rfl (c_286s9 σ0 hσ0 f h_f k h_k) (by decide) (by decide) (fun v2 σ3 h1 => ?_)
  obtain ⟨h4, h5, z7, h8, z9, h10, rfl, h6⟩ := h1
  have h11 := Fr_trans hF0 h5 (by decide +kernel)
  refine En_Ps 3 (pc' := 8) (lv' := [(0, .ref 159), (1, .retAddr 19), (2, .int b), (3, .int c)]) (st' := [.int c, .int b, .ref 159]) rfl ?_
  obtain ⟨z13, h12, h14, h15⟩ := WT_peekI h4 (by decide +kernel : TG 159 = 35) (by decide +kernel : FT 35 10 = (0, 0, 4)) (by decide +kernel)
  obtain ⟨z17, h16, h18, h19⟩ := WT_peekI h4 (by decide +kernel : TG 159 = 35) (by decide +kernel : FT 35 11 = (0, 0, 99999)) (by decide +kernel)
  refine En_callV rfl rfl rfl rfl rfl rfl rfl rfl (by decide +kernel : TG 159 = 35) (by decide +kernel) rfl (c_288 σ3 h4 b c z7 h8 z9 h10 z13 h12 z17 h16) (by decide) (by decide) (fun v21 σ22 h20 => ?_)
  obtain ⟨h23, h24, z26, h27, z28, h29, z30, rfl, h25⟩ := h20
  have h31 := Fr_trans h11 h24 (by decide +kernel)
  exact En_ret (v := some (.int z30)) rfl rfl rfl ⟨h23, h31, z26, h27, z28, h29, z30, rfl, (by omega)⟩
/-- DoorSchoolModel.told(Ljava/lang/String;II)I -/
abbrev P_323s10 (σ0 : SG) (b : Int32) (c : Int32) (f : Int32) (k : Int32) : PO := fun v σ => WT σ ∧ Fr [(35, 8), (35, 9), (35, 10), (35, 11), (35, 12), (35, 13)] σ0 σ ∧ ∃ f1 : Int32, (σ 159)[8]? = some (.int f1) ∧ ∃ k1 : Int32, (σ 159)[12]? = some (.int k1) ∧ ∃ ret : Int32, v = some (.int ret) ∧ -ret.toInt ≤ 0 ∧ ret.toInt - 99999 ≤ 0 ∧ -f1.toInt ≤ 0 ∧ f1.toInt - 1600 ≤ 0 ∧ -f1.toInt + f.toInt ≤ 0 ∧ f1.toInt - f.toInt - 1600 ≤ 0 ∧ -f1.toInt + k.toInt - 3 ≤ 0 ∧ f1.toInt - k.toInt - 1600 ≤ 0 ∧ -k1.toInt ≤ 0 ∧ k1.toInt - 3 ≤ 0 ∧ -k1.toInt + f.toInt - 1600 ≤ 0 ∧ k1.toInt - f.toInt - 3 ≤ 0 ∧ -k1.toInt + k.toInt ≤ 0 ∧ k1.toInt - k.toInt - 3 ≤ 0 ∧ f.toInt - f1.toInt ≤ 0 ∧ (b.toInt ≤ 0 → b.toInt - ret.toInt ≤ 0) ∧ (-b.toInt ≤ 0 → -ret.toInt ≤ 0) ∧ (-c.toInt ≤ 0 → ret.toInt - c.toInt ≤ 0) ∧ (c.toInt ≤ 0 → ret.toInt ≤ 0) ∧ (k1.toInt ≤ 0 → k.toInt ≤ 0 ∧ b.toInt - ret.toInt ≤ 0 ∧ ret.toInt - c.toInt ≤ 0)
set_option maxRecDepth 10000 in
set_option maxHeartbeats 4000000 in
theorem c_323s10 (σ0 : SG) (hσ0 : WT σ0) (b : Int32) (c : Int32) (f : Int32) (h_f : (σ0 159)[8]? = some (.int f)) (k : Int32) (h_k : (σ0 159)[12]? = some (.int k)) : En 7 156 none mr_323 (P_323s10 σ0 b c f k) 0 [(0, .ref 159), (1, .retAddr 21), (2, .int b), (3, .int c)] [] σ0 := by
  obtain ⟨hl_f, hu_f⟩ := WT_int hσ0 (g := 35) (by decide +kernel) (by decide +kernel) (l := 0) (u := 1600) (by decide +kernel) h_f
  obtain ⟨hl_k, hu_k⟩ := WT_int hσ0 (g := 35) (by decide +kernel) (by decide +kernel) (l := 0) (u := 3) (by decide +kernel) h_k
  have hF0 : Fr [(35, 8), (35, 9), (35, 10), (35, 11), (35, 12), (35, 13)] σ0 σ0 := Fr_rfl
  refine En_Ps 2 (pc' := 2) (lv' := [(0, .ref 159), (1, .retAddr 21), (2, .int b), (3, .int c)]) (st' := [.retAddr 21, .ref 159]) rfl ?_
  refine En_callV rfl rfl rfl rfl rfl rfl rfl rfl (by decide +kernel : TG 159 = 35) (by decide +kernel) rfl (c_286s10 σ0 hσ0 f h_f k h_k) (by decide) (by decide) (fun v2 σ3 h1 => ?_)
  obtain ⟨h4, h5, z7, h8, z9, h10, rfl, h6⟩ := h1
  have h11 := Fr_trans hF0 h5 (by decide +kernel)
  refine En_Ps 3 (pc' := 8) (lv' := [(0, .ref 159), (1, .retAddr 21), (2, .int b), (3, .int c)]) (st' := [.int c, .int b, .ref 159]) rfl ?_
  obtain ⟨z13, h12, h14, h15⟩ := WT_peekI h4 (by decide +kernel : TG 159 = 35) (by decide +kernel : FT 35 10 = (0, 0, 4)) (by decide +kernel)
  obtain ⟨z17, h16, h18, h19⟩ := WT_peekI h4 (by decide +kernel : TG 159 = 35) (by decide +kernel : FT 35 11 = (0, 0, 99999)) (by decide +kernel)
  refine En_callV rfl rfl rfl rfl rfl rfl rfl rfl (by decide +kernel : TG 159 = 35) (by decide +kernel) rfl (c_288 σ3 h4 b c z7 h8 z9 h10 z13 h12 z17 h16) (by decide) (by decide) (fun v21 σ22 h20 => ?_)
  obtain ⟨h23, h24, z26, h27, z28, h29, z30, rfl, h25⟩ := h20
  have h31 := Fr_trans h11 h24 (by decide +kernel)
  exact En_ret (v := some (.int z30)) rfl rfl rfl ⟨h23, h31, z26, h27, z28, h29, z30, rfl, (by omega)⟩
/-- DoorSchoolModel.told(Ljava/lang/String;II)I -/
abbrev P_323s11 (σ0 : SG) (b : Int32) (c : Int32) (f : Int32) (k : Int32) : PO := fun v σ => WT σ ∧ Fr [(35, 8), (35, 9), (35, 10), (35, 11), (35, 12), (35, 13)] σ0 σ ∧ ∃ f1 : Int32, (σ 159)[8]? = some (.int f1) ∧ ∃ k1 : Int32, (σ 159)[12]? = some (.int k1) ∧ ∃ ret : Int32, v = some (.int ret) ∧ -ret.toInt ≤ 0 ∧ ret.toInt - 99999 ≤ 0 ∧ -f1.toInt ≤ 0 ∧ f1.toInt - 1600 ≤ 0 ∧ -f1.toInt + f.toInt ≤ 0 ∧ f1.toInt - f.toInt - 1600 ≤ 0 ∧ -f1.toInt + k.toInt - 3 ≤ 0 ∧ f1.toInt - k.toInt - 1600 ≤ 0 ∧ -k1.toInt ≤ 0 ∧ k1.toInt - 3 ≤ 0 ∧ -k1.toInt + f.toInt - 1600 ≤ 0 ∧ k1.toInt - f.toInt - 3 ≤ 0 ∧ -k1.toInt + k.toInt ≤ 0 ∧ k1.toInt - k.toInt - 3 ≤ 0 ∧ f.toInt - f1.toInt ≤ 0 ∧ (b.toInt ≤ 0 → b.toInt - ret.toInt ≤ 0) ∧ (-b.toInt ≤ 0 → -ret.toInt ≤ 0) ∧ (-c.toInt ≤ 0 → ret.toInt - c.toInt ≤ 0) ∧ (c.toInt ≤ 0 → ret.toInt ≤ 0) ∧ (k1.toInt ≤ 0 → k.toInt ≤ 0 ∧ b.toInt - ret.toInt ≤ 0 ∧ ret.toInt - c.toInt ≤ 0)
set_option maxRecDepth 10000 in
set_option maxHeartbeats 4000000 in
theorem c_323s11 (σ0 : SG) (hσ0 : WT σ0) (b : Int32) (c : Int32) (f : Int32) (h_f : (σ0 159)[8]? = some (.int f)) (k : Int32) (h_k : (σ0 159)[12]? = some (.int k)) : En 7 156 none mr_323 (P_323s11 σ0 b c f k) 0 [(0, .ref 159), (1, .retAddr 23), (2, .int b), (3, .int c)] [] σ0 := by
  obtain ⟨hl_f, hu_f⟩ := WT_int hσ0 (g := 35) (by decide +kernel) (by decide +kernel) (l := 0) (u := 1600) (by decide +kernel) h_f
  obtain ⟨hl_k, hu_k⟩ := WT_int hσ0 (g := 35) (by decide +kernel) (by decide +kernel) (l := 0) (u := 3) (by decide +kernel) h_k
  have hF0 : Fr [(35, 8), (35, 9), (35, 10), (35, 11), (35, 12), (35, 13)] σ0 σ0 := Fr_rfl
  refine En_Ps 2 (pc' := 2) (lv' := [(0, .ref 159), (1, .retAddr 23), (2, .int b), (3, .int c)]) (st' := [.retAddr 23, .ref 159]) rfl ?_
  refine En_callV rfl rfl rfl rfl rfl rfl rfl rfl (by decide +kernel : TG 159 = 35) (by decide +kernel) rfl (c_286s11 σ0 hσ0 f h_f k h_k) (by decide) (by decide) (fun v2 σ3 h1 => ?_)
  obtain ⟨h4, h5, z7, h8, z9, h10, rfl, h6⟩ := h1
  have h11 := Fr_trans hF0 h5 (by decide +kernel)
  refine En_Ps 3 (pc' := 8) (lv' := [(0, .ref 159), (1, .retAddr 23), (2, .int b), (3, .int c)]) (st' := [.int c, .int b, .ref 159]) rfl ?_
  obtain ⟨z13, h12, h14, h15⟩ := WT_peekI h4 (by decide +kernel : TG 159 = 35) (by decide +kernel : FT 35 10 = (0, 0, 4)) (by decide +kernel)
  obtain ⟨z17, h16, h18, h19⟩ := WT_peekI h4 (by decide +kernel : TG 159 = 35) (by decide +kernel : FT 35 11 = (0, 0, 99999)) (by decide +kernel)
  refine En_callV rfl rfl rfl rfl rfl rfl rfl rfl (by decide +kernel : TG 159 = 35) (by decide +kernel) rfl (c_288 σ3 h4 b c z7 h8 z9 h10 z13 h12 z17 h16) (by decide) (by decide) (fun v21 σ22 h20 => ?_)
  obtain ⟨h23, h24, z26, h27, z28, h29, z30, rfl, h25⟩ := h20
  have h31 := Fr_trans h11 h24 (by decide +kernel)
  exact En_ret (v := some (.int z30)) rfl rfl rfl ⟨h23, h31, z26, h27, z28, h29, z30, rfl, (by omega)⟩
/-- DoorSchoolModel.told(Ljava/lang/String;II)I -/
abbrev P_323s12 (σ0 : SG) (b : Int32) (c : Int32) (f : Int32) (k : Int32) : PO := fun v σ => WT σ ∧ Fr [(35, 8), (35, 9), (35, 10), (35, 11), (35, 12), (35, 13)] σ0 σ ∧ ∃ f1 : Int32, (σ 159)[8]? = some (.int f1) ∧ ∃ k1 : Int32, (σ 159)[12]? = some (.int k1) ∧ ∃ ret : Int32, v = some (.int ret) ∧ -ret.toInt ≤ 0 ∧ ret.toInt - 99999 ≤ 0 ∧ -f1.toInt ≤ 0 ∧ f1.toInt - 1600 ≤ 0 ∧ -f1.toInt + f.toInt ≤ 0 ∧ f1.toInt - f.toInt - 1600 ≤ 0 ∧ -f1.toInt + k.toInt - 3 ≤ 0 ∧ f1.toInt - k.toInt - 1600 ≤ 0 ∧ -k1.toInt ≤ 0 ∧ k1.toInt - 3 ≤ 0 ∧ -k1.toInt + f.toInt - 1600 ≤ 0 ∧ k1.toInt - f.toInt - 3 ≤ 0 ∧ -k1.toInt + k.toInt ≤ 0 ∧ k1.toInt - k.toInt - 3 ≤ 0 ∧ f.toInt - f1.toInt ≤ 0 ∧ (b.toInt ≤ 0 → b.toInt - ret.toInt ≤ 0) ∧ (-b.toInt ≤ 0 → -ret.toInt ≤ 0) ∧ (-c.toInt ≤ 0 → ret.toInt - c.toInt ≤ 0) ∧ (c.toInt ≤ 0 → ret.toInt ≤ 0) ∧ (k1.toInt ≤ 0 → k.toInt ≤ 0 ∧ b.toInt - ret.toInt ≤ 0 ∧ ret.toInt - c.toInt ≤ 0)
set_option maxRecDepth 10000 in
set_option maxHeartbeats 4000000 in
theorem c_323s12 (σ0 : SG) (hσ0 : WT σ0) (b : Int32) (c : Int32) (f : Int32) (h_f : (σ0 159)[8]? = some (.int f)) (k : Int32) (h_k : (σ0 159)[12]? = some (.int k)) : En 7 156 none mr_323 (P_323s12 σ0 b c f k) 0 [(0, .ref 159), (1, .retAddr 25), (2, .int b), (3, .int c)] [] σ0 := by
  obtain ⟨hl_f, hu_f⟩ := WT_int hσ0 (g := 35) (by decide +kernel) (by decide +kernel) (l := 0) (u := 1600) (by decide +kernel) h_f
  obtain ⟨hl_k, hu_k⟩ := WT_int hσ0 (g := 35) (by decide +kernel) (by decide +kernel) (l := 0) (u := 3) (by decide +kernel) h_k
  have hF0 : Fr [(35, 8), (35, 9), (35, 10), (35, 11), (35, 12), (35, 13)] σ0 σ0 := Fr_rfl
  refine En_Ps 2 (pc' := 2) (lv' := [(0, .ref 159), (1, .retAddr 25), (2, .int b), (3, .int c)]) (st' := [.retAddr 25, .ref 159]) rfl ?_
  refine En_callV rfl rfl rfl rfl rfl rfl rfl rfl (by decide +kernel : TG 159 = 35) (by decide +kernel) rfl (c_286s12 σ0 hσ0 f h_f k h_k) (by decide) (by decide) (fun v2 σ3 h1 => ?_)
  obtain ⟨h4, h5, z7, h8, z9, h10, rfl, h6⟩ := h1
  have h11 := Fr_trans hF0 h5 (by decide +kernel)
  refine En_Ps 3 (pc' := 8) (lv' := [(0, .ref 159), (1, .retAddr 25), (2, .int b), (3, .int c)]) (st' := [.int c, .int b, .ref 159]) rfl ?_
  obtain ⟨z13, h12, h14, h15⟩ := WT_peekI h4 (by decide +kernel : TG 159 = 35) (by decide +kernel : FT 35 10 = (0, 0, 4)) (by decide +kernel)
  obtain ⟨z17, h16, h18, h19⟩ := WT_peekI h4 (by decide +kernel : TG 159 = 35) (by decide +kernel : FT 35 11 = (0, 0, 99999)) (by decide +kernel)
  refine En_callV rfl rfl rfl rfl rfl rfl rfl rfl (by decide +kernel : TG 159 = 35) (by decide +kernel) rfl (c_288 σ3 h4 b c z7 h8 z9 h10 z13 h12 z17 h16) (by decide) (by decide) (fun v21 σ22 h20 => ?_)
  obtain ⟨h23, h24, z26, h27, z28, h29, z30, rfl, h25⟩ := h20
  have h31 := Fr_trans h11 h24 (by decide +kernel)
  exact En_ret (v := some (.int z30)) rfl rfl rfl ⟨h23, h31, z26, h27, z28, h29, z30, rfl, (by omega)⟩
/-- DoorSchoolModel.told(Ljava/lang/String;II)I -/
abbrev P_323s13 (σ0 : SG) (b : Int32) (c : Int32) (f : Int32) (k : Int32) : PO := fun v σ => WT σ ∧ Fr [(35, 8), (35, 9), (35, 10), (35, 11), (35, 12), (35, 13)] σ0 σ ∧ ∃ f1 : Int32, (σ 159)[8]? = some (.int f1) ∧ ∃ k1 : Int32, (σ 159)[12]? = some (.int k1) ∧ ∃ ret : Int32, v = some (.int ret) ∧ -ret.toInt ≤ 0 ∧ ret.toInt - 99999 ≤ 0 ∧ -f1.toInt ≤ 0 ∧ f1.toInt - 1600 ≤ 0 ∧ -f1.toInt + f.toInt ≤ 0 ∧ f1.toInt - f.toInt - 1600 ≤ 0 ∧ -f1.toInt + k.toInt - 3 ≤ 0 ∧ f1.toInt - k.toInt - 1600 ≤ 0 ∧ -k1.toInt ≤ 0 ∧ k1.toInt - 3 ≤ 0 ∧ -k1.toInt + f.toInt - 1600 ≤ 0 ∧ k1.toInt - f.toInt - 3 ≤ 0 ∧ -k1.toInt + k.toInt ≤ 0 ∧ k1.toInt - k.toInt - 3 ≤ 0 ∧ f.toInt - f1.toInt ≤ 0 ∧ (b.toInt ≤ 0 → b.toInt - ret.toInt ≤ 0) ∧ (-b.toInt ≤ 0 → -ret.toInt ≤ 0) ∧ (-c.toInt ≤ 0 → ret.toInt - c.toInt ≤ 0) ∧ (c.toInt ≤ 0 → ret.toInt ≤ 0) ∧ (k1.toInt ≤ 0 → k.toInt ≤ 0 ∧ b.toInt - ret.toInt ≤ 0 ∧ ret.toInt - c.toInt ≤ 0)
set_option maxRecDepth 10000 in
set_option maxHeartbeats 4000000 in
theorem c_323s13 (σ0 : SG) (hσ0 : WT σ0) (b : Int32) (c : Int32) (f : Int32) (h_f : (σ0 159)[8]? = some (.int f)) (k : Int32) (h_k : (σ0 159)[12]? = some (.int k)) : En 7 156 none mr_323 (P_323s13 σ0 b c f k) 0 [(0, .ref 159), (1, .retAddr 27), (2, .int b), (3, .int c)] [] σ0 := by
  obtain ⟨hl_f, hu_f⟩ := WT_int hσ0 (g := 35) (by decide +kernel) (by decide +kernel) (l := 0) (u := 1600) (by decide +kernel) h_f
  obtain ⟨hl_k, hu_k⟩ := WT_int hσ0 (g := 35) (by decide +kernel) (by decide +kernel) (l := 0) (u := 3) (by decide +kernel) h_k
  have hF0 : Fr [(35, 8), (35, 9), (35, 10), (35, 11), (35, 12), (35, 13)] σ0 σ0 := Fr_rfl
  refine En_Ps 2 (pc' := 2) (lv' := [(0, .ref 159), (1, .retAddr 27), (2, .int b), (3, .int c)]) (st' := [.retAddr 27, .ref 159]) rfl ?_
  refine En_callV rfl rfl rfl rfl rfl rfl rfl rfl (by decide +kernel : TG 159 = 35) (by decide +kernel) rfl (c_286s13 σ0 hσ0 f h_f k h_k) (by decide) (by decide) (fun v2 σ3 h1 => ?_)
  obtain ⟨h4, h5, z7, h8, z9, h10, rfl, h6⟩ := h1
  have h11 := Fr_trans hF0 h5 (by decide +kernel)
  refine En_Ps 3 (pc' := 8) (lv' := [(0, .ref 159), (1, .retAddr 27), (2, .int b), (3, .int c)]) (st' := [.int c, .int b, .ref 159]) rfl ?_
  obtain ⟨z13, h12, h14, h15⟩ := WT_peekI h4 (by decide +kernel : TG 159 = 35) (by decide +kernel : FT 35 10 = (0, 0, 4)) (by decide +kernel)
  obtain ⟨z17, h16, h18, h19⟩ := WT_peekI h4 (by decide +kernel : TG 159 = 35) (by decide +kernel : FT 35 11 = (0, 0, 99999)) (by decide +kernel)
  refine En_callV rfl rfl rfl rfl rfl rfl rfl rfl (by decide +kernel : TG 159 = 35) (by decide +kernel) rfl (c_288 σ3 h4 b c z7 h8 z9 h10 z13 h12 z17 h16) (by decide) (by decide) (fun v21 σ22 h20 => ?_)
  obtain ⟨h23, h24, z26, h27, z28, h29, z30, rfl, h25⟩ := h20
  have h31 := Fr_trans h11 h24 (by decide +kernel)
  exact En_ret (v := some (.int z30)) rfl rfl rfl ⟨h23, h31, z26, h27, z28, h29, z30, rfl, (by omega)⟩
/-- DoorSchoolModel.told(Ljava/lang/String;II)I -/
abbrev P_323s14 (σ0 : SG) (b : Int32) (c : Int32) (f : Int32) (k : Int32) : PO := fun v σ => WT σ ∧ Fr [(35, 8), (35, 9), (35, 10), (35, 11), (35, 12), (35, 13)] σ0 σ ∧ ∃ f1 : Int32, (σ 159)[8]? = some (.int f1) ∧ ∃ k1 : Int32, (σ 159)[12]? = some (.int k1) ∧ ∃ ret : Int32, v = some (.int ret) ∧ -ret.toInt ≤ 0 ∧ ret.toInt - 99999 ≤ 0 ∧ -f1.toInt ≤ 0 ∧ f1.toInt - 1600 ≤ 0 ∧ -f1.toInt + f.toInt ≤ 0 ∧ f1.toInt - f.toInt - 1600 ≤ 0 ∧ -f1.toInt + k.toInt - 3 ≤ 0 ∧ f1.toInt - k.toInt - 1600 ≤ 0 ∧ -k1.toInt ≤ 0 ∧ k1.toInt - 3 ≤ 0 ∧ -k1.toInt + f.toInt - 1600 ≤ 0 ∧ k1.toInt - f.toInt - 3 ≤ 0 ∧ -k1.toInt + k.toInt ≤ 0 ∧ k1.toInt - k.toInt - 3 ≤ 0 ∧ f.toInt - f1.toInt ≤ 0 ∧ (b.toInt ≤ 0 → b.toInt - ret.toInt ≤ 0) ∧ (-b.toInt ≤ 0 → -ret.toInt ≤ 0) ∧ (-c.toInt ≤ 0 → ret.toInt - c.toInt ≤ 0) ∧ (c.toInt ≤ 0 → ret.toInt ≤ 0) ∧ (k1.toInt ≤ 0 → k.toInt ≤ 0 ∧ b.toInt - ret.toInt ≤ 0 ∧ ret.toInt - c.toInt ≤ 0)
set_option maxRecDepth 10000 in
set_option maxHeartbeats 4000000 in
theorem c_323s14 (σ0 : SG) (hσ0 : WT σ0) (b : Int32) (c : Int32) (f : Int32) (h_f : (σ0 159)[8]? = some (.int f)) (k : Int32) (h_k : (σ0 159)[12]? = some (.int k)) : En 7 156 none mr_323 (P_323s14 σ0 b c f k) 0 [(0, .ref 159), (1, .retAddr 29), (2, .int b), (3, .int c)] [] σ0 := by
  obtain ⟨hl_f, hu_f⟩ := WT_int hσ0 (g := 35) (by decide +kernel) (by decide +kernel) (l := 0) (u := 1600) (by decide +kernel) h_f
  obtain ⟨hl_k, hu_k⟩ := WT_int hσ0 (g := 35) (by decide +kernel) (by decide +kernel) (l := 0) (u := 3) (by decide +kernel) h_k
  have hF0 : Fr [(35, 8), (35, 9), (35, 10), (35, 11), (35, 12), (35, 13)] σ0 σ0 := Fr_rfl
  refine En_Ps 2 (pc' := 2) (lv' := [(0, .ref 159), (1, .retAddr 29), (2, .int b), (3, .int c)]) (st' := [.retAddr 29, .ref 159]) rfl ?_
  refine En_callV rfl rfl rfl rfl rfl rfl rfl rfl (by decide +kernel : TG 159 = 35) (by decide +kernel) rfl (c_286s14 σ0 hσ0 f h_f k h_k) (by decide) (by decide) (fun v2 σ3 h1 => ?_)
  obtain ⟨h4, h5, z7, h8, z9, h10, rfl, h6⟩ := h1
  have h11 := Fr_trans hF0 h5 (by decide +kernel)
  refine En_Ps 3 (pc' := 8) (lv' := [(0, .ref 159), (1, .retAddr 29), (2, .int b), (3, .int c)]) (st' := [.int c, .int b, .ref 159]) rfl ?_
  obtain ⟨z13, h12, h14, h15⟩ := WT_peekI h4 (by decide +kernel : TG 159 = 35) (by decide +kernel : FT 35 10 = (0, 0, 4)) (by decide +kernel)
  obtain ⟨z17, h16, h18, h19⟩ := WT_peekI h4 (by decide +kernel : TG 159 = 35) (by decide +kernel : FT 35 11 = (0, 0, 99999)) (by decide +kernel)
  refine En_callV rfl rfl rfl rfl rfl rfl rfl rfl (by decide +kernel : TG 159 = 35) (by decide +kernel) rfl (c_288 σ3 h4 b c z7 h8 z9 h10 z13 h12 z17 h16) (by decide) (by decide) (fun v21 σ22 h20 => ?_)
  obtain ⟨h23, h24, z26, h27, z28, h29, z30, rfl, h25⟩ := h20
  have h31 := Fr_trans h11 h24 (by decide +kernel)
  exact En_ret (v := some (.int z30)) rfl rfl rfl ⟨h23, h31, z26, h27, z28, h29, z30, rfl, (by omega)⟩
/-- DoorSchoolModel.told(Ljava/lang/String;II)I -/
abbrev P_323s15 (σ0 : SG) (b : Int32) (c : Int32) (f : Int32) (k : Int32) : PO := fun v σ => WT σ ∧ Fr [(35, 8), (35, 9), (35, 10), (35, 11), (35, 12), (35, 13)] σ0 σ ∧ ∃ f1 : Int32, (σ 159)[8]? = some (.int f1) ∧ ∃ k1 : Int32, (σ 159)[12]? = some (.int k1) ∧ ∃ ret : Int32, v = some (.int ret) ∧ -ret.toInt ≤ 0 ∧ ret.toInt - 99999 ≤ 0 ∧ -f1.toInt ≤ 0 ∧ f1.toInt - 1600 ≤ 0 ∧ -f1.toInt + f.toInt ≤ 0 ∧ f1.toInt - f.toInt - 1600 ≤ 0 ∧ -f1.toInt + k.toInt - 3 ≤ 0 ∧ f1.toInt - k.toInt - 1600 ≤ 0 ∧ -k1.toInt ≤ 0 ∧ k1.toInt - 3 ≤ 0 ∧ -k1.toInt + f.toInt - 1600 ≤ 0 ∧ k1.toInt - f.toInt - 3 ≤ 0 ∧ -k1.toInt + k.toInt ≤ 0 ∧ k1.toInt - k.toInt - 3 ≤ 0 ∧ f.toInt - f1.toInt ≤ 0 ∧ (b.toInt ≤ 0 → b.toInt - ret.toInt ≤ 0) ∧ (-b.toInt ≤ 0 → -ret.toInt ≤ 0) ∧ (-c.toInt ≤ 0 → ret.toInt - c.toInt ≤ 0) ∧ (c.toInt ≤ 0 → ret.toInt ≤ 0) ∧ (k1.toInt ≤ 0 → k.toInt ≤ 0 ∧ b.toInt - ret.toInt ≤ 0 ∧ ret.toInt - c.toInt ≤ 0)
set_option maxRecDepth 10000 in
set_option maxHeartbeats 4000000 in
theorem c_323s15 (σ0 : SG) (hσ0 : WT σ0) (b : Int32) (c : Int32) (f : Int32) (h_f : (σ0 159)[8]? = some (.int f)) (k : Int32) (h_k : (σ0 159)[12]? = some (.int k)) : En 7 156 none mr_323 (P_323s15 σ0 b c f k) 0 [(0, .ref 159), (1, .retAddr 31), (2, .int b), (3, .int c)] [] σ0 := by
  obtain ⟨hl_f, hu_f⟩ := WT_int hσ0 (g := 35) (by decide +kernel) (by decide +kernel) (l := 0) (u := 1600) (by decide +kernel) h_f
  obtain ⟨hl_k, hu_k⟩ := WT_int hσ0 (g := 35) (by decide +kernel) (by decide +kernel) (l := 0) (u := 3) (by decide +kernel) h_k
  have hF0 : Fr [(35, 8), (35, 9), (35, 10), (35, 11), (35, 12), (35, 13)] σ0 σ0 := Fr_rfl
  refine En_Ps 2 (pc' := 2) (lv' := [(0, .ref 159), (1, .retAddr 31), (2, .int b), (3, .int c)]) (st' := [.retAddr 31, .ref 159]) rfl ?_
  refine En_callV rfl rfl rfl rfl rfl rfl rfl rfl (by decide +kernel : TG 159 = 35) (by decide +kernel) rfl (c_286s15 σ0 hσ0 f h_f k h_k) (by decide) (by decide) (fun v2 σ3 h1 => ?_)
  obtain ⟨h4, h5, z7, h8, z9, h10, rfl, h6⟩ := h1
  have h11 := Fr_trans hF0 h5 (by decide +kernel)
  refine En_Ps 3 (pc' := 8) (lv' := [(0, .ref 159), (1, .retAddr 31), (2, .int b), (3, .int c)]) (st' := [.int c, .int b, .ref 159]) rfl ?_
  obtain ⟨z13, h12, h14, h15⟩ := WT_peekI h4 (by decide +kernel : TG 159 = 35) (by decide +kernel : FT 35 10 = (0, 0, 4)) (by decide +kernel)
  obtain ⟨z17, h16, h18, h19⟩ := WT_peekI h4 (by decide +kernel : TG 159 = 35) (by decide +kernel : FT 35 11 = (0, 0, 99999)) (by decide +kernel)
  refine En_callV rfl rfl rfl rfl rfl rfl rfl rfl (by decide +kernel : TG 159 = 35) (by decide +kernel) rfl (c_288 σ3 h4 b c z7 h8 z9 h10 z13 h12 z17 h16) (by decide) (by decide) (fun v21 σ22 h20 => ?_)
  obtain ⟨h23, h24, z26, h27, z28, h29, z30, rfl, h25⟩ := h20
  have h31 := Fr_trans h11 h24 (by decide +kernel)
  exact En_ret (v := some (.int z30)) rfl rfl rfl ⟨h23, h31, z26, h27, z28, h29, z30, rfl, (by omega)⟩
/-- DoorSchoolModel.told(Ljava/lang/String;II)I -/
abbrev P_323s16 (σ0 : SG) (b : Int32) (c : Int32) (f : Int32) (k : Int32) : PO := fun v σ => WT σ ∧ Fr [(35, 8), (35, 9), (35, 10), (35, 11), (35, 12), (35, 13)] σ0 σ ∧ ∃ f1 : Int32, (σ 159)[8]? = some (.int f1) ∧ ∃ k1 : Int32, (σ 159)[12]? = some (.int k1) ∧ ∃ ret : Int32, v = some (.int ret) ∧ -ret.toInt ≤ 0 ∧ ret.toInt - 99999 ≤ 0 ∧ -f1.toInt ≤ 0 ∧ f1.toInt - 1600 ≤ 0 ∧ -f1.toInt + f.toInt ≤ 0 ∧ f1.toInt - f.toInt - 1600 ≤ 0 ∧ -f1.toInt + k.toInt - 3 ≤ 0 ∧ f1.toInt - k.toInt - 1600 ≤ 0 ∧ -k1.toInt ≤ 0 ∧ k1.toInt - 3 ≤ 0 ∧ -k1.toInt + f.toInt - 1600 ≤ 0 ∧ k1.toInt - f.toInt - 3 ≤ 0 ∧ -k1.toInt + k.toInt ≤ 0 ∧ k1.toInt - k.toInt - 3 ≤ 0 ∧ f.toInt - f1.toInt ≤ 0 ∧ (b.toInt ≤ 0 → b.toInt - ret.toInt ≤ 0) ∧ (-b.toInt ≤ 0 → -ret.toInt ≤ 0) ∧ (-c.toInt ≤ 0 → ret.toInt - c.toInt ≤ 0) ∧ (c.toInt ≤ 0 → ret.toInt ≤ 0) ∧ (k1.toInt ≤ 0 → k.toInt ≤ 0 ∧ b.toInt - ret.toInt ≤ 0 ∧ ret.toInt - c.toInt ≤ 0)
set_option maxRecDepth 10000 in
set_option maxHeartbeats 4000000 in
theorem c_323s16 (σ0 : SG) (hσ0 : WT σ0) (b : Int32) (c : Int32) (f : Int32) (h_f : (σ0 159)[8]? = some (.int f)) (k : Int32) (h_k : (σ0 159)[12]? = some (.int k)) : En 7 156 none mr_323 (P_323s16 σ0 b c f k) 0 [(0, .ref 159), (1, .retAddr 33), (2, .int b), (3, .int c)] [] σ0 := by
  obtain ⟨hl_f, hu_f⟩ := WT_int hσ0 (g := 35) (by decide +kernel) (by decide +kernel) (l := 0) (u := 1600) (by decide +kernel) h_f
  obtain ⟨hl_k, hu_k⟩ := WT_int hσ0 (g := 35) (by decide +kernel) (by decide +kernel) (l := 0) (u := 3) (by decide +kernel) h_k
  have hF0 : Fr [(35, 8), (35, 9), (35, 10), (35, 11), (35, 12), (35, 13)] σ0 σ0 := Fr_rfl
  refine En_Ps 2 (pc' := 2) (lv' := [(0, .ref 159), (1, .retAddr 33), (2, .int b), (3, .int c)]) (st' := [.retAddr 33, .ref 159]) rfl ?_
  refine En_callV rfl rfl rfl rfl rfl rfl rfl rfl (by decide +kernel : TG 159 = 35) (by decide +kernel) rfl (c_286s16 σ0 hσ0 f h_f k h_k) (by decide) (by decide) (fun v2 σ3 h1 => ?_)
  obtain ⟨h4, h5, z7, h8, z9, h10, rfl, h6⟩ := h1
  have h11 := Fr_trans hF0 h5 (by decide +kernel)
  refine En_Ps 3 (pc' := 8) (lv' := [(0, .ref 159), (1, .retAddr 33), (2, .int b), (3, .int c)]) (st' := [.int c, .int b, .ref 159]) rfl ?_
  obtain ⟨z13, h12, h14, h15⟩ := WT_peekI h4 (by decide +kernel : TG 159 = 35) (by decide +kernel : FT 35 10 = (0, 0, 4)) (by decide +kernel)
  obtain ⟨z17, h16, h18, h19⟩ := WT_peekI h4 (by decide +kernel : TG 159 = 35) (by decide +kernel : FT 35 11 = (0, 0, 99999)) (by decide +kernel)
  refine En_callV rfl rfl rfl rfl rfl rfl rfl rfl (by decide +kernel : TG 159 = 35) (by decide +kernel) rfl (c_288 σ3 h4 b c z7 h8 z9 h10 z13 h12 z17 h16) (by decide) (by decide) (fun v21 σ22 h20 => ?_)
  obtain ⟨h23, h24, z26, h27, z28, h29, z30, rfl, h25⟩ := h20
  have h31 := Fr_trans h11 h24 (by decide +kernel)
  exact En_ret (v := some (.int z30)) rfl rfl rfl ⟨h23, h31, z26, h27, z28, h29, z30, rfl, (by omega)⟩
/-- DoorSchoolModel.told(Ljava/lang/String;II)I -/
abbrev P_323s17 (σ0 : SG) (b : Int32) (c : Int32) (f : Int32) (k : Int32) : PO := fun v σ => WT σ ∧ Fr [(35, 8), (35, 9), (35, 10), (35, 11), (35, 12), (35, 13)] σ0 σ ∧ ∃ f1 : Int32, (σ 159)[8]? = some (.int f1) ∧ ∃ k1 : Int32, (σ 159)[12]? = some (.int k1) ∧ ∃ ret : Int32, v = some (.int ret) ∧ -ret.toInt ≤ 0 ∧ ret.toInt - 99999 ≤ 0 ∧ -f1.toInt ≤ 0 ∧ f1.toInt - 1600 ≤ 0 ∧ -f1.toInt + f.toInt ≤ 0 ∧ f1.toInt - f.toInt - 1600 ≤ 0 ∧ -f1.toInt + k.toInt - 3 ≤ 0 ∧ f1.toInt - k.toInt - 1600 ≤ 0 ∧ -k1.toInt ≤ 0 ∧ k1.toInt - 3 ≤ 0 ∧ -k1.toInt + f.toInt - 1600 ≤ 0 ∧ k1.toInt - f.toInt - 3 ≤ 0 ∧ -k1.toInt + k.toInt ≤ 0 ∧ k1.toInt - k.toInt - 3 ≤ 0 ∧ f.toInt - f1.toInt ≤ 0 ∧ (b.toInt ≤ 0 → b.toInt - ret.toInt ≤ 0) ∧ (-b.toInt ≤ 0 → -ret.toInt ≤ 0) ∧ (-c.toInt ≤ 0 → ret.toInt - c.toInt ≤ 0) ∧ (c.toInt ≤ 0 → ret.toInt ≤ 0) ∧ (k1.toInt ≤ 0 → k.toInt ≤ 0 ∧ b.toInt - ret.toInt ≤ 0 ∧ ret.toInt - c.toInt ≤ 0)
set_option maxRecDepth 10000 in
set_option maxHeartbeats 4000000 in
theorem c_323s17 (σ0 : SG) (hσ0 : WT σ0) (b : Int32) (c : Int32) (f : Int32) (h_f : (σ0 159)[8]? = some (.int f)) (k : Int32) (h_k : (σ0 159)[12]? = some (.int k)) : En 7 156 none mr_323 (P_323s17 σ0 b c f k) 0 [(0, .ref 159), (1, .retAddr 35), (2, .int b), (3, .int c)] [] σ0 := by
  obtain ⟨hl_f, hu_f⟩ := WT_int hσ0 (g := 35) (by decide +kernel) (by decide +kernel) (l := 0) (u := 1600) (by decide +kernel) h_f
  obtain ⟨hl_k, hu_k⟩ := WT_int hσ0 (g := 35) (by decide +kernel) (by decide +kernel) (l := 0) (u := 3) (by decide +kernel) h_k
  have hF0 : Fr [(35, 8), (35, 9), (35, 10), (35, 11), (35, 12), (35, 13)] σ0 σ0 := Fr_rfl
  refine En_Ps 2 (pc' := 2) (lv' := [(0, .ref 159), (1, .retAddr 35), (2, .int b), (3, .int c)]) (st' := [.retAddr 35, .ref 159]) rfl ?_
  refine En_callV rfl rfl rfl rfl rfl rfl rfl rfl (by decide +kernel : TG 159 = 35) (by decide +kernel) rfl (c_286s17 σ0 hσ0 f h_f k h_k) (by decide) (by decide) (fun v2 σ3 h1 => ?_)
  obtain ⟨h4, h5, z7, h8, z9, h10, rfl, h6⟩ := h1
  have h11 := Fr_trans hF0 h5 (by decide +kernel)
  refine En_Ps 3 (pc' := 8) (lv' := [(0, .ref 159), (1, .retAddr 35), (2, .int b), (3, .int c)]) (st' := [.int c, .int b, .ref 159]) rfl ?_
  obtain ⟨z13, h12, h14, h15⟩ := WT_peekI h4 (by decide +kernel : TG 159 = 35) (by decide +kernel : FT 35 10 = (0, 0, 4)) (by decide +kernel)
  obtain ⟨z17, h16, h18, h19⟩ := WT_peekI h4 (by decide +kernel : TG 159 = 35) (by decide +kernel : FT 35 11 = (0, 0, 99999)) (by decide +kernel)
  refine En_callV rfl rfl rfl rfl rfl rfl rfl rfl (by decide +kernel : TG 159 = 35) (by decide +kernel) rfl (c_288 σ3 h4 b c z7 h8 z9 h10 z13 h12 z17 h16) (by decide) (by decide) (fun v21 σ22 h20 => ?_)
  obtain ⟨h23, h24, z26, h27, z28, h29, z30, rfl, h25⟩ := h20
  have h31 := Fr_trans h11 h24 (by decide +kernel)
  exact En_ret (v := some (.int z30)) rfl rfl rfl ⟨h23, h31, z26, h27, z28, h29, z30, rfl, (by omega)⟩
/-- DoorSchoolModel.readDoor()V -/
abbrev P_299 (σ0 : SG) (f : Int32) (k : Int32) (nd : Int32) : PO := fun v σ => WT σ ∧ Fr [(35, 8), (35, 9), (35, 10), (35, 11), (35, 12), (35, 13), (41, 0)] σ0 σ ∧ ∃ f1 : Int32, (σ 159)[8]? = some (.int f1) ∧ ∃ k1 : Int32, (σ 159)[12]? = some (.int k1) ∧ v = none ∧ -f1.toInt ≤ 0 ∧ f1.toInt - 1600 ≤ 0 ∧ -f1.toInt + f.toInt ≤ 0 ∧ f1.toInt - f.toInt - 1600 ≤ 0 ∧ -f1.toInt + k.toInt - 3 ≤ 0 ∧ f1.toInt - k.toInt - 1600 ≤ 0 ∧ -f1.toInt + nd.toInt - 3 ≤ 0 ∧ f1.toInt - nd.toInt - 1600 ≤ 0 ∧ -k1.toInt ≤ 0 ∧ k1.toInt - 3 ≤ 0 ∧ -k1.toInt + f.toInt - 1600 ≤ 0 ∧ k1.toInt - f.toInt - 3 ≤ 0 ∧ -k1.toInt + k.toInt ≤ 0 ∧ k1.toInt - k.toInt - 3 ≤ 0 ∧ -k1.toInt + nd.toInt - 3 ≤ 0 ∧ k1.toInt - nd.toInt - 3 ≤ 0 ∧ f.toInt - f1.toInt ≤ 0 ∧ (k1.toInt ≤ 0 → k.toInt ≤ 0) ∧ KF σ0 σ
set_option maxRecDepth 10000 in
set_option maxHeartbeats 4000000 in
theorem c_299 (σ0 : SG) (hσ0 : WT σ0) (f : Int32) (h_f : (σ0 159)[8]? = some (.int f)) (k : Int32) (h_k : (σ0 159)[12]? = some (.int k)) (nd : Int32) (h_nd : (σ0 165)[(2 : Int).toNat]? = some (.int nd)) (hp0 : nd.toInt - 3 ≤ 0) : En 8 179 none mr_299 (P_299 σ0 f k nd) 0 [(0, .ref 159)] [] σ0 := by
  obtain ⟨hl_f, hu_f⟩ := WT_int hσ0 (g := 35) (by decide +kernel) (by decide +kernel) (l := 0) (u := 1600) (by decide +kernel) h_f
  obtain ⟨hl_k, hu_k⟩ := WT_int hσ0 (g := 35) (by decide +kernel) (by decide +kernel) (l := 0) (u := 3) (by decide +kernel) h_k
  obtain ⟨hl_nd, hu_nd⟩ := WT_int hσ0 (g := 41) (by decide +kernel) (by decide +kernel) (l := 0) (u := 4) (by decide +kernel) h_nd
  have hF0 : Fr [(35, 8), (35, 9), (35, 10), (35, 11), (35, 12), (35, 13), (41, 0)] σ0 σ0 := Fr_rfl
  refine En_Ps 3 (pc' := 4) (lv' := [(0, .ref 159)]) (st' := [.ref 159, .int ((Int32.ofInt 4)), .int (((Int8.ofInt 10).toInt32))]) rfl ?_
  refine En_getU (j := 14) (u := 165) (g' := 41) (q := 0) rfl rfl rfl (by decide +kernel : TG 159 = 35) (by decide +kernel) hσ0 (by decide +kernel) (by decide +kernel) (fun h1 => ?_)
  refine En_Ps 1 (pc' := 8) (lv' := [(0, .ref 159)]) (st' := [.int ((Int32.ofInt 2)), .ref 165, .int ((Int32.ofInt 4)), .int (((Int8.ofInt 10).toInt32))]) rfl ?_
  refine En_ialdK h_nd rfl (by decide : (Int32.ofInt 2).toInt = 2) (by decide +kernel : TG 165 = 41) (by decide +kernel) hσ0 (by omega) (lnI (by decide +kernel : LN _ = 226) (by omega)) ?_
  refine En_Ps 1 (pc' := 10) (lv' := [(0, .ref 159)]) (st' := [.int ((((Int32.ofInt 4)) * nd)), .int (((Int8.ofInt 10).toInt32))]) rfl ?_
  refine En_top (mulI (by decide : (Int32.ofInt 4).toInt = 4) rfl (Z := 4 * nd.toInt) (by omega) (by omega) (by omega)) (fun z4 h5 => ?_)
  refine En_Ps 1 (pc' := 11) (lv' := [(0, .ref 159)]) (st' := [.int (((((Int8.ofInt 10).toInt32)) + z4))]) rfl ?_
  refine En_top (addI (by decide : ((Int8.ofInt 10).toInt32).toInt = 10) rfl (by omega) (by omega)) (fun z6 h7 => ?_)
  refine En_Ps 2 (pc' := 13) (lv' := [(1, .int z6), (0, .ref 159)]) (st' := [.ref 159]) rfl ?_
  refine En_ldcS (i := 4) rfl rfl rfl ?_
  refine En_callV rfl rfl rfl rfl rfl rfl rfl rfl (by decide +kernel : TG 159 = 35) (by decide +kernel) rfl (c_318s4 σ0 hσ0 f h_f) (by decide) (by decide) (fun v9 σ10 h8 => ?_)
  obtain ⟨h11, h12, z14, h15, z16, rfl, h13⟩ := h8
  have h17 := h13.2.2.2.2.2.2.2
  have h18 := Fr_trans hF0 h12 (by decide +kernel)
  have h19 := KF_fr (KF_0 (σ := σ0)) h12 (by decide +kernel)
  refine En_iEq _ rfl rfl (fun h20 => ?_) (fun h20 => ?_)
  · obtain rfl : σ0 = σ10 := h17.1 (by omega)
    refine En_Ps 1 (pc' := 34) (lv' := [(1, .int z6), (0, .ref 159)]) (st' := [.ref 159]) rfl ?_
    refine En_ldcS (i := 11) rfl rfl rfl ?_
    refine En_callV rfl rfl rfl rfl rfl rfl rfl rfl (by decide +kernel : TG 159 = 35) (by decide +kernel) rfl (c_318s11 σ0 hσ0 f h_f) (by decide) (by decide) (fun v22 σ23 h21 => ?_)
    obtain ⟨h24, h25, z27, h28, z29, rfl, h26⟩ := h21
    have h30 := h26.2.2.2.2.2.2.2
    have h31 := Fr_trans hF0 h25 (by decide +kernel)
    have h32 := KF_fr KF_0 h25 (by decide +kernel)
    refine En_iEq _ rfl rfl (fun h33 => ?_) (fun h33 => ?_)
    · obtain rfl : σ0 = σ23 := h30.1 (by omega)
      refine En_Ps 1 (pc' := 55) (lv' := [(1, .int z6), (0, .ref 159)]) (st' := [.ref 159]) rfl ?_
      refine En_ldcS (i := 7) rfl rfl rfl ?_
      refine En_callV rfl rfl rfl rfl rfl rfl rfl rfl (by decide +kernel : TG 159 = 35) (by decide +kernel) rfl (c_286s7 σ0 hσ0 f h_f k h_k) (by decide) (by decide) (fun v35 σ36 h34 => ?_)
      obtain ⟨h37, h38, z40, h41, z42, h43, rfl, h39⟩ := h34
      have h44 := Fr_trans hF0 h38 (by decide +kernel)
      have h45 := KF_fr KF_0 h38 (by decide +kernel)
      refine En_Ps 1 (pc' := 61) (lv' := [(1, .int z6), (0, .ref 159)]) (st' := [.ref 159]) rfl ?_
      refine En_getK (j := 14) ((h38 _ _ (inW (by decide +kernel : TG 159 = 35) (by decide +kernel))).trans h1) rfl rfl rfl (by decide +kernel : TG 159 = 35) (by decide +kernel) ?_
      refine En_Ps 3 (pc' := 67) (lv' := [(1, .int z6), (0, .ref 159)]) (st' := [.int ((z6 + ((Int32.ofInt 0)))), .ref 165]) rfl ?_
      refine En_top (addI rfl (by decide : (Int32.ofInt 0).toInt = 0) (by omega) (by omega)) (fun z46 h47 => ?_)
      refine En_Ps 1 (pc' := 68) (lv' := [(1, .int z6), (0, .ref 159)]) (st' := [.int ((Int32.ofInt 2)), .int z46, .ref 165]) rfl ?_
      refine En_iast (l := 0) (u := 2) rfl rfl (by decide +kernel : TG 165 = 41) (by decide +kernel) (by omega) (lnI (by decide +kernel : LN _ = 226) (by omega)) (FTrow 41 10 4 4 (by decide +kernel) (by omega) (by omega) (by omega)) (rngI (by decide : (Int32.ofInt 2).toInt = 2) (by omega) (by omega)) h37 h44 (by decide +kernel) (fun σ48 h49 h50 h51 h52 => ?_)
      have h53 := KF_st h45 (J := z46.toInt) h52 (by omega) (by omega)
      refine En_Ps 1 (pc' := 70) (lv' := [(1, .int z6), (0, .ref 159)]) (st' := [.ref 159]) rfl ?_
      refine En_getK (j := 14) ((h52 _ _ (Or.inl (neTG (by decide +kernel : TG 159 = 35) (by decide +kernel : TG 165 = 41) (by decide)))).trans ((h38 _ _ (inW (by decide +kernel : TG 159 = 35) (by decide +kernel))).trans h1)) rfl rfl rfl (by decide +kernel : TG 159 = 35) (by decide +kernel) ?_
      refine En_Ps 3 (pc' := 76) (lv' := [(1, .int z6), (0, .ref 159)]) (st' := [.int ((z6 + ((Int32.ofInt 1)))), .ref 165]) rfl ?_
      refine En_top (addI rfl (by decide : (Int32.ofInt 1).toInt = 1) (by omega) (by omega)) (fun z54 h55 => ?_)
      refine En_Ps 1 (pc' := 77) (lv' := [(1, .int z6), (0, .ref 159)]) (st' := [.ref 159, .int z54, .ref 165]) rfl ?_
      refine En_ldcS (i := 14) rfl rfl rfl ?_
      refine En_Ps 2 (pc' := 82) (lv' := [(1, .int z6), (0, .ref 159)]) (st' := [.int (((Int8.ofInt 50).toInt32)), .int ((Int32.ofInt 0)), .retAddr 29, .ref 159, .int z54, .ref 165]) rfl ?_
      have := (by decide : ((Int32.ofInt 0)).toInt = 0)
      have := (by decide : (((Int8.ofInt 50).toInt32)).toInt = 50)
      refine En_callV rfl rfl rfl rfl rfl rfl rfl rfl (by decide +kernel : TG 159 = 35) (by decide +kernel) rfl (c_323s14 σ48 h49 ((Int32.ofInt 0)) (((Int8.ofInt 50).toInt32)) z40 ((h52 _ _ (Or.inl (neTG (by decide +kernel : TG 159 = 35) (by decide +kernel : TG 165 = 41) (by decide)))).trans h41) z42 ((h52 _ _ (Or.inl (neTG (by decide +kernel : TG 159 = 35) (by decide +kernel : TG 165 = 41) (by decide)))).trans h43)) (by decide) (by decide) (fun v57 σ58 h56 => ?_)
      obtain ⟨h59, h60, z62, h63, z64, h65, z66, rfl, h61⟩ := h56
      have h67 := Fr_trans h50 h60 (by decide +kernel)
      have h68 := KF_fr h53 h60 (by decide +kernel)
      refine En_iast (l := 0) (u := 50) rfl rfl (by decide +kernel : TG 165 = 41) (by decide +kernel) (by omega) (lnI (by decide +kernel : LN _ = 226) (by omega)) (FTrow 41 11 4 4 (by decide +kernel) (by omega) (by omega) (by omega)) (rngI rfl (by omega) (by omega)) h59 h67 (by decide +kernel) (fun σ69 h70 h71 h72 h73 => ?_)
      have h74 := KF_st h68 (J := z54.toInt) h73 (by omega) (by omega)
      refine En_Ps 1 (pc' := 87) (lv' := [(1, .int z6), (0, .ref 159)]) (st' := [.ref 159]) rfl ?_
      refine En_getK (j := 14) ((h73 _ _ (Or.inl (neTG (by decide +kernel : TG 159 = 35) (by decide +kernel : TG 165 = 41) (by decide)))).trans ((h60 _ _ (inW (by decide +kernel : TG 159 = 35) (by decide +kernel))).trans ((h52 _ _ (Or.inl (neTG (by decide +kernel : TG 159 = 35) (by decide +kernel : TG 165 = 41) (by decide)))).trans ((h38 _ _ (inW (by decide +kernel : TG 159 = 35) (by decide +kernel))).trans h1)))) rfl rfl rfl (by decide +kernel : TG 159 = 35) (by decide +kernel) ?_
      refine En_Ps 3 (pc' := 93) (lv' := [(1, .int z6), (0, .ref 159)]) (st' := [.int ((z6 + ((Int32.ofInt 2)))), .ref 165]) rfl ?_
      refine En_top (addI rfl (by decide : (Int32.ofInt 2).toInt = 2) (by omega) (by omega)) (fun z75 h76 => ?_)
      refine En_Ps 1 (pc' := 94) (lv' := [(1, .int z6), (0, .ref 159)]) (st' := [.int ((Int32.ofInt 0)), .int z75, .ref 165]) rfl ?_
      refine En_iast (l := 0) (u := 12) rfl rfl (by decide +kernel : TG 165 = 41) (by decide +kernel) (by omega) (lnI (by decide +kernel : LN _ = 226) (by omega)) (FTrow 41 12 4 4 (by decide +kernel) (by omega) (by omega) (by omega)) (rngI (by decide : (Int32.ofInt 0).toInt = 0) (by omega) (by omega)) h70 h71 (by decide +kernel) (fun σ77 h78 h79 h80 h81 => ?_)
      have h82 := KF_st h74 (J := z75.toInt) h81 (by omega) (by omega)
      refine En_Ps 1 (pc' := 96) (lv' := [(1, .int z6), (0, .ref 159)]) (st' := [.ref 159]) rfl ?_
      refine En_getK (j := 14) ((h81 _ _ (Or.inl (neTG (by decide +kernel : TG 159 = 35) (by decide +kernel : TG 165 = 41) (by decide)))).trans ((h73 _ _ (Or.inl (neTG (by decide +kernel : TG 159 = 35) (by decide +kernel : TG 165 = 41) (by decide)))).trans ((h60 _ _ (inW (by decide +kernel : TG 159 = 35) (by decide +kernel))).trans ((h52 _ _ (Or.inl (neTG (by decide +kernel : TG 159 = 35) (by decide +kernel : TG 165 = 41) (by decide)))).trans ((h38 _ _ (inW (by decide +kernel : TG 159 = 35) (by decide +kernel))).trans h1))))) rfl rfl rfl (by decide +kernel : TG 159 = 35) (by decide +kernel) ?_
      refine En_Ps 3 (pc' := 102) (lv' := [(1, .int z6), (0, .ref 159)]) (st' := [.int ((z6 + ((Int32.ofInt 3)))), .ref 165]) rfl ?_
      refine En_top (addI rfl (by decide : (Int32.ofInt 3).toInt = 3) (by omega) (by omega)) (fun z83 h84 => ?_)
      refine En_Ps 1 (pc' := 103) (lv' := [(1, .int z6), (0, .ref 159)]) (st' := [.int ((Int32.ofInt (-1))), .int z83, .ref 165]) rfl ?_
      refine En_iast (l := (-1)) (u := 3) rfl rfl (by decide +kernel : TG 165 = 41) (by decide +kernel) (by omega) (lnI (by decide +kernel : LN _ = 226) (by omega)) (FTrow 41 13 4 4 (by decide +kernel) (by omega) (by omega) (by omega)) (rngI (by decide : (Int32.ofInt (-1)).toInt = -1) (by omega) (by omega)) h78 h79 (by decide +kernel) (fun σ85 h86 h87 h88 h89 => ?_)
      have h90 := KF_st h82 (J := z83.toInt) h89 (by omega) (by omega)
      refine En_Ps 1 (pc' := 105) (lv' := [(1, .int z6), (0, .ref 159)]) (st' := [.ref 159]) rfl ?_
      refine En_getK (j := 14) ((h89 _ _ (Or.inl (neTG (by decide +kernel : TG 159 = 35) (by decide +kernel : TG 165 = 41) (by decide)))).trans ((h81 _ _ (Or.inl (neTG (by decide +kernel : TG 159 = 35) (by decide +kernel : TG 165 = 41) (by decide)))).trans ((h73 _ _ (Or.inl (neTG (by decide +kernel : TG 159 = 35) (by decide +kernel : TG 165 = 41) (by decide)))).trans ((h60 _ _ (inW (by decide +kernel : TG 159 = 35) (by decide +kernel))).trans ((h52 _ _ (Or.inl (neTG (by decide +kernel : TG 159 = 35) (by decide +kernel : TG 165 = 41) (by decide)))).trans ((h38 _ _ (inW (by decide +kernel : TG 159 = 35) (by decide +kernel))).trans h1)))))) rfl rfl rfl (by decide +kernel : TG 159 = 35) (by decide +kernel) ?_
      refine En_Ps 2 (pc' := 110) (lv' := [(1, .int z6), (0, .ref 159)]) (st' := [.int ((Int32.ofInt 2)), .ref 165, .int ((Int32.ofInt 2)), .ref 165]) rfl ?_
      refine En_ialdK ((h89 _ _ (Or.inr (by omega))).trans ((h81 _ _ (Or.inr (by omega))).trans ((h73 _ _ (Or.inr (by omega))).trans ((h60 _ _ (inWa (by decide +kernel : TG 165 = 41) (by decide +kernel))).trans ((h52 _ _ (Or.inr (by omega))).trans ((h38 _ _ (inWa (by decide +kernel : TG 165 = 41) (by decide +kernel))).trans h_nd)))))) rfl (by decide : (Int32.ofInt 2).toInt = 2) (by decide +kernel : TG 165 = 41) (by decide +kernel) h86 (by omega) (lnI (by decide +kernel : LN _ = 226) (by omega)) ?_
      refine En_Ps 2 (pc' := 113) (lv' := [(1, .int z6), (0, .ref 159)]) (st' := [.int ((nd + ((Int32.ofInt 1)))), .int ((Int32.ofInt 2)), .ref 165]) rfl ?_
      refine En_top (addI rfl (by decide : (Int32.ofInt 1).toInt = 1) (by omega) (by omega)) (fun z92 h93 => ?_)
      refine En_iast (l := 0) (u := 4) rfl (by decide : (Int32.ofInt 2).toInt = 2) (by decide +kernel : TG 165 = 41) (by decide +kernel) (by omega) (lnI (by decide +kernel : LN _ = 226) (by omega)) (by decide +kernel) (rngI rfl (by omega) (by omega)) h86 h87 (by decide +kernel) (fun σ94 h95 h96 h97 h98 => ?_)
      have h99 := KF_st h90 (J := 2) h98 (by omega) (by omega)
      exact En_ret (v := none) rfl rfl rfl ⟨h95, h96, z62, ((h98 _ _ (Or.inl (neTG (by decide +kernel : TG 159 = 35) (by decide +kernel : TG 165 = 41) (by decide)))).trans ((h89 _ _ (Or.inl (neTG (by decide +kernel : TG 159 = 35) (by decide +kernel : TG 165 = 41) (by decide)))).trans ((h81 _ _ (Or.inl (neTG (by decide +kernel : TG 159 = 35) (by decide +kernel : TG 165 = 41) (by decide)))).trans ((h73 _ _ (Or.inl (neTG (by decide +kernel : TG 159 = 35) (by decide +kernel : TG 165 = 41) (by decide)))).trans h63)))), z64, ((h98 _ _ (Or.inl (neTG (by decide +kernel : TG 159 = 35) (by decide +kernel : TG 165 = 41) (by decide)))).trans ((h89 _ _ (Or.inl (neTG (by decide +kernel : TG 159 = 35) (by decide +kernel : TG 165 = 41) (by decide)))).trans ((h81 _ _ (Or.inl (neTG (by decide +kernel : TG 159 = 35) (by decide +kernel : TG 165 = 41) (by decide)))).trans ((h73 _ _ (Or.inl (neTG (by decide +kernel : TG 159 = 35) (by decide +kernel : TG 165 = 41) (by decide)))).trans h65)))), rfl, ⟨by omega, by omega, by omega, by omega, by omega, by omega, by omega, by omega, by omega, by omega, by omega, by omega, by omega, by omega, by omega, by omega, by omega, by omega, h99⟩⟩
    · refine En_Ps 1 (pc' := 43) (lv' := [(1, .int z6), (0, .ref 159)]) (st' := [.ref 159]) rfl ?_
      refine En_getK (j := 14) ((h25 _ _ (inW (by decide +kernel : TG 159 = 35) (by decide +kernel))).trans h1) rfl rfl rfl (by decide +kernel : TG 159 = 35) (by decide +kernel) ?_
      refine En_Ps 3 (pc' := 49) (lv' := [(1, .int z6), (0, .ref 159)]) (st' := [.int ((z6 + ((Int32.ofInt 0)))), .ref 165]) rfl ?_
      refine En_top (addI rfl (by decide : (Int32.ofInt 0).toInt = 0) (by omega) (by omega)) (fun z100 h101 => ?_)
      refine En_Ps 1 (pc' := 50) (lv' := [(1, .int z6), (0, .ref 159)]) (st' := [.int ((Int32.ofInt 1)), .int z100, .ref 165]) rfl ?_
      refine En_iast (l := 0) (u := 2) rfl rfl (by decide +kernel : TG 165 = 41) (by decide +kernel) (by omega) (lnI (by decide +kernel : LN _ = 226) (by omega)) (FTrow 41 10 4 4 (by decide +kernel) (by omega) (by omega) (by omega)) (rngI (by decide : (Int32.ofInt 1).toInt = 1) (by omega) (by omega)) h24 h31 (by decide +kernel) (fun σ102 h103 h104 h105 h106 => ?_)
      have h107 := KF_st h32 (J := z100.toInt) h106 (by omega) (by omega)
      refine En_Ps 2 (pc' := 70) (lv' := [(1, .int z6), (0, .ref 159)]) (st' := [.ref 159]) rfl ?_
      refine En_getK (j := 14) ((h106 _ _ (Or.inl (neTG (by decide +kernel : TG 159 = 35) (by decide +kernel : TG 165 = 41) (by decide)))).trans ((h25 _ _ (inW (by decide +kernel : TG 159 = 35) (by decide +kernel))).trans h1)) rfl rfl rfl (by decide +kernel : TG 159 = 35) (by decide +kernel) ?_
      refine En_Ps 3 (pc' := 76) (lv' := [(1, .int z6), (0, .ref 159)]) (st' := [.int ((z6 + ((Int32.ofInt 1)))), .ref 165]) rfl ?_
      refine En_top (addI rfl (by decide : (Int32.ofInt 1).toInt = 1) (by omega) (by omega)) (fun z108 h109 => ?_)
      refine En_Ps 1 (pc' := 77) (lv' := [(1, .int z6), (0, .ref 159)]) (st' := [.ref 159, .int z108, .ref 165]) rfl ?_
      refine En_ldcS (i := 14) rfl rfl rfl ?_
      refine En_Ps 2 (pc' := 82) (lv' := [(1, .int z6), (0, .ref 159)]) (st' := [.int (((Int8.ofInt 50).toInt32)), .int ((Int32.ofInt 0)), .retAddr 29, .ref 159, .int z108, .ref 165]) rfl ?_
      have := (by decide : ((Int32.ofInt 0)).toInt = 0)
      have := (by decide : (((Int8.ofInt 50).toInt32)).toInt = 50)
      refine En_callV rfl rfl rfl rfl rfl rfl rfl rfl (by decide +kernel : TG 159 = 35) (by decide +kernel) rfl (c_323s14 σ102 h103 ((Int32.ofInt 0)) (((Int8.ofInt 50).toInt32)) z27 ((h106 _ _ (Or.inl (neTG (by decide +kernel : TG 159 = 35) (by decide +kernel : TG 165 = 41) (by decide)))).trans h28) k ((h106 _ _ (Or.inl (neTG (by decide +kernel : TG 159 = 35) (by decide +kernel : TG 165 = 41) (by decide)))).trans ((h25 _ _ (inW (by decide +kernel : TG 159 = 35) (by decide +kernel))).trans h_k))) (by decide) (by decide) (fun v111 σ112 h110 => ?_)
      obtain ⟨h113, h114, z116, h117, z118, h119, z120, rfl, h115⟩ := h110
      have h121 := Fr_trans h104 h114 (by decide +kernel)
      have h122 := KF_fr h107 h114 (by decide +kernel)
      refine En_iast (l := 0) (u := 50) rfl rfl (by decide +kernel : TG 165 = 41) (by decide +kernel) (by omega) (lnI (by decide +kernel : LN _ = 226) (by omega)) (FTrow 41 11 4 4 (by decide +kernel) (by omega) (by omega) (by omega)) (rngI rfl (by omega) (by omega)) h113 h121 (by decide +kernel) (fun σ123 h124 h125 h126 h127 => ?_)
      have h128 := KF_st h122 (J := z108.toInt) h127 (by omega) (by omega)
      refine En_Ps 1 (pc' := 87) (lv' := [(1, .int z6), (0, .ref 159)]) (st' := [.ref 159]) rfl ?_
      refine En_getK (j := 14) ((h127 _ _ (Or.inl (neTG (by decide +kernel : TG 159 = 35) (by decide +kernel : TG 165 = 41) (by decide)))).trans ((h114 _ _ (inW (by decide +kernel : TG 159 = 35) (by decide +kernel))).trans ((h106 _ _ (Or.inl (neTG (by decide +kernel : TG 159 = 35) (by decide +kernel : TG 165 = 41) (by decide)))).trans ((h25 _ _ (inW (by decide +kernel : TG 159 = 35) (by decide +kernel))).trans h1)))) rfl rfl rfl (by decide +kernel : TG 159 = 35) (by decide +kernel) ?_
      refine En_Ps 3 (pc' := 93) (lv' := [(1, .int z6), (0, .ref 159)]) (st' := [.int ((z6 + ((Int32.ofInt 2)))), .ref 165]) rfl ?_
      refine En_top (addI rfl (by decide : (Int32.ofInt 2).toInt = 2) (by omega) (by omega)) (fun z129 h130 => ?_)
      refine En_Ps 1 (pc' := 94) (lv' := [(1, .int z6), (0, .ref 159)]) (st' := [.int ((Int32.ofInt 0)), .int z129, .ref 165]) rfl ?_
      refine En_iast (l := 0) (u := 12) rfl rfl (by decide +kernel : TG 165 = 41) (by decide +kernel) (by omega) (lnI (by decide +kernel : LN _ = 226) (by omega)) (FTrow 41 12 4 4 (by decide +kernel) (by omega) (by omega) (by omega)) (rngI (by decide : (Int32.ofInt 0).toInt = 0) (by omega) (by omega)) h124 h125 (by decide +kernel) (fun σ131 h132 h133 h134 h135 => ?_)
      have h136 := KF_st h128 (J := z129.toInt) h135 (by omega) (by omega)
      refine En_Ps 1 (pc' := 96) (lv' := [(1, .int z6), (0, .ref 159)]) (st' := [.ref 159]) rfl ?_
      refine En_getK (j := 14) ((h135 _ _ (Or.inl (neTG (by decide +kernel : TG 159 = 35) (by decide +kernel : TG 165 = 41) (by decide)))).trans ((h127 _ _ (Or.inl (neTG (by decide +kernel : TG 159 = 35) (by decide +kernel : TG 165 = 41) (by decide)))).trans ((h114 _ _ (inW (by decide +kernel : TG 159 = 35) (by decide +kernel))).trans ((h106 _ _ (Or.inl (neTG (by decide +kernel : TG 159 = 35) (by decide +kernel : TG 165 = 41) (by decide)))).trans ((h25 _ _ (inW (by decide +kernel : TG 159 = 35) (by decide +kernel))).trans h1))))) rfl rfl rfl (by decide +kernel : TG 159 = 35) (by decide +kernel) ?_
      refine En_Ps 3 (pc' := 102) (lv' := [(1, .int z6), (0, .ref 159)]) (st' := [.int ((z6 + ((Int32.ofInt 3)))), .ref 165]) rfl ?_
      refine En_top (addI rfl (by decide : (Int32.ofInt 3).toInt = 3) (by omega) (by omega)) (fun z137 h138 => ?_)
      refine En_Ps 1 (pc' := 103) (lv' := [(1, .int z6), (0, .ref 159)]) (st' := [.int ((Int32.ofInt (-1))), .int z137, .ref 165]) rfl ?_
      refine En_iast (l := (-1)) (u := 3) rfl rfl (by decide +kernel : TG 165 = 41) (by decide +kernel) (by omega) (lnI (by decide +kernel : LN _ = 226) (by omega)) (FTrow 41 13 4 4 (by decide +kernel) (by omega) (by omega) (by omega)) (rngI (by decide : (Int32.ofInt (-1)).toInt = -1) (by omega) (by omega)) h132 h133 (by decide +kernel) (fun σ139 h140 h141 h142 h143 => ?_)
      have h144 := KF_st h136 (J := z137.toInt) h143 (by omega) (by omega)
      refine En_Ps 1 (pc' := 105) (lv' := [(1, .int z6), (0, .ref 159)]) (st' := [.ref 159]) rfl ?_
      refine En_getK (j := 14) ((h143 _ _ (Or.inl (neTG (by decide +kernel : TG 159 = 35) (by decide +kernel : TG 165 = 41) (by decide)))).trans ((h135 _ _ (Or.inl (neTG (by decide +kernel : TG 159 = 35) (by decide +kernel : TG 165 = 41) (by decide)))).trans ((h127 _ _ (Or.inl (neTG (by decide +kernel : TG 159 = 35) (by decide +kernel : TG 165 = 41) (by decide)))).trans ((h114 _ _ (inW (by decide +kernel : TG 159 = 35) (by decide +kernel))).trans ((h106 _ _ (Or.inl (neTG (by decide +kernel : TG 159 = 35) (by decide +kernel : TG 165 = 41) (by decide)))).trans ((h25 _ _ (inW (by decide +kernel : TG 159 = 35) (by decide +kernel))).trans h1)))))) rfl rfl rfl (by decide +kernel : TG 159 = 35) (by decide +kernel) ?_
      refine En_Ps 2 (pc' := 110) (lv' := [(1, .int z6), (0, .ref 159)]) (st' := [.int ((Int32.ofInt 2)), .ref 165, .int ((Int32.ofInt 2)), .ref 165]) rfl ?_
      refine En_ialdK ((h143 _ _ (Or.inr (by omega))).trans ((h135 _ _ (Or.inr (by omega))).trans ((h127 _ _ (Or.inr (by omega))).trans ((h114 _ _ (inWa (by decide +kernel : TG 165 = 41) (by decide +kernel))).trans ((h106 _ _ (Or.inr (by omega))).trans ((h25 _ _ (inWa (by decide +kernel : TG 165 = 41) (by decide +kernel))).trans h_nd)))))) rfl (by decide : (Int32.ofInt 2).toInt = 2) (by decide +kernel : TG 165 = 41) (by decide +kernel) h140 (by omega) (lnI (by decide +kernel : LN _ = 226) (by omega)) ?_
      refine En_Ps 2 (pc' := 113) (lv' := [(1, .int z6), (0, .ref 159)]) (st' := [.int ((nd + ((Int32.ofInt 1)))), .int ((Int32.ofInt 2)), .ref 165]) rfl ?_
      refine En_top (addI rfl (by decide : (Int32.ofInt 1).toInt = 1) (by omega) (by omega)) (fun z146 h147 => ?_)
      refine En_iast (l := 0) (u := 4) rfl (by decide : (Int32.ofInt 2).toInt = 2) (by decide +kernel : TG 165 = 41) (by decide +kernel) (by omega) (lnI (by decide +kernel : LN _ = 226) (by omega)) (by decide +kernel) (rngI rfl (by omega) (by omega)) h140 h141 (by decide +kernel) (fun σ148 h149 h150 h151 h152 => ?_)
      have h153 := KF_st h144 (J := 2) h152 (by omega) (by omega)
      exact En_ret (v := none) rfl rfl rfl ⟨h149, h150, z116, ((h152 _ _ (Or.inl (neTG (by decide +kernel : TG 159 = 35) (by decide +kernel : TG 165 = 41) (by decide)))).trans ((h143 _ _ (Or.inl (neTG (by decide +kernel : TG 159 = 35) (by decide +kernel : TG 165 = 41) (by decide)))).trans ((h135 _ _ (Or.inl (neTG (by decide +kernel : TG 159 = 35) (by decide +kernel : TG 165 = 41) (by decide)))).trans ((h127 _ _ (Or.inl (neTG (by decide +kernel : TG 159 = 35) (by decide +kernel : TG 165 = 41) (by decide)))).trans h117)))), z118, ((h152 _ _ (Or.inl (neTG (by decide +kernel : TG 159 = 35) (by decide +kernel : TG 165 = 41) (by decide)))).trans ((h143 _ _ (Or.inl (neTG (by decide +kernel : TG 159 = 35) (by decide +kernel : TG 165 = 41) (by decide)))).trans ((h135 _ _ (Or.inl (neTG (by decide +kernel : TG 159 = 35) (by decide +kernel : TG 165 = 41) (by decide)))).trans ((h127 _ _ (Or.inl (neTG (by decide +kernel : TG 159 = 35) (by decide +kernel : TG 165 = 41) (by decide)))).trans h119)))), rfl, ⟨by omega, by omega, by omega, by omega, by omega, by omega, by omega, by omega, by omega, by omega, by omega, by omega, by omega, by omega, by omega, by omega, by omega, by omega, h153⟩⟩
  · refine En_Ps 1 (pc' := 22) (lv' := [(1, .int z6), (0, .ref 159)]) (st' := [.ref 159]) rfl ?_
    refine En_getK (j := 14) ((h12 _ _ (inW (by decide +kernel : TG 159 = 35) (by decide +kernel))).trans h1) rfl rfl rfl (by decide +kernel : TG 159 = 35) (by decide +kernel) ?_
    refine En_Ps 3 (pc' := 28) (lv' := [(1, .int z6), (0, .ref 159)]) (st' := [.int ((z6 + ((Int32.ofInt 0)))), .ref 165]) rfl ?_
    refine En_top (addI rfl (by decide : (Int32.ofInt 0).toInt = 0) (by omega) (by omega)) (fun z154 h155 => ?_)
    refine En_Ps 1 (pc' := 29) (lv' := [(1, .int z6), (0, .ref 159)]) (st' := [.int ((Int32.ofInt 0)), .int z154, .ref 165]) rfl ?_
    refine En_iast (l := 0) (u := 2) rfl rfl (by decide +kernel : TG 165 = 41) (by decide +kernel) (by omega) (lnI (by decide +kernel : LN _ = 226) (by omega)) (FTrow 41 10 4 4 (by decide +kernel) (by omega) (by omega) (by omega)) (rngI (by decide : (Int32.ofInt 0).toInt = 0) (by omega) (by omega)) h11 h18 (by decide +kernel) (fun σ156 h157 h158 h159 h160 => ?_)
    have h161 := KF_st h19 (J := z154.toInt) h160 (by omega) (by omega)
    refine En_Ps 2 (pc' := 70) (lv' := [(1, .int z6), (0, .ref 159)]) (st' := [.ref 159]) rfl ?_
    refine En_getK (j := 14) ((h160 _ _ (Or.inl (neTG (by decide +kernel : TG 159 = 35) (by decide +kernel : TG 165 = 41) (by decide)))).trans ((h12 _ _ (inW (by decide +kernel : TG 159 = 35) (by decide +kernel))).trans h1)) rfl rfl rfl (by decide +kernel : TG 159 = 35) (by decide +kernel) ?_
    refine En_Ps 3 (pc' := 76) (lv' := [(1, .int z6), (0, .ref 159)]) (st' := [.int ((z6 + ((Int32.ofInt 1)))), .ref 165]) rfl ?_
    refine En_top (addI rfl (by decide : (Int32.ofInt 1).toInt = 1) (by omega) (by omega)) (fun z162 h163 => ?_)
    refine En_Ps 1 (pc' := 77) (lv' := [(1, .int z6), (0, .ref 159)]) (st' := [.ref 159, .int z162, .ref 165]) rfl ?_
    refine En_ldcS (i := 14) rfl rfl rfl ?_
    refine En_Ps 2 (pc' := 82) (lv' := [(1, .int z6), (0, .ref 159)]) (st' := [.int (((Int8.ofInt 50).toInt32)), .int ((Int32.ofInt 0)), .retAddr 29, .ref 159, .int z162, .ref 165]) rfl ?_
    have := (by decide : ((Int32.ofInt 0)).toInt = 0)
    have := (by decide : (((Int8.ofInt 50).toInt32)).toInt = 50)
    refine En_callV rfl rfl rfl rfl rfl rfl rfl rfl (by decide +kernel : TG 159 = 35) (by decide +kernel) rfl (c_323s14 σ156 h157 ((Int32.ofInt 0)) (((Int8.ofInt 50).toInt32)) z14 ((h160 _ _ (Or.inl (neTG (by decide +kernel : TG 159 = 35) (by decide +kernel : TG 165 = 41) (by decide)))).trans h15) k ((h160 _ _ (Or.inl (neTG (by decide +kernel : TG 159 = 35) (by decide +kernel : TG 165 = 41) (by decide)))).trans ((h12 _ _ (inW (by decide +kernel : TG 159 = 35) (by decide +kernel))).trans h_k))) (by decide) (by decide) (fun v165 σ166 h164 => ?_)
    obtain ⟨h167, h168, z170, h171, z172, h173, z174, rfl, h169⟩ := h164
    have h175 := Fr_trans h158 h168 (by decide +kernel)
    have h176 := KF_fr h161 h168 (by decide +kernel)
    refine En_iast (l := 0) (u := 50) rfl rfl (by decide +kernel : TG 165 = 41) (by decide +kernel) (by omega) (lnI (by decide +kernel : LN _ = 226) (by omega)) (FTrow 41 11 4 4 (by decide +kernel) (by omega) (by omega) (by omega)) (rngI rfl (by omega) (by omega)) h167 h175 (by decide +kernel) (fun σ177 h178 h179 h180 h181 => ?_)
    have h182 := KF_st h176 (J := z162.toInt) h181 (by omega) (by omega)
    refine En_Ps 1 (pc' := 87) (lv' := [(1, .int z6), (0, .ref 159)]) (st' := [.ref 159]) rfl ?_
    refine En_getK (j := 14) ((h181 _ _ (Or.inl (neTG (by decide +kernel : TG 159 = 35) (by decide +kernel : TG 165 = 41) (by decide)))).trans ((h168 _ _ (inW (by decide +kernel : TG 159 = 35) (by decide +kernel))).trans ((h160 _ _ (Or.inl (neTG (by decide +kernel : TG 159 = 35) (by decide +kernel : TG 165 = 41) (by decide)))).trans ((h12 _ _ (inW (by decide +kernel : TG 159 = 35) (by decide +kernel))).trans h1)))) rfl rfl rfl (by decide +kernel : TG 159 = 35) (by decide +kernel) ?_
    refine En_Ps 3 (pc' := 93) (lv' := [(1, .int z6), (0, .ref 159)]) (st' := [.int ((z6 + ((Int32.ofInt 2)))), .ref 165]) rfl ?_
    refine En_top (addI rfl (by decide : (Int32.ofInt 2).toInt = 2) (by omega) (by omega)) (fun z183 h184 => ?_)
    refine En_Ps 1 (pc' := 94) (lv' := [(1, .int z6), (0, .ref 159)]) (st' := [.int ((Int32.ofInt 0)), .int z183, .ref 165]) rfl ?_
    refine En_iast (l := 0) (u := 12) rfl rfl (by decide +kernel : TG 165 = 41) (by decide +kernel) (by omega) (lnI (by decide +kernel : LN _ = 226) (by omega)) (FTrow 41 12 4 4 (by decide +kernel) (by omega) (by omega) (by omega)) (rngI (by decide : (Int32.ofInt 0).toInt = 0) (by omega) (by omega)) h178 h179 (by decide +kernel) (fun σ185 h186 h187 h188 h189 => ?_)
    have h190 := KF_st h182 (J := z183.toInt) h189 (by omega) (by omega)
    refine En_Ps 1 (pc' := 96) (lv' := [(1, .int z6), (0, .ref 159)]) (st' := [.ref 159]) rfl ?_
    refine En_getK (j := 14) ((h189 _ _ (Or.inl (neTG (by decide +kernel : TG 159 = 35) (by decide +kernel : TG 165 = 41) (by decide)))).trans ((h181 _ _ (Or.inl (neTG (by decide +kernel : TG 159 = 35) (by decide +kernel : TG 165 = 41) (by decide)))).trans ((h168 _ _ (inW (by decide +kernel : TG 159 = 35) (by decide +kernel))).trans ((h160 _ _ (Or.inl (neTG (by decide +kernel : TG 159 = 35) (by decide +kernel : TG 165 = 41) (by decide)))).trans ((h12 _ _ (inW (by decide +kernel : TG 159 = 35) (by decide +kernel))).trans h1))))) rfl rfl rfl (by decide +kernel : TG 159 = 35) (by decide +kernel) ?_
    refine En_Ps 3 (pc' := 102) (lv' := [(1, .int z6), (0, .ref 159)]) (st' := [.int ((z6 + ((Int32.ofInt 3)))), .ref 165]) rfl ?_
    refine En_top (addI rfl (by decide : (Int32.ofInt 3).toInt = 3) (by omega) (by omega)) (fun z191 h192 => ?_)
    refine En_Ps 1 (pc' := 103) (lv' := [(1, .int z6), (0, .ref 159)]) (st' := [.int ((Int32.ofInt (-1))), .int z191, .ref 165]) rfl ?_
    refine En_iast (l := (-1)) (u := 3) rfl rfl (by decide +kernel : TG 165 = 41) (by decide +kernel) (by omega) (lnI (by decide +kernel : LN _ = 226) (by omega)) (FTrow 41 13 4 4 (by decide +kernel) (by omega) (by omega) (by omega)) (rngI (by decide : (Int32.ofInt (-1)).toInt = -1) (by omega) (by omega)) h186 h187 (by decide +kernel) (fun σ193 h194 h195 h196 h197 => ?_)
    have h198 := KF_st h190 (J := z191.toInt) h197 (by omega) (by omega)
    refine En_Ps 1 (pc' := 105) (lv' := [(1, .int z6), (0, .ref 159)]) (st' := [.ref 159]) rfl ?_
    refine En_getK (j := 14) ((h197 _ _ (Or.inl (neTG (by decide +kernel : TG 159 = 35) (by decide +kernel : TG 165 = 41) (by decide)))).trans ((h189 _ _ (Or.inl (neTG (by decide +kernel : TG 159 = 35) (by decide +kernel : TG 165 = 41) (by decide)))).trans ((h181 _ _ (Or.inl (neTG (by decide +kernel : TG 159 = 35) (by decide +kernel : TG 165 = 41) (by decide)))).trans ((h168 _ _ (inW (by decide +kernel : TG 159 = 35) (by decide +kernel))).trans ((h160 _ _ (Or.inl (neTG (by decide +kernel : TG 159 = 35) (by decide +kernel : TG 165 = 41) (by decide)))).trans ((h12 _ _ (inW (by decide +kernel : TG 159 = 35) (by decide +kernel))).trans h1)))))) rfl rfl rfl (by decide +kernel : TG 159 = 35) (by decide +kernel) ?_
    refine En_Ps 2 (pc' := 110) (lv' := [(1, .int z6), (0, .ref 159)]) (st' := [.int ((Int32.ofInt 2)), .ref 165, .int ((Int32.ofInt 2)), .ref 165]) rfl ?_
    refine En_ialdK ((h197 _ _ (Or.inr (by omega))).trans ((h189 _ _ (Or.inr (by omega))).trans ((h181 _ _ (Or.inr (by omega))).trans ((h168 _ _ (inWa (by decide +kernel : TG 165 = 41) (by decide +kernel))).trans ((h160 _ _ (Or.inr (by omega))).trans ((h12 _ _ (inWa (by decide +kernel : TG 165 = 41) (by decide +kernel))).trans h_nd)))))) rfl (by decide : (Int32.ofInt 2).toInt = 2) (by decide +kernel : TG 165 = 41) (by decide +kernel) h194 (by omega) (lnI (by decide +kernel : LN _ = 226) (by omega)) ?_
    refine En_Ps 2 (pc' := 113) (lv' := [(1, .int z6), (0, .ref 159)]) (st' := [.int ((nd + ((Int32.ofInt 1)))), .int ((Int32.ofInt 2)), .ref 165]) rfl ?_
    refine En_top (addI rfl (by decide : (Int32.ofInt 1).toInt = 1) (by omega) (by omega)) (fun z200 h201 => ?_)
    refine En_iast (l := 0) (u := 4) rfl (by decide : (Int32.ofInt 2).toInt = 2) (by decide +kernel : TG 165 = 41) (by decide +kernel) (by omega) (lnI (by decide +kernel : LN _ = 226) (by omega)) (by decide +kernel) (rngI rfl (by omega) (by omega)) h194 h195 (by decide +kernel) (fun σ202 h203 h204 h205 h206 => ?_)
    have h207 := KF_st h198 (J := 2) h206 (by omega) (by omega)
    exact En_ret (v := none) rfl rfl rfl ⟨h203, h204, z170, ((h206 _ _ (Or.inl (neTG (by decide +kernel : TG 159 = 35) (by decide +kernel : TG 165 = 41) (by decide)))).trans ((h197 _ _ (Or.inl (neTG (by decide +kernel : TG 159 = 35) (by decide +kernel : TG 165 = 41) (by decide)))).trans ((h189 _ _ (Or.inl (neTG (by decide +kernel : TG 159 = 35) (by decide +kernel : TG 165 = 41) (by decide)))).trans ((h181 _ _ (Or.inl (neTG (by decide +kernel : TG 159 = 35) (by decide +kernel : TG 165 = 41) (by decide)))).trans h171)))), z172, ((h206 _ _ (Or.inl (neTG (by decide +kernel : TG 159 = 35) (by decide +kernel : TG 165 = 41) (by decide)))).trans ((h197 _ _ (Or.inl (neTG (by decide +kernel : TG 159 = 35) (by decide +kernel : TG 165 = 41) (by decide)))).trans ((h189 _ _ (Or.inl (neTG (by decide +kernel : TG 159 = 35) (by decide +kernel : TG 165 = 41) (by decide)))).trans ((h181 _ _ (Or.inl (neTG (by decide +kernel : TG 159 = 35) (by decide +kernel : TG 165 = 41) (by decide)))).trans h173)))), rfl, ⟨by omega, by omega, by omega, by omega, by omega, by omega, by omega, by omega, by omega, by omega, by omega, by omega, by omega, by omega, by omega, by omega, by omega, by omega, h207⟩⟩
/-- DoorSchoolModel.readLesson()V -/
abbrev P_300 (σ0 : SG) (f : Int32) (k : Int32) : PO := fun v σ => WT σ ∧ Fr [(35, 8), (35, 9), (35, 10), (35, 11), (35, 12), (35, 13), (41, 0)] σ0 σ ∧ ∃ f1 : Int32, (σ 159)[8]? = some (.int f1) ∧ ∃ k1 : Int32, (σ 159)[12]? = some (.int k1) ∧ v = none ∧ -f1.toInt ≤ 0 ∧ f1.toInt - 1600 ≤ 0 ∧ -f1.toInt + f.toInt ≤ 0 ∧ f1.toInt - f.toInt - 1600 ≤ 0 ∧ -f1.toInt + k.toInt - 3 ≤ 0 ∧ f1.toInt - k.toInt - 1600 ≤ 0 ∧ -k1.toInt ≤ 0 ∧ k1.toInt - 3 ≤ 0 ∧ -k1.toInt + f.toInt - 1600 ≤ 0 ∧ k1.toInt - f.toInt - 3 ≤ 0 ∧ -k1.toInt + k.toInt ≤ 0 ∧ k1.toInt - k.toInt - 3 ≤ 0 ∧ f.toInt - f1.toInt ≤ 0 ∧ (k1.toInt ≤ 0 → k.toInt ≤ 0) ∧ KF σ0 σ
set_option maxRecDepth 10000 in
set_option maxHeartbeats 4000000 in
theorem c_300 (σ0 : SG) (hσ0 : WT σ0) (f : Int32) (h_f : (σ0 159)[8]? = some (.int f)) (k : Int32) (h_k : (σ0 159)[12]? = some (.int k)) : En 8 176 none mr_300 (P_300 σ0 f k) 0 [(0, .ref 159)] [] σ0 := by
  obtain ⟨hl_f, hu_f⟩ := WT_int hσ0 (g := 35) (by decide +kernel) (by decide +kernel) (l := 0) (u := 1600) (by decide +kernel) h_f
  obtain ⟨hl_k, hu_k⟩ := WT_int hσ0 (g := 35) (by decide +kernel) (by decide +kernel) (l := 0) (u := 3) (by decide +kernel) h_k
  have hF0 : Fr [(35, 8), (35, 9), (35, 10), (35, 11), (35, 12), (35, 13), (41, 0)] σ0 σ0 := Fr_rfl
  refine En_Ps 2 (pc' := 2) (lv' := [(0, .ref 159)]) (st' := [.ref 159, .ref 159]) rfl ?_
  refine En_getU (j := 14) (u := 165) (g' := 41) (q := 0) rfl rfl rfl (by decide +kernel : TG 159 = 35) (by decide +kernel) hσ0 (by decide +kernel) (by decide +kernel) (fun h1 => ?_)
  refine En_Ps 1 (pc' := 6) (lv' := [(0, .ref 159)]) (st' := [.int ((Int32.ofInt 2)), .ref 165, .ref 159]) rfl ?_
  refine En_iald (l := 0) (u := 4) rfl (by decide : (Int32.ofInt 2).toInt = 2) (by decide +kernel : TG 165 = 41) (by decide +kernel) hσ0 (by omega) (lnI (by decide +kernel : LN _ = 226) (by omega)) (by decide +kernel) (fun z4 h3 h5 h6 => ?_)
  obtain ⟨z8, h7, h9, h10⟩ := WT_peekI hσ0 (by decide +kernel : TG 159 = 35) (by decide +kernel : FT 35 10 = (0, 0, 4)) (by decide +kernel)
  obtain ⟨z12, h11, h13, h14⟩ := WT_peekI hσ0 (by decide +kernel : TG 159 = 35) (by decide +kernel : FT 35 11 = (0, 0, 99999)) (by decide +kernel)
  refine En_callV rfl rfl rfl rfl rfl rfl rfl rfl (by decide +kernel : TG 159 = 35) (by decide +kernel) rfl (c_260 σ0 hσ0 z4 k h_k z8 h7 z12 h11) (by decide) (by decide) (fun v16 σ17 h15 => ?_)
  obtain ⟨h18, h19, z21, rfl, h20⟩ := h15
  obtain rfl : σ0 = σ17 := Fr_nil h19
  refine En_iEq _ rfl rfl (fun h22 => ?_) (fun h22 => ?_)
  · refine En_Ps 3 (pc' := 42) (lv' := [(0, .ref 159)]) (st' := [.ref 159, .int ((Int32.ofInt 0)), .ref 159]) rfl ?_
    refine En_getK (j := 14) h1 rfl rfl rfl (by decide +kernel : TG 159 = 35) (by decide +kernel) ?_
    refine En_Ps 1 (pc' := 46) (lv' := [(0, .ref 159)]) (st' := [.int ((Int32.ofInt 2)), .ref 165, .int ((Int32.ofInt 0)), .ref 159]) rfl ?_
    refine En_ialdK h3 rfl (by decide : (Int32.ofInt 2).toInt = 2) (by decide +kernel : TG 165 = 41) (by decide +kernel) hσ0 (by omega) (lnI (by decide +kernel : LN _ = 226) (by omega)) ?_
    refine En_Ps 2 (pc' := 49) (lv' := [(0, .ref 159)]) (st' := [.int ((z4 - ((Int32.ofInt 1)))), .int ((Int32.ofInt 0)), .ref 159]) rfl ?_
    refine En_top (subI rfl (by decide : (Int32.ofInt 1).toInt = 1) (by omega) (by omega)) (fun z24 h25 => ?_)
    have := (by decide : ((Int32.ofInt 0)).toInt = 0)
    refine En_callV rfl rfl rfl rfl rfl rfl rfl rfl (by decide +kernel : TG 159 = 35) (by decide +kernel) rfl (c_288 σ0 hσ0 ((Int32.ofInt 0)) z24 f h_f k h_k z8 h7 z12 h11) (by decide) (by decide) (fun v27 σ28 h26 => ?_)
    obtain ⟨h29, h30, z32, h33, z34, h35, z36, rfl, h31⟩ := h26
    have h37 := Fr_trans hF0 h30 (by decide +kernel)
    have h38 := KF_fr (KF_0 (σ := σ0)) h30 (by decide +kernel)
    refine En_Ps 2 (pc' := 54) (lv' := [(1, .int z36), (0, .ref 159)]) (st' := [.ref 159]) rfl ?_
    refine En_callV rfl rfl rfl rfl rfl rfl rfl rfl (by decide +kernel : TG 159 = 35) (by decide +kernel) rfl (c_234 σ28 h29 z32 h33 z34 h35) (by decide) (by decide) (fun v40 σ41 h39 => ?_)
    obtain ⟨h42, h43, z45, h46, z47, h48, z49, rfl, h44⟩ := h39
    have h50 := Fr_trans h37 h43 (by decide +kernel)
    have h51 := KF_fr h38 h43 (by decide +kernel)
    refine En_Ps 2 (pc' := 59) (lv' := [(2, .int z49), (1, .int z36), (0, .ref 159)]) (st' := [.ref 159]) rfl ?_
    refine En_callV rfl rfl rfl rfl rfl rfl rfl rfl (by decide +kernel : TG 159 = 35) (by decide +kernel) rfl (c_209 σ41 h42 z45 h46 z47 h48) (by decide) (by decide) (fun v53 σ54 h52 => ?_)
    obtain ⟨h55, h56, z58, h59, z60, h61, z62, rfl, h57⟩ := h52
    have h63 := Fr_trans h50 h56 (by decide +kernel)
    have h64 := KF_fr h51 h56 (by decide +kernel)
    refine En_Ps 2 (pc' := 64) (lv' := [(3, .int z62), (2, .int z49), (1, .int z36), (0, .ref 159)]) (st' := [.ref 159]) rfl ?_
    refine En_callV rfl rfl rfl rfl rfl rfl rfl rfl (by decide +kernel : TG 159 = 35) (by decide +kernel) rfl (c_237 σ54 h55 z60 h61) (by decide) (by decide) (fun v66 σ67 h65 => ?_)
    obtain ⟨h68, h69, z71, rfl, h70⟩ := h65
    obtain rfl : σ54 = σ67 := Fr_nil h69
    refine En_iNe _ rfl rfl (fun hx => by exfalso; omega) (fun h72 => ?_)
    exact En_ret (v := none) rfl rfl rfl ⟨h55, h63, z58, h59, z60, h61, rfl, ⟨by omega, by omega, by omega, by omega, by omega, by omega, by omega, by omega, by omega, by omega, by omega, by omega, by omega, by omega, h64⟩⟩
  · refine En_Ps 1 (pc' := 14) (lv' := [(0, .ref 159)]) (st' := [.ref 159]) rfl ?_
    refine En_getK (j := 14) h1 rfl rfl rfl (by decide +kernel : TG 159 = 35) (by decide +kernel) ?_
    refine En_Ps 3 (pc' := 21) (lv' := [(0, .ref 159)]) (st' := [.ref 159, .int ((Int32.ofInt 4)), .int (((Int8.ofInt 10).toInt32)), .ref 165]) rfl ?_
    refine En_getK (j := 11) h11 rfl rfl rfl (by decide +kernel : TG 159 = 35) (by decide +kernel) ?_
    refine En_Ps 1 (pc' := 25) (lv' := [(0, .ref 159)]) (st' := [.int ((((Int32.ofInt 4)) * z12)), .int (((Int8.ofInt 10).toInt32)), .ref 165]) rfl ?_
    refine En_top (mulI (by decide : (Int32.ofInt 4).toInt = 4) rfl (Z := 4 * z12.toInt) (by omega) (by omega) (by omega)) (fun z73 h74 => ?_)
    refine En_Ps 1 (pc' := 26) (lv' := [(0, .ref 159)]) (st' := [.int (((((Int8.ofInt 10).toInt32)) + z73)), .ref 165]) rfl ?_
    refine En_top (addI (by decide : ((Int8.ofInt 10).toInt32).toInt = 10) rfl (by omega) (by omega)) (fun z75 h76 => ?_)
    refine En_Ps 2 (pc' := 28) (lv' := [(0, .ref 159)]) (st' := [.int ((z75 + ((Int32.ofInt 2)))), .ref 165]) rfl ?_
    refine En_top (addI rfl (by decide : (Int32.ofInt 2).toInt = 2) (by omega) (by omega)) (fun z77 h78 => ?_)
    refine En_iald (l := 0) (u := 12) rfl rfl (by decide +kernel : TG 165 = 41) (by decide +kernel) hσ0 (by omega) (lnI (by decide +kernel : LN _ = 226) (by omega)) (FTrow 41 12 4 4 (by decide +kernel) (by omega) (by omega) (by omega)) (fun z80 h79 h81 h82 => ?_)
    refine En_Ps 1 (pc' := 31) (lv' := [(0, .ref 159)]) (st' := [.int (((Int8.ofInt 12).toInt32)), .int z80]) rfl ?_
    refine En_icNe _ rfl (by decide : ((Int8.ofInt 12).toInt32).toInt = 12) rfl (fun h83 => ?_) (fun h83 => ?_)
    · refine En_Ps 3 (pc' := 42) (lv' := [(0, .ref 159)]) (st' := [.ref 159, .int ((Int32.ofInt 0)), .ref 159]) rfl ?_
      refine En_getK (j := 14) h1 rfl rfl rfl (by decide +kernel : TG 159 = 35) (by decide +kernel) ?_
      refine En_Ps 1 (pc' := 46) (lv' := [(0, .ref 159)]) (st' := [.int ((Int32.ofInt 2)), .ref 165, .int ((Int32.ofInt 0)), .ref 159]) rfl ?_
      refine En_ialdK h3 rfl (by decide : (Int32.ofInt 2).toInt = 2) (by decide +kernel : TG 165 = 41) (by decide +kernel) hσ0 (by omega) (lnI (by decide +kernel : LN _ = 226) (by omega)) ?_
      refine En_Ps 2 (pc' := 49) (lv' := [(0, .ref 159)]) (st' := [.int ((z4 - ((Int32.ofInt 1)))), .int ((Int32.ofInt 0)), .ref 159]) rfl ?_
      refine En_top (subI rfl (by decide : (Int32.ofInt 1).toInt = 1) (by omega) (by omega)) (fun z85 h86 => ?_)
      have := (by decide : ((Int32.ofInt 0)).toInt = 0)
      refine En_callV rfl rfl rfl rfl rfl rfl rfl rfl (by decide +kernel : TG 159 = 35) (by decide +kernel) rfl (c_288 σ0 hσ0 ((Int32.ofInt 0)) z85 f h_f k h_k z8 h7 z12 h11) (by decide) (by decide) (fun v88 σ89 h87 => ?_)
      obtain ⟨h90, h91, z93, h94, z95, h96, z97, rfl, h92⟩ := h87
      have h98 := Fr_trans hF0 h91 (by decide +kernel)
      have h99 := KF_fr (KF_0 (σ := σ0)) h91 (by decide +kernel)
      refine En_Ps 2 (pc' := 54) (lv' := [(1, .int z97), (0, .ref 159)]) (st' := [.ref 159]) rfl ?_
      refine En_callV rfl rfl rfl rfl rfl rfl rfl rfl (by decide +kernel : TG 159 = 35) (by decide +kernel) rfl (c_234 σ89 h90 z93 h94 z95 h96) (by decide) (by decide) (fun v101 σ102 h100 => ?_)
      obtain ⟨h103, h104, z106, h107, z108, h109, z110, rfl, h105⟩ := h100
      have h111 := Fr_trans h98 h104 (by decide +kernel)
      have h112 := KF_fr h99 h104 (by decide +kernel)
      refine En_Ps 2 (pc' := 59) (lv' := [(2, .int z110), (1, .int z97), (0, .ref 159)]) (st' := [.ref 159]) rfl ?_
      refine En_callV rfl rfl rfl rfl rfl rfl rfl rfl (by decide +kernel : TG 159 = 35) (by decide +kernel) rfl (c_209 σ102 h103 z106 h107 z108 h109) (by decide) (by decide) (fun v114 σ115 h113 => ?_)
      obtain ⟨h116, h117, z119, h120, z121, h122, z123, rfl, h118⟩ := h113
      have h124 := Fr_trans h111 h117 (by decide +kernel)
      have h125 := KF_fr h112 h117 (by decide +kernel)
      refine En_Ps 2 (pc' := 64) (lv' := [(3, .int z123), (2, .int z110), (1, .int z97), (0, .ref 159)]) (st' := [.ref 159]) rfl ?_
      refine En_callV rfl rfl rfl rfl rfl rfl rfl rfl (by decide +kernel : TG 159 = 35) (by decide +kernel) rfl (c_237 σ115 h116 z121 h122) (by decide) (by decide) (fun v127 σ128 h126 => ?_)
      obtain ⟨h129, h130, z132, rfl, h131⟩ := h126
      obtain rfl : σ115 = σ128 := Fr_nil h130
      refine En_iNe _ rfl rfl (fun h133 => ?_) (fun h133 => ?_)
      · refine En_Ps 2 (pc' := 73) (lv' := [(3, .int z123), (2, .int z110), (1, .int z97), (0, .ref 159)]) (st' := [.ref 159, .int z97]) rfl ?_
        refine En_getK (j := 14) ((h117 _ _ (inW (by decide +kernel : TG 159 = 35) (by decide +kernel))).trans ((h104 _ _ (inW (by decide +kernel : TG 159 = 35) (by decide +kernel))).trans ((h91 _ _ (inW (by decide +kernel : TG 159 = 35) (by decide +kernel))).trans h1))) rfl rfl rfl (by decide +kernel : TG 159 = 35) (by decide +kernel) ?_
        refine En_Ps 4 (pc' := 81) (lv' := [(3, .int z123), (2, .int z110), (1, .int z97), (0, .ref 159)]) (st' := [.int ((((Int32.ofInt 4)) * z97)), .int (((Int8.ofInt 10).toInt32)), .ref 165, .int z97]) rfl ?_
        refine En_top (mulI (by decide : (Int32.ofInt 4).toInt = 4) rfl (Z := 4 * z97.toInt) (by omega) (by omega) (by omega)) (fun z134 h135 => ?_)
        refine En_Ps 1 (pc' := 82) (lv' := [(3, .int z123), (2, .int z110), (1, .int z97), (0, .ref 159)]) (st' := [.int (((((Int8.ofInt 10).toInt32)) + z134)), .ref 165, .int z97]) rfl ?_
        refine En_top (addI (by decide : ((Int8.ofInt 10).toInt32).toInt = 10) rfl (by omega) (by omega)) (fun z136 h137 => ?_)
        refine En_Ps 2 (pc' := 84) (lv' := [(3, .int z123), (2, .int z110), (1, .int z97), (0, .ref 159)]) (st' := [.int ((z136 + ((Int32.ofInt 2)))), .ref 165, .int z97]) rfl ?_
        refine En_top (addI rfl (by decide : (Int32.ofInt 2).toInt = 2) (by omega) (by omega)) (fun z138 h139 => ?_)
        have h141 : (σ115 165)[(z138.toInt).toNat]? = some (.int z80) := by rw [show (z138.toInt) = (z77.toInt) by omega]; exact ((h117 _ _ (inWa (by decide +kernel : TG 165 = 41) (by decide +kernel))).trans ((h104 _ _ (inWa (by decide +kernel : TG 165 = 41) (by decide +kernel))).trans ((h91 _ _ (inWa (by decide +kernel : TG 165 = 41) (by decide +kernel))).trans h79)))
        refine En_ialdK h141 rfl rfl (by decide +kernel : TG 165 = 41) (by decide +kernel) h116 (by omega) (lnI (by decide +kernel : LN _ = 226) (by omega)) ?_
        refine En_callS rfl rfl rfl rfl rfl rfl rfl rfl rfl (c_281 σ115 h116 z97 z80 (geI rfl (by omega)) (leI rfl (by omega)) (geI rfl (by omega)) (leI rfl (by omega))) (by decide) (by decide) (fun v143 σ144 h142 => ?_)
        obtain ⟨h145, h146, z148, rfl, h147⟩ := h142
        obtain rfl : σ115 = σ144 := Fr_nil h146
        refine En_Ps 2 (pc' := 91) (lv' := [(4, .int z148), (3, .int z123), (2, .int z110), (1, .int z97), (0, .ref 159)]) (st' := [.ref 159]) rfl ?_
        refine En_getK (j := 14) ((h117 _ _ (inW (by decide +kernel : TG 159 = 35) (by decide +kernel))).trans ((h104 _ _ (inW (by decide +kernel : TG 159 = 35) (by decide +kernel))).trans ((h91 _ _ (inW (by decide +kernel : TG 159 = 35) (by decide +kernel))).trans h1))) rfl rfl rfl (by decide +kernel : TG 159 = 35) (by decide +kernel) ?_
        refine En_Ps 2 (pc' := 97) (lv' := [(4, .int z148), (3, .int z123), (2, .int z110), (1, .int z97), (0, .ref 159)]) (st' := [.int z110, .int z148, .ref 165]) rfl ?_
        refine En_iast (l := 0) (u := 15) rfl rfl (by decide +kernel : TG 165 = 41) (by decide +kernel) (by omega) (lnI (by decide +kernel : LN _ = 226) (by omega)) (FTrow 41 26 2 48 (by decide +kernel) (by omega) (by omega) (by omega)) (rngI rfl (by omega) (by omega)) h116 h124 (by decide +kernel) (fun σ149 h150 h151 h152 h153 => ?_)
        have h154 := KF_st h125 (J := z148.toInt) h153 (by omega) (by omega)
        refine En_Ps 1 (pc' := 99) (lv' := [(4, .int z148), (3, .int z123), (2, .int z110), (1, .int z97), (0, .ref 159)]) (st' := [.ref 159]) rfl ?_
        refine En_getK (j := 14) ((h153 _ _ (Or.inl (neTG (by decide +kernel : TG 159 = 35) (by decide +kernel : TG 165 = 41) (by decide)))).trans ((h117 _ _ (inW (by decide +kernel : TG 159 = 35) (by decide +kernel))).trans ((h104 _ _ (inW (by decide +kernel : TG 159 = 35) (by decide +kernel))).trans ((h91 _ _ (inW (by decide +kernel : TG 159 = 35) (by decide +kernel))).trans h1)))) rfl rfl rfl (by decide +kernel : TG 159 = 35) (by decide +kernel) ?_
        refine En_Ps 3 (pc' := 106) (lv' := [(4, .int z148), (3, .int z123), (2, .int z110), (1, .int z97), (0, .ref 159)]) (st' := [.int ((z148 + ((Int32.ofInt 1)))), .ref 165]) rfl ?_
        refine En_top (addI rfl (by decide : (Int32.ofInt 1).toInt = 1) (by omega) (by omega)) (fun z155 h156 => ?_)
        refine En_Ps 1 (pc' := 107) (lv' := [(4, .int z148), (3, .int z123), (2, .int z110), (1, .int z97), (0, .ref 159)]) (st' := [.int z123, .int z155, .ref 165]) rfl ?_
        refine En_iast (l := 0) (u := 1) rfl rfl (by decide +kernel : TG 165 = 41) (by decide +kernel) (by omega) (lnI (by decide +kernel : LN _ = 226) (by omega)) (FTrow 41 27 2 48 (by decide +kernel) (by omega) (by omega) (by omega)) (rngI rfl (by omega) (by omega)) h150 h151 (by decide +kernel) (fun σ157 h158 h159 h160 h161 => ?_)
        have h162 := KF_st h154 (J := z155.toInt) h161 (by omega) (by omega)
        refine En_Ps 1 (pc' := 109) (lv' := [(4, .int z148), (3, .int z123), (2, .int z110), (1, .int z97), (0, .ref 159)]) (st' := [.ref 159]) rfl ?_
        refine En_getK (j := 14) ((h161 _ _ (Or.inl (neTG (by decide +kernel : TG 159 = 35) (by decide +kernel : TG 165 = 41) (by decide)))).trans ((h153 _ _ (Or.inl (neTG (by decide +kernel : TG 159 = 35) (by decide +kernel : TG 165 = 41) (by decide)))).trans ((h117 _ _ (inW (by decide +kernel : TG 159 = 35) (by decide +kernel))).trans ((h104 _ _ (inW (by decide +kernel : TG 159 = 35) (by decide +kernel))).trans ((h91 _ _ (inW (by decide +kernel : TG 159 = 35) (by decide +kernel))).trans h1))))) rfl rfl rfl (by decide +kernel : TG 159 = 35) (by decide +kernel) ?_
        refine En_Ps 4 (pc' := 117) (lv' := [(4, .int z148), (3, .int z123), (2, .int z110), (1, .int z97), (0, .ref 159)]) (st' := [.int ((((Int32.ofInt 4)) * z97)), .int (((Int8.ofInt 10).toInt32)), .ref 165]) rfl ?_
        refine En_top (mulI (by decide : (Int32.ofInt 4).toInt = 4) rfl (Z := 4 * z97.toInt) (by omega) (by omega) (by omega)) (fun z163 h164 => ?_)
        refine En_Ps 1 (pc' := 118) (lv' := [(4, .int z148), (3, .int z123), (2, .int z110), (1, .int z97), (0, .ref 159)]) (st' := [.int (((((Int8.ofInt 10).toInt32)) + z163)), .ref 165]) rfl ?_
        refine En_top (addI (by decide : ((Int8.ofInt 10).toInt32).toInt = 10) rfl (by omega) (by omega)) (fun z165 h166 => ?_)
        refine En_Ps 2 (pc' := 120) (lv' := [(4, .int z148), (3, .int z123), (2, .int z110), (1, .int z97), (0, .ref 159)]) (st' := [.int ((z165 + ((Int32.ofInt 2)))), .ref 165]) rfl ?_
        refine En_top (addI rfl (by decide : (Int32.ofInt 2).toInt = 2) (by omega) (by omega)) (fun z167 h168 => ?_)
        refine En_Ps 1 (pc' := 121) (lv' := [(4, .int z148), (3, .int z123), (2, .int z110), (1, .int z97), (0, .ref 159)]) (st' := [.int z167, .ref 165, .int z167, .ref 165]) rfl ?_
        have h170 : (σ157 165)[(z167.toInt).toNat]? = some (.int z80) := by rw [show (z167.toInt) = (z77.toInt) by omega]; exact ((h161 _ _ (Or.inr (by omega))).trans ((h153 _ _ (Or.inr (by omega))).trans ((h117 _ _ (inWa (by decide +kernel : TG 165 = 41) (by decide +kernel))).trans ((h104 _ _ (inWa (by decide +kernel : TG 165 = 41) (by decide +kernel))).trans ((h91 _ _ (inWa (by decide +kernel : TG 165 = 41) (by decide +kernel))).trans h79)))))
        refine En_ialdK h170 rfl rfl (by decide +kernel : TG 165 = 41) (by decide +kernel) h158 (by omega) (lnI (by decide +kernel : LN _ = 226) (by omega)) ?_
        refine En_Ps 2 (pc' := 124) (lv' := [(4, .int z148), (3, .int z123), (2, .int z110), (1, .int z97), (0, .ref 159)]) (st' := [.int ((z80 + ((Int32.ofInt 1)))), .int z167, .ref 165]) rfl ?_
        refine En_top (addI rfl (by decide : (Int32.ofInt 1).toInt = 1) (by omega) (by omega)) (fun z171 h172 => ?_)
        refine En_iast (l := 0) (u := 12) rfl rfl (by decide +kernel : TG 165 = 41) (by decide +kernel) (by omega) (lnI (by decide +kernel : LN _ = 226) (by omega)) (FTrow 41 12 4 4 (by decide +kernel) (by omega) (by omega) (by omega)) (rngI rfl (by omega) (by omega)) h158 h159 (by decide +kernel) (fun σ173 h174 h175 h176 h177 => ?_)
        have h178 := KF_st h162 (J := z167.toInt) h177 (by omega) (by omega)
        exact En_ret (v := none) rfl rfl rfl ⟨h174, h175, z119, ((h177 _ _ (Or.inl (neTG (by decide +kernel : TG 159 = 35) (by decide +kernel : TG 165 = 41) (by decide)))).trans ((h161 _ _ (Or.inl (neTG (by decide +kernel : TG 159 = 35) (by decide +kernel : TG 165 = 41) (by decide)))).trans ((h153 _ _ (Or.inl (neTG (by decide +kernel : TG 159 = 35) (by decide +kernel : TG 165 = 41) (by decide)))).trans h120))), z121, ((h177 _ _ (Or.inl (neTG (by decide +kernel : TG 159 = 35) (by decide +kernel : TG 165 = 41) (by decide)))).trans ((h161 _ _ (Or.inl (neTG (by decide +kernel : TG 159 = 35) (by decide +kernel : TG 165 = 41) (by decide)))).trans ((h153 _ _ (Or.inl (neTG (by decide +kernel : TG 159 = 35) (by decide +kernel : TG 165 = 41) (by decide)))).trans h122))), rfl, ⟨by omega, by omega, by omega, by omega, by omega, by omega, by omega, by omega, by omega, by omega, by omega, by omega, by omega, by omega, h178⟩⟩
      · exact En_ret (v := none) rfl rfl rfl ⟨h116, h124, z119, h120, z121, h122, rfl, ⟨by omega, by omega, by omega, by omega, by omega, by omega, by omega, by omega, by omega, by omega, by omega, by omega, by omega, by omega, h125⟩⟩
    · refine En_Ps 2 (pc' := 36) (lv' := [(0, .ref 159)]) (st' := [.int ((Int32.ofInt 3)), .ref 159]) rfl ?_
      have := (by decide : ((Int32.ofInt 3)).toInt = 3)
      refine En_callV rfl rfl rfl rfl rfl rfl rfl rfl (by decide +kernel : TG 159 = 35) (by decide +kernel) rfl (c_223 σ0 hσ0 ((Int32.ofInt 3)) (geI (by decide : (Int32.ofInt 3).toInt = 3) (by omega)) (leI (by decide : (Int32.ofInt 3).toInt = 3) (by omega)) k h_k) (by decide) (by decide) (fun v180 σ181 h179 => ?_)
      obtain ⟨h182, h183, z185, h186, rfl, h184⟩ := h179
      have h187 := Fr_trans hF0 h183 (by decide +kernel)
      have h188 := KF_fr (KF_0 (σ := σ0)) h183 (by decide +kernel)
      refine En_Ps 3 (pc' := 42) (lv' := [(0, .ref 159)]) (st' := [.ref 159, .int ((Int32.ofInt 0)), .ref 159]) rfl ?_
      refine En_getK (j := 14) ((h183 _ _ (inW (by decide +kernel : TG 159 = 35) (by decide +kernel))).trans h1) rfl rfl rfl (by decide +kernel : TG 159 = 35) (by decide +kernel) ?_
      refine En_Ps 1 (pc' := 46) (lv' := [(0, .ref 159)]) (st' := [.int ((Int32.ofInt 2)), .ref 165, .int ((Int32.ofInt 0)), .ref 159]) rfl ?_
      refine En_ialdK ((h183 _ _ (inWa (by decide +kernel : TG 165 = 41) (by decide +kernel))).trans h3) rfl (by decide : (Int32.ofInt 2).toInt = 2) (by decide +kernel : TG 165 = 41) (by decide +kernel) h182 (by omega) (lnI (by decide +kernel : LN _ = 226) (by omega)) ?_
      refine En_Ps 2 (pc' := 49) (lv' := [(0, .ref 159)]) (st' := [.int ((z4 - ((Int32.ofInt 1)))), .int ((Int32.ofInt 0)), .ref 159]) rfl ?_
      refine En_top (subI rfl (by decide : (Int32.ofInt 1).toInt = 1) (by omega) (by omega)) (fun z190 h191 => ?_)
      have := (by decide : ((Int32.ofInt 0)).toInt = 0)
      refine En_callV rfl rfl rfl rfl rfl rfl rfl rfl (by decide +kernel : TG 159 = 35) (by decide +kernel) rfl (c_288 σ181 h182 ((Int32.ofInt 0)) z190 f ((h183 _ _ (inW (by decide +kernel : TG 159 = 35) (by decide +kernel))).trans h_f) z185 h186 z8 ((h183 _ _ (inW (by decide +kernel : TG 159 = 35) (by decide +kernel))).trans h7) z12 ((h183 _ _ (inW (by decide +kernel : TG 159 = 35) (by decide +kernel))).trans h11)) (by decide) (by decide) (fun v193 σ194 h192 => ?_)
      obtain ⟨h195, h196, z198, h199, z200, h201, z202, rfl, h197⟩ := h192
      have h203 := Fr_trans h187 h196 (by decide +kernel)
      have h204 := KF_fr h188 h196 (by decide +kernel)
      refine En_Ps 2 (pc' := 54) (lv' := [(1, .int z202), (0, .ref 159)]) (st' := [.ref 159]) rfl ?_
      refine En_callV rfl rfl rfl rfl rfl rfl rfl rfl (by decide +kernel : TG 159 = 35) (by decide +kernel) rfl (c_234 σ194 h195 z198 h199 z200 h201) (by decide) (by decide) (fun v206 σ207 h205 => ?_)
      obtain ⟨h208, h209, z211, h212, z213, h214, z215, rfl, h210⟩ := h205
      have h216 := Fr_trans h203 h209 (by decide +kernel)
      have h217 := KF_fr h204 h209 (by decide +kernel)
      refine En_Ps 2 (pc' := 59) (lv' := [(2, .int z215), (1, .int z202), (0, .ref 159)]) (st' := [.ref 159]) rfl ?_
      refine En_callV rfl rfl rfl rfl rfl rfl rfl rfl (by decide +kernel : TG 159 = 35) (by decide +kernel) rfl (c_209 σ207 h208 z211 h212 z213 h214) (by decide) (by decide) (fun v219 σ220 h218 => ?_)
      obtain ⟨h221, h222, z224, h225, z226, h227, z228, rfl, h223⟩ := h218
      have h229 := Fr_trans h216 h222 (by decide +kernel)
      have h230 := KF_fr h217 h222 (by decide +kernel)
      refine En_Ps 2 (pc' := 64) (lv' := [(3, .int z228), (2, .int z215), (1, .int z202), (0, .ref 159)]) (st' := [.ref 159]) rfl ?_
      refine En_callV rfl rfl rfl rfl rfl rfl rfl rfl (by decide +kernel : TG 159 = 35) (by decide +kernel) rfl (c_237 σ220 h221 z226 h227) (by decide) (by decide) (fun v232 σ233 h231 => ?_)
      obtain ⟨h234, h235, z237, rfl, h236⟩ := h231
      obtain rfl : σ220 = σ233 := Fr_nil h235
      refine En_iNe _ rfl rfl (fun hx => by exfalso; omega) (fun h238 => ?_)
      exact En_ret (v := none) rfl rfl rfl ⟨h221, h229, z224, h225, z226, h227, rfl, ⟨by omega, by omega, by omega, by omega, by omega, by omega, by omega, by omega, by omega, by omega, by omega, by omega, by omega, by omega, h230⟩⟩
