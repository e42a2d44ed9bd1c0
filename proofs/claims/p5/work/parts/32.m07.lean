/-- DoorSchoolModel.isNextIn(I)Z -/
abbrev P_260x (σ0 : SG) (a : Int32) (k : Int32) (t : Int32) (u : Int32) : PO := fun v σ => WT σ ∧ Fr [] σ0 σ ∧ ∃ ret : Int32, v = some (.int ret) ∧ -ret.toInt ≤ 0 ∧ ret.toInt - 1 ≤ 0 ∧ Imp (-ret.toInt + 1 ≤ 0) (k.toInt ≤ 0 ∧ t.toInt - 2 ≤ 0 ∧ -t.toInt + 2 ≤ 0 ∧ u.toInt - a.toInt + 1 ≤ 0) ∧ Imp (ret.toInt ≤ 0 ∧ k.toInt ≤ 0 ∧ t.toInt - 2 ≤ 0 ∧ -t.toInt + 2 ≤ 0) (a.toInt - u.toInt ≤ 0)
set_option maxRecDepth 10000 in
set_option maxHeartbeats 4000000 in
theorem c_260x (σ0 : SG) (hσ0 : WT σ0) (a : Int32) (k : Int32) (h_k : (σ0 159)[12]? = some (.int k)) (t : Int32) (h_t : (σ0 159)[10]? = some (.int t)) (u : Int32) (h_u : (σ0 159)[11]? = some (.int u)) : En 1 20 none mr_260 (P_260x σ0 a k t u) 0 [(0, .ref 159), (1, .int a)] [] σ0 := by
  obtain ⟨hl_k, hu_k⟩ := WT_int hσ0 (g := 35) (by decide +kernel) (by decide +kernel) (l := 0) (u := 3) (by decide +kernel) h_k
  obtain ⟨hl_t, hu_t⟩ := WT_int hσ0 (g := 35) (by decide +kernel) (by decide +kernel) (l := 0) (u := 4) (by decide +kernel) h_t
  obtain ⟨hl_u, hu_u⟩ := WT_int hσ0 (g := 35) (by decide +kernel) (by decide +kernel) (l := 0) (u := 99999) (by decide +kernel) h_u
  have hF0 : Fr [] σ0 σ0 := Fr_rfl
  refine En_Ps 1 (pc' := 1) (lv' := [(0, .ref 159), (1, .int a)]) (st' := [.ref 159]) rfl ?_
  refine En_callV rfl rfl rfl rfl rfl rfl rfl rfl (by decide +kernel : TG 159 = 35) (by decide +kernel) rfl (c_237 σ0 hσ0 k h_k) (by decide) (by decide) (fun v2 σ3 h1 => ?_)
  obtain ⟨h4, h5, z7, rfl, h6⟩ := h1
  obtain rfl : σ0 = σ3 := Fr_nil h5
  refine En_iEq _ rfl rfl (fun h8 => ?_) (fun h8 => ?_)
  · refine En_Ps 1 (pc' := 28) (lv' := [(0, .ref 159), (1, .int a)]) (st' := [.int ((Int32.ofInt 0))]) rfl ?_
    refine En_top (by decide : (Int32.ofInt 0).toInt = 0) (fun z9 h10 => ?_)
    exact En_ret (v := some (.int z9)) rfl rfl (retZ rfl rfl (by omega) (by omega)) ⟨hσ0, hF0, z9, rfl, ⟨by omega, by omega, fun _ => by omega, fun _ => by omega⟩⟩
  · refine En_Ps 1 (pc' := 8) (lv' := [(0, .ref 159), (1, .int a)]) (st' := [.ref 159]) rfl ?_
    refine En_getK (j := 10) h_t rfl rfl rfl (by decide +kernel : TG 159 = 35) (by decide +kernel) ?_
    refine En_Ps 1 (pc' := 12) (lv' := [(0, .ref 159), (1, .int a)]) (st' := [.int ((Int32.ofInt 2)), .int t]) rfl ?_
    refine En_icNe _ rfl (by decide : (Int32.ofInt 2).toInt = 2) rfl (fun h11 => ?_) (fun h11 => ?_)
    · refine En_Ps 1 (pc' := 28) (lv' := [(0, .ref 159), (1, .int a)]) (st' := [.int ((Int32.ofInt 0))]) rfl ?_
      refine En_top (by decide : (Int32.ofInt 0).toInt = 0) (fun z12 h13 => ?_)
      exact En_ret (v := some (.int z12)) rfl rfl (retZ rfl rfl (by omega) (by omega)) ⟨hσ0, hF0, z12, rfl, ⟨by omega, by omega, fun _ => by omega, fun _ => by omega⟩⟩
    · refine En_Ps 1 (pc' := 16) (lv' := [(0, .ref 159), (1, .int a)]) (st' := [.ref 159]) rfl ?_
      refine En_getK (j := 11) h_u rfl rfl rfl (by decide +kernel : TG 159 = 35) (by decide +kernel) ?_
      refine En_Ps 1 (pc' := 20) (lv' := [(0, .ref 159), (1, .int a)]) (st' := [.int a, .int u]) rfl ?_
      refine En_icGe _ rfl rfl rfl (fun h14 => ?_) (fun h14 => ?_)
      · refine En_Ps 1 (pc' := 28) (lv' := [(0, .ref 159), (1, .int a)]) (st' := [.int ((Int32.ofInt 0))]) rfl ?_
        refine En_top (by decide : (Int32.ofInt 0).toInt = 0) (fun z15 h16 => ?_)
        exact En_ret (v := some (.int z15)) rfl rfl (retZ rfl rfl (by omega) (by omega)) ⟨hσ0, hF0, z15, rfl, ⟨by omega, by omega, fun _ => by omega, fun _ => by omega⟩⟩
      · refine En_Ps 2 (pc' := 28) (lv' := [(0, .ref 159), (1, .int a)]) (st' := [.int ((Int32.ofInt 1))]) rfl ?_
        refine En_top (by decide : (Int32.ofInt 1).toInt = 1) (fun z17 h18 => ?_)
        exact En_ret (v := some (.int z17)) rfl rfl (retZ rfl rfl (by omega) (by omega)) ⟨hσ0, hF0, z17, rfl, ⟨by omega, by omega, fun _ => by omega, fun _ => by omega⟩⟩
/-- DoorSchoolModel.told(Ljava/lang/String;II)I -/
abbrev P_323s13x (σ0 : SG) (By : Int → Int) (Nb : Int) (Sp : PS) (b : Int32) (c : Int32) (f : Int32) (k : Int32) : PO := fun v σ => WT σ ∧ Fr [(35, 8), (35, 9), (35, 10), (35, 11), (35, 12), (35, 13)] σ0 σ ∧ ∃ f1 : Int32, (σ 159)[8]? = some (.int f1) ∧ ∃ k1 : Int32, (σ 159)[12]? = some (.int k1) ∧ ∃ ret : Int32, v = some (.int ret) ∧ -ret.toInt ≤ 0 ∧ ret.toInt - 50 ≤ 0 ∧ -f1.toInt ≤ 0 ∧ f1.toInt - 1600 ≤ 0 ∧ -f1.toInt + f.toInt ≤ 0 ∧ f1.toInt - f.toInt - 1600 ≤ 0 ∧ -f1.toInt + k.toInt - 3 ≤ 0 ∧ f1.toInt - k.toInt - 1600 ≤ 0 ∧ -k1.toInt ≤ 0 ∧ k1.toInt - 3 ≤ 0 ∧ -k1.toInt + f.toInt - 1600 ≤ 0 ∧ k1.toInt - f.toInt - 3 ≤ 0 ∧ -k1.toInt + k.toInt ≤ 0 ∧ k1.toInt - k.toInt - 3 ≤ 0 ∧ f.toInt - f1.toInt ≤ 0 ∧ Imp (b.toInt ≤ 0) (b.toInt - ret.toInt ≤ 0) ∧ Imp (-b.toInt ≤ 0) (-ret.toInt ≤ 0) ∧ Imp (-c.toInt ≤ 0) (ret.toInt - c.toInt ≤ 0) ∧ Imp (c.toInt ≤ 0) (ret.toInt ≤ 0) ∧ Imp (k1.toInt ≤ 0) (k.toInt ≤ 0 ∧ b.toInt - ret.toInt ≤ 0 ∧ ret.toInt - c.toInt ≤ 0) ∧ (ML By Nb σ (tN By Nb b.toInt c.toInt (pss By Nb (iW By Nb 13 Sp) Sp)) ∧ ((tN By Nb b.toInt c.toInt (pss By Nb (iW By Nb 13 Sp) Sp)).1 = 0 → ret.toInt = tV By Nb (pss By Nb (iW By Nb 13 Sp) Sp).2.2.1))
set_option maxRecDepth 10000 in
set_option maxHeartbeats 4000000 in
theorem c_323s13x {By : Int → Int} {Nb : Int} {Sp : PS} (σ0 : SG) (hσ0 : WT σ0) (b : Int32) (c : Int32) (hl_b : 0 ≤ b.toInt) (hu_b : b.toInt ≤ 100) (hl_c : (-1) ≤ c.toInt) (hu_c : c.toInt ≤ 50) (f : Int32) (h_f : (σ0 159)[8]? = some (.int f)) (k : Int32) (h_k : (σ0 159)[12]? = some (.int k)) (hM : ML By Nb σ0 Sp) : En 7 156 none mr_323 (P_323s13x σ0 By Nb Sp b c f k) 0 [(0, .ref 159), (1, .retAddr 27), (2, .int b), (3, .int c)] [] σ0 := by
  obtain ⟨hl_f, hu_f⟩ := WT_int hσ0 (g := 35) (by decide +kernel) (by decide +kernel) (l := 0) (u := 1600) (by decide +kernel) h_f
  obtain ⟨hl_k, hu_k⟩ := WT_int hσ0 (g := 35) (by decide +kernel) (by decide +kernel) (l := 0) (u := 3) (by decide +kernel) h_k
  have hF0 : Fr [(35, 8), (35, 9), (35, 10), (35, 11), (35, 12), (35, 13)] σ0 σ0 := Fr_rfl
  have h1 := ML_k hM h_k
  refine En_Ps 2 (pc' := 2) (lv' := [(0, .ref 159), (1, .retAddr 27), (2, .int b), (3, .int c)]) (st' := [.retAddr 27, .ref 159]) rfl ?_
  refine En_callV rfl rfl rfl rfl rfl rfl rfl rfl (by decide +kernel : TG 159 = 35) (by decide +kernel) rfl (c_286s13x σ0 hσ0 f h_f k h_k hM) (by decide) (by decide) (fun v3 σ4 h2 => ?_)
  obtain ⟨h5, h6, z8, h9, z10, h11, rfl, h7⟩ := h2
  have h12 := h7.2.2.2.2.2.2.2.2.2.2.2.2.2.2
  have h13 := Fr_trans hF0 h6 (by decide +kernel)
  obtain ⟨S14, h15⟩ : ∃ q : PS, q = pss By Nb (iW By Nb 13 Sp) Sp := ⟨_, rfl⟩
  have h16 : ML By Nb σ4 S14 := by rw [h15]; exact h12
  have h17 := ML_k h16 h11
  refine En_Ps 3 (pc' := 8) (lv' := [(0, .ref 159), (1, .retAddr 27), (2, .int b), (3, .int c)]) (st' := [.int c, .int b, .ref 159]) rfl ?_
  obtain ⟨z19, h18, h20, h21⟩ := WT_peekI h5 (by decide +kernel : TG 159 = 35) (by decide +kernel : FT 35 10 = (0, 0, 4)) (by decide +kernel)
  obtain ⟨z23, h22, h24, h25⟩ := WT_peekI h5 (by decide +kernel : TG 159 = 35) (by decide +kernel : FT 35 11 = (0, 0, 99999)) (by decide +kernel)
  refine En_callV rfl rfl rfl rfl rfl rfl rfl rfl (by decide +kernel : TG 159 = 35) (by decide +kernel) rfl (c_288x σ4 h5 b c (geI rfl (by omega)) (leI rfl (by omega)) (geI rfl (by omega)) (leI rfl (by omega)) z8 h9 z10 h11 z19 h18 z23 h22 h16) (by decide) (by decide) (fun v27 σ28 h26 => ?_)
  obtain ⟨h29, h30, z32, h33, z34, h35, z36, rfl, h31⟩ := h26
  have h37 := h31.2.2.2.2.2.2.2.2.2.2.2.2.2.2.2.2.2.2.2.2.2.2.2.2.2.2.2.2
  have h38 := Fr_trans h13 h30 (by decide +kernel)
  have h39 : tN By Nb b.toInt c.toInt S14 = tN By Nb (b.toInt) (c.toInt) S14 := tN_cg2 (fun zz => by omega) (fun zz => by omega)
  obtain ⟨S40, h41⟩ : ∃ q : PS, q = tN By Nb (b.toInt) (c.toInt) S14 := ⟨_, rfl⟩
  have h42 : ML By Nb σ28 S40 := by rw [h41]; exact (ML_eq h37.1 h39)
  have h43 := ML_k h42 h35
  have h44 : Imp (S40.1 = 0) (z36.toInt = tV By Nb S14.2.2.1) := fun z => h37.2 (by rw [h39, ← h41]; exact z)
  have h45 : Imp (S40.1 = 0) (S14.1 = 0 ∧ tK By Nb S14.2.2.1 = 2 ∧ b.toInt ≤ tV By Nb S14.2.2.1 ∧ tV By Nb S14.2.2.1 ≤ c.toInt) := fun z => tN_gg (by rw [← h41]; exact z)
  have h46 : S40.2.2.2 = S14.2.2.2 := by rw [h41]; exact tN_w
  have h47 := Imp_m h31.2.2.2.2.2.2.2.2.2.2.2.2.2.2.2.2.2.2.2.2.2.2.2.2.1 (by omega)
  exact En_ret (v := some (.int z36)) rfl rfl rfl ⟨h29, h38, z32, h33, z34, h35, z36, rfl, ⟨by omega, by omega, by omega, by omega, by omega, by omega, by omega, by omega, by omega, by omega, by omega, by omega, by omega, by omega, by omega, fun _ => by omega, fun _ => by omega, fun _ => by have := Imp_m h31.2.2.2.2.2.2.2.2.2.2.2.2.2.2.2.2.2.2.2.2.2.2.2.2.2.1 (by omega); omega, fun _ => by have := Imp_m h31.2.2.2.2.2.2.2.2.2.2.2.2.2.2.2.2.2.2.2.2.2.2.2.2.2.2.1 (by omega); omega, fun _ => by have := Imp_m h7.2.2.2.2.2.2.2.2.2.2.2.2.2.1 (by omega); have := Imp_m h31.2.2.2.2.2.2.2.2.2.2.2.2.2.2.2.2.2.2.2.2.2.2.2.2.2.2.2.1 (by omega); have := Imp_m h31.2.2.2.2.2.2.2.2.2.2.2.2.2.2.2.2.2.2.2.2.2.2.2.2.2.1 (by omega); omega, (by subst h41; subst h15; exact ⟨h42, fun zz => by (try have i0 := Imp_m h45 (by omega)); (try have i1 := Imp_m h44 (by omega)); omega⟩)⟩⟩
/-- DoorSchoolModel.told(Ljava/lang/String;II)I -/
abbrev P_323s14x (σ0 : SG) (By : Int → Int) (Nb : Int) (Sp : PS) (b : Int32) (c : Int32) (f : Int32) (k : Int32) : PO := fun v σ => WT σ ∧ Fr [(35, 8), (35, 9), (35, 10), (35, 11), (35, 12), (35, 13)] σ0 σ ∧ ∃ f1 : Int32, (σ 159)[8]? = some (.int f1) ∧ ∃ k1 : Int32, (σ 159)[12]? = some (.int k1) ∧ ∃ ret : Int32, v = some (.int ret) ∧ -ret.toInt ≤ 0 ∧ ret.toInt - 50 ≤ 0 ∧ -f1.toInt ≤ 0 ∧ f1.toInt - 1600 ≤ 0 ∧ -f1.toInt + f.toInt ≤ 0 ∧ f1.toInt - f.toInt - 1600 ≤ 0 ∧ -f1.toInt + k.toInt - 3 ≤ 0 ∧ f1.toInt - k.toInt - 1600 ≤ 0 ∧ -k1.toInt ≤ 0 ∧ k1.toInt - 3 ≤ 0 ∧ -k1.toInt + f.toInt - 1600 ≤ 0 ∧ k1.toInt - f.toInt - 3 ≤ 0 ∧ -k1.toInt + k.toInt ≤ 0 ∧ k1.toInt - k.toInt - 3 ≤ 0 ∧ f.toInt - f1.toInt ≤ 0 ∧ Imp (b.toInt ≤ 0) (b.toInt - ret.toInt ≤ 0) ∧ Imp (-b.toInt ≤ 0) (-ret.toInt ≤ 0) ∧ Imp (-c.toInt ≤ 0) (ret.toInt - c.toInt ≤ 0) ∧ Imp (c.toInt ≤ 0) (ret.toInt ≤ 0) ∧ Imp (k1.toInt ≤ 0) (k.toInt ≤ 0 ∧ b.toInt - ret.toInt ≤ 0 ∧ ret.toInt - c.toInt ≤ 0) ∧ (ML By Nb σ (tN By Nb b.toInt c.toInt (pss By Nb (iW By Nb 14 Sp) Sp)) ∧ ((tN By Nb b.toInt c.toInt (pss By Nb (iW By Nb 14 Sp) Sp)).1 = 0 → ret.toInt = tV By Nb (pss By Nb (iW By Nb 14 Sp) Sp).2.2.1))
set_option maxRecDepth 10000 in
set_option maxHeartbeats 4000000 in
theorem c_323s14x {By : Int → Int} {Nb : Int} {Sp : PS} (σ0 : SG) (hσ0 : WT σ0) (b : Int32) (c : Int32) (hl_b : 0 ≤ b.toInt) (hu_b : b.toInt ≤ 100) (hl_c : (-1) ≤ c.toInt) (hu_c : c.toInt ≤ 50) (f : Int32) (h_f : (σ0 159)[8]? = some (.int f)) (k : Int32) (h_k : (σ0 159)[12]? = some (.int k)) (hM : ML By Nb σ0 Sp) : En 7 156 none mr_323 (P_323s14x σ0 By Nb Sp b c f k) 0 [(0, .ref 159), (1, .retAddr 29), (2, .int b), (3, .int c)] [] σ0 := by
  obtain ⟨hl_f, hu_f⟩ := WT_int hσ0 (g := 35) (by decide +kernel) (by decide +kernel) (l := 0) (u := 1600) (by decide +kernel) h_f
  obtain ⟨hl_k, hu_k⟩ := WT_int hσ0 (g := 35) (by decide +kernel) (by decide +kernel) (l := 0) (u := 3) (by decide +kernel) h_k
  have hF0 : Fr [(35, 8), (35, 9), (35, 10), (35, 11), (35, 12), (35, 13)] σ0 σ0 := Fr_rfl
  have h1 := ML_k hM h_k
  refine En_Ps 2 (pc' := 2) (lv' := [(0, .ref 159), (1, .retAddr 29), (2, .int b), (3, .int c)]) (st' := [.retAddr 29, .ref 159]) rfl ?_
  refine En_callV rfl rfl rfl rfl rfl rfl rfl rfl (by decide +kernel : TG 159 = 35) (by decide +kernel) rfl (c_286s14x σ0 hσ0 f h_f k h_k hM) (by decide) (by decide) (fun v3 σ4 h2 => ?_)
  obtain ⟨h5, h6, z8, h9, z10, h11, rfl, h7⟩ := h2
  have h12 := h7.2.2.2.2.2.2.2.2.2.2.2.2.2.2
  have h13 := Fr_trans hF0 h6 (by decide +kernel)
  obtain ⟨S14, h15⟩ : ∃ q : PS, q = pss By Nb (iW By Nb 14 Sp) Sp := ⟨_, rfl⟩
  have h16 : ML By Nb σ4 S14 := by rw [h15]; exact h12
  have h17 := ML_k h16 h11
  refine En_Ps 3 (pc' := 8) (lv' := [(0, .ref 159), (1, .retAddr 29), (2, .int b), (3, .int c)]) (st' := [.int c, .int b, .ref 159]) rfl ?_
  obtain ⟨z19, h18, h20, h21⟩ := WT_peekI h5 (by decide +kernel : TG 159 = 35) (by decide +kernel : FT 35 10 = (0, 0, 4)) (by decide +kernel)
  obtain ⟨z23, h22, h24, h25⟩ := WT_peekI h5 (by decide +kernel : TG 159 = 35) (by decide +kernel : FT 35 11 = (0, 0, 99999)) (by decide +kernel)
  refine En_callV rfl rfl rfl rfl rfl rfl rfl rfl (by decide +kernel : TG 159 = 35) (by decide +kernel) rfl (c_288x σ4 h5 b c (geI rfl (by omega)) (leI rfl (by omega)) (geI rfl (by omega)) (leI rfl (by omega)) z8 h9 z10 h11 z19 h18 z23 h22 h16) (by decide) (by decide) (fun v27 σ28 h26 => ?_)
  obtain ⟨h29, h30, z32, h33, z34, h35, z36, rfl, h31⟩ := h26
  have h37 := h31.2.2.2.2.2.2.2.2.2.2.2.2.2.2.2.2.2.2.2.2.2.2.2.2.2.2.2.2
  have h38 := Fr_trans h13 h30 (by decide +kernel)
  have h39 : tN By Nb b.toInt c.toInt S14 = tN By Nb (b.toInt) (c.toInt) S14 := tN_cg2 (fun zz => by omega) (fun zz => by omega)
  obtain ⟨S40, h41⟩ : ∃ q : PS, q = tN By Nb (b.toInt) (c.toInt) S14 := ⟨_, rfl⟩
  have h42 : ML By Nb σ28 S40 := by rw [h41]; exact (ML_eq h37.1 h39)
  have h43 := ML_k h42 h35
  have h44 : Imp (S40.1 = 0) (z36.toInt = tV By Nb S14.2.2.1) := fun z => h37.2 (by rw [h39, ← h41]; exact z)
  have h45 : Imp (S40.1 = 0) (S14.1 = 0 ∧ tK By Nb S14.2.2.1 = 2 ∧ b.toInt ≤ tV By Nb S14.2.2.1 ∧ tV By Nb S14.2.2.1 ≤ c.toInt) := fun z => tN_gg (by rw [← h41]; exact z)
  have h46 : S40.2.2.2 = S14.2.2.2 := by rw [h41]; exact tN_w
  have h47 := Imp_m h31.2.2.2.2.2.2.2.2.2.2.2.2.2.2.2.2.2.2.2.2.2.2.2.2.1 (by omega)
  exact En_ret (v := some (.int z36)) rfl rfl rfl ⟨h29, h38, z32, h33, z34, h35, z36, rfl, ⟨by omega, by omega, by omega, by omega, by omega, by omega, by omega, by omega, by omega, by omega, by omega, by omega, by omega, by omega, by omega, fun _ => by omega, fun _ => by omega, fun _ => by have := Imp_m h31.2.2.2.2.2.2.2.2.2.2.2.2.2.2.2.2.2.2.2.2.2.2.2.2.2.1 (by omega); omega, fun _ => by have := Imp_m h31.2.2.2.2.2.2.2.2.2.2.2.2.2.2.2.2.2.2.2.2.2.2.2.2.2.2.1 (by omega); omega, fun _ => by have := Imp_m h7.2.2.2.2.2.2.2.2.2.2.2.2.2.1 (by omega); have := Imp_m h31.2.2.2.2.2.2.2.2.2.2.2.2.2.2.2.2.2.2.2.2.2.2.2.2.2.2.2.1 (by omega); have := Imp_m h31.2.2.2.2.2.2.2.2.2.2.2.2.2.2.2.2.2.2.2.2.2.2.2.2.2.1 (by omega); omega, (by subst h41; subst h15; exact ⟨h42, fun zz => by (try have i0 := Imp_m h45 (by omega)); (try have i1 := Imp_m h44 (by omega)); omega⟩)⟩⟩
/-- DoorSchoolModel.told(Ljava/lang/String;II)I -/
abbrev P_323s15x (σ0 : SG) (By : Int → Int) (Nb : Int) (Sp : PS) (b : Int32) (c : Int32) (f : Int32) (k : Int32) : PO := fun v σ => WT σ ∧ Fr [(35, 8), (35, 9), (35, 10), (35, 11), (35, 12), (35, 13)] σ0 σ ∧ ∃ f1 : Int32, (σ 159)[8]? = some (.int f1) ∧ ∃ k1 : Int32, (σ 159)[12]? = some (.int k1) ∧ ∃ ret : Int32, v = some (.int ret) ∧ -ret.toInt ≤ 0 ∧ ret.toInt - 50 ≤ 0 ∧ -f1.toInt ≤ 0 ∧ f1.toInt - 1600 ≤ 0 ∧ -f1.toInt + f.toInt ≤ 0 ∧ f1.toInt - f.toInt - 1600 ≤ 0 ∧ -f1.toInt + k.toInt - 3 ≤ 0 ∧ f1.toInt - k.toInt - 1600 ≤ 0 ∧ -k1.toInt ≤ 0 ∧ k1.toInt - 3 ≤ 0 ∧ -k1.toInt + f.toInt - 1600 ≤ 0 ∧ k1.toInt - f.toInt - 3 ≤ 0 ∧ -k1.toInt + k.toInt ≤ 0 ∧ k1.toInt - k.toInt - 3 ≤ 0 ∧ f.toInt - f1.toInt ≤ 0 ∧ Imp (b.toInt ≤ 0) (b.toInt - ret.toInt ≤ 0) ∧ Imp (-b.toInt ≤ 0) (-ret.toInt ≤ 0) ∧ Imp (-c.toInt ≤ 0) (ret.toInt - c.toInt ≤ 0) ∧ Imp (c.toInt ≤ 0) (ret.toInt ≤ 0) ∧ Imp (k1.toInt ≤ 0) (k.toInt ≤ 0 ∧ b.toInt - ret.toInt ≤ 0 ∧ ret.toInt - c.toInt ≤ 0) ∧ (ML By Nb σ (tN By Nb b.toInt c.toInt (pss By Nb (iW By Nb 15 Sp) Sp)) ∧ ((tN By Nb b.toInt c.toInt (pss By Nb (iW By Nb 15 Sp) Sp)).1 = 0 → ret.toInt = tV By Nb (pss By Nb (iW By Nb 15 Sp) Sp).2.2.1))
set_option maxRecDepth 10000 in
set_option maxHeartbeats 4000000 in
theorem c_323s15x {By : Int → Int} {Nb : Int} {Sp : PS} (σ0 : SG) (hσ0 : WT σ0) (b : Int32) (c : Int32) (hl_b : 0 ≤ b.toInt) (hu_b : b.toInt ≤ 100) (hl_c : (-1) ≤ c.toInt) (hu_c : c.toInt ≤ 50) (f : Int32) (h_f : (σ0 159)[8]? = some (.int f)) (k : Int32) (h_k : (σ0 159)[12]? = some (.int k)) (hM : ML By Nb σ0 Sp) : En 7 156 none mr_323 (P_323s15x σ0 By Nb Sp b c f k) 0 [(0, .ref 159), (1, .retAddr 31), (2, .int b), (3, .int c)] [] σ0 := by
  obtain ⟨hl_f, hu_f⟩ := WT_int hσ0 (g := 35) (by decide +kernel) (by decide +kernel) (l := 0) (u := 1600) (by decide +kernel) h_f
  obtain ⟨hl_k, hu_k⟩ := WT_int hσ0 (g := 35) (by decide +kernel) (by decide +kernel) (l := 0) (u := 3) (by decide +kernel) h_k
  have hF0 : Fr [(35, 8), (35, 9), (35, 10), (35, 11), (35, 12), (35, 13)] σ0 σ0 := Fr_rfl
  have h1 := ML_k hM h_k
  refine En_Ps 2 (pc' := 2) (lv' := [(0, .ref 159), (1, .retAddr 31), (2, .int b), (3, .int c)]) (st' := [.retAddr 31, .ref 159]) rfl ?_
  refine En_callV rfl rfl rfl rfl rfl rfl rfl rfl (by decide +kernel : TG 159 = 35) (by decide +kernel) rfl (c_286s15x σ0 hσ0 f h_f k h_k hM) (by decide) (by decide) (fun v3 σ4 h2 => ?_)
  obtain ⟨h5, h6, z8, h9, z10, h11, rfl, h7⟩ := h2
  have h12 := h7.2.2.2.2.2.2.2.2.2.2.2.2.2.2
  have h13 := Fr_trans hF0 h6 (by decide +kernel)
  obtain ⟨S14, h15⟩ : ∃ q : PS, q = pss By Nb (iW By Nb 15 Sp) Sp := ⟨_, rfl⟩
  have h16 : ML By Nb σ4 S14 := by rw [h15]; exact h12
  have h17 := ML_k h16 h11
  refine En_Ps 3 (pc' := 8) (lv' := [(0, .ref 159), (1, .retAddr 31), (2, .int b), (3, .int c)]) (st' := [.int c, .int b, .ref 159]) rfl ?_
  obtain ⟨z19, h18, h20, h21⟩ := WT_peekI h5 (by decide +kernel : TG 159 = 35) (by decide +kernel : FT 35 10 = (0, 0, 4)) (by decide +kernel)
  obtain ⟨z23, h22, h24, h25⟩ := WT_peekI h5 (by decide +kernel : TG 159 = 35) (by decide +kernel : FT 35 11 = (0, 0, 99999)) (by decide +kernel)
  refine En_callV rfl rfl rfl rfl rfl rfl rfl rfl (by decide +kernel : TG 159 = 35) (by decide +kernel) rfl (c_288x σ4 h5 b c (geI rfl (by omega)) (leI rfl (by omega)) (geI rfl (by omega)) (leI rfl (by omega)) z8 h9 z10 h11 z19 h18 z23 h22 h16) (by decide) (by decide) (fun v27 σ28 h26 => ?_)
  obtain ⟨h29, h30, z32, h33, z34, h35, z36, rfl, h31⟩ := h26
  have h37 := h31.2.2.2.2.2.2.2.2.2.2.2.2.2.2.2.2.2.2.2.2.2.2.2.2.2.2.2.2
  have h38 := Fr_trans h13 h30 (by decide +kernel)
  have h39 : tN By Nb b.toInt c.toInt S14 = tN By Nb (b.toInt) (c.toInt) S14 := tN_cg2 (fun zz => by omega) (fun zz => by omega)
  obtain ⟨S40, h41⟩ : ∃ q : PS, q = tN By Nb (b.toInt) (c.toInt) S14 := ⟨_, rfl⟩
  have h42 : ML By Nb σ28 S40 := by rw [h41]; exact (ML_eq h37.1 h39)
  have h43 := ML_k h42 h35
  have h44 : Imp (S40.1 = 0) (z36.toInt = tV By Nb S14.2.2.1) := fun z => h37.2 (by rw [h39, ← h41]; exact z)
  have h45 : Imp (S40.1 = 0) (S14.1 = 0 ∧ tK By Nb S14.2.2.1 = 2 ∧ b.toInt ≤ tV By Nb S14.2.2.1 ∧ tV By Nb S14.2.2.1 ≤ c.toInt) := fun z => tN_gg (by rw [← h41]; exact z)
  have h46 : S40.2.2.2 = S14.2.2.2 := by rw [h41]; exact tN_w
  have h47 := Imp_m h31.2.2.2.2.2.2.2.2.2.2.2.2.2.2.2.2.2.2.2.2.2.2.2.2.1 (by omega)
  exact En_ret (v := some (.int z36)) rfl rfl rfl ⟨h29, h38, z32, h33, z34, h35, z36, rfl, ⟨by omega, by omega, by omega, by omega, by omega, by omega, by omega, by omega, by omega, by omega, by omega, by omega, by omega, by omega, by omega, fun _ => by omega, fun _ => by omega, fun _ => by have := Imp_m h31.2.2.2.2.2.2.2.2.2.2.2.2.2.2.2.2.2.2.2.2.2.2.2.2.2.1 (by omega); omega, fun _ => by have := Imp_m h31.2.2.2.2.2.2.2.2.2.2.2.2.2.2.2.2.2.2.2.2.2.2.2.2.2.2.1 (by omega); omega, fun _ => by have := Imp_m h7.2.2.2.2.2.2.2.2.2.2.2.2.2.1 (by omega); have := Imp_m h31.2.2.2.2.2.2.2.2.2.2.2.2.2.2.2.2.2.2.2.2.2.2.2.2.2.2.2.1 (by omega); have := Imp_m h31.2.2.2.2.2.2.2.2.2.2.2.2.2.2.2.2.2.2.2.2.2.2.2.2.2.1 (by omega); omega, (by subst h41; subst h15; exact ⟨h42, fun zz => by (try have i0 := Imp_m h45 (by omega)); (try have i1 := Imp_m h44 (by omega)); omega⟩)⟩⟩
/-- DoorSchoolModel.told(Ljava/lang/String;II)I -/
abbrev P_323s16x (σ0 : SG) (By : Int → Int) (Nb : Int) (Sp : PS) (b : Int32) (c : Int32) (f : Int32) (k : Int32) : PO := fun v σ => WT σ ∧ Fr [(35, 8), (35, 9), (35, 10), (35, 11), (35, 12), (35, 13)] σ0 σ ∧ ∃ f1 : Int32, (σ 159)[8]? = some (.int f1) ∧ ∃ k1 : Int32, (σ 159)[12]? = some (.int k1) ∧ ∃ ret : Int32, v = some (.int ret) ∧ -ret.toInt ≤ 0 ∧ ret.toInt - 50 ≤ 0 ∧ -f1.toInt ≤ 0 ∧ f1.toInt - 1600 ≤ 0 ∧ -f1.toInt + f.toInt ≤ 0 ∧ f1.toInt - f.toInt - 1600 ≤ 0 ∧ -f1.toInt + k.toInt - 3 ≤ 0 ∧ f1.toInt - k.toInt - 1600 ≤ 0 ∧ -k1.toInt ≤ 0 ∧ k1.toInt - 3 ≤ 0 ∧ -k1.toInt + f.toInt - 1600 ≤ 0 ∧ k1.toInt - f.toInt - 3 ≤ 0 ∧ -k1.toInt + k.toInt ≤ 0 ∧ k1.toInt - k.toInt - 3 ≤ 0 ∧ f.toInt - f1.toInt ≤ 0 ∧ Imp (b.toInt ≤ 0) (b.toInt - ret.toInt ≤ 0) ∧ Imp (-b.toInt ≤ 0) (-ret.toInt ≤ 0) ∧ Imp (-c.toInt ≤ 0) (ret.toInt - c.toInt ≤ 0) ∧ Imp (c.toInt ≤ 0) (ret.toInt ≤ 0) ∧ Imp (k1.toInt ≤ 0) (k.toInt ≤ 0 ∧ b.toInt - ret.toInt ≤ 0 ∧ ret.toInt - c.toInt ≤ 0) ∧ (ML By Nb σ (tN By Nb b.toInt c.toInt (pss By Nb (iW By Nb 16 Sp) Sp)) ∧ ((tN By Nb b.toInt c.toInt (pss By Nb (iW By Nb 16 Sp) Sp)).1 = 0 → ret.toInt = tV By Nb (pss By Nb (iW By Nb 16 Sp) Sp).2.2.1))
set_option maxRecDepth 10000 in
set_option maxHeartbeats 4000000 in
theorem c_323s16x {By : Int → Int} {Nb : Int} {Sp : PS} (σ0 : SG) (hσ0 : WT σ0) (b : Int32) (c : Int32) (hl_b : 0 ≤ b.toInt) (hu_b : b.toInt ≤ 100) (hl_c : (-1) ≤ c.toInt) (hu_c : c.toInt ≤ 50) (f : Int32) (h_f : (σ0 159)[8]? = some (.int f)) (k : Int32) (h_k : (σ0 159)[12]? = some (.int k)) (hM : ML By Nb σ0 Sp) : En 7 156 none mr_323 (P_323s16x σ0 By Nb Sp b c f k) 0 [(0, .ref 159), (1, .retAddr 33), (2, .int b), (3, .int c)] [] σ0 := by
  obtain ⟨hl_f, hu_f⟩ := WT_int hσ0 (g := 35) (by decide +kernel) (by decide +kernel) (l := 0) (u := 1600) (by decide +kernel) h_f
  obtain ⟨hl_k, hu_k⟩ := WT_int hσ0 (g := 35) (by decide +kernel) (by decide +kernel) (l := 0) (u := 3) (by decide +kernel) h_k
  have hF0 : Fr [(35, 8), (35, 9), (35, 10), (35, 11), (35, 12), (35, 13)] σ0 σ0 := Fr_rfl
  have h1 := ML_k hM h_k
  refine En_Ps 2 (pc' := 2) (lv' := [(0, .ref 159), (1, .retAddr 33), (2, .int b), (3, .int c)]) (st' := [.retAddr 33, .ref 159]) rfl ?_
  refine En_callV rfl rfl rfl rfl rfl rfl rfl rfl (by decide +kernel : TG 159 = 35) (by decide +kernel) rfl (c_286s16x σ0 hσ0 f h_f k h_k hM) (by decide) (by decide) (fun v3 σ4 h2 => ?_)
  obtain ⟨h5, h6, z8, h9, z10, h11, rfl, h7⟩ := h2
  have h12 := h7.2.2.2.2.2.2.2.2.2.2.2.2.2.2
  have h13 := Fr_trans hF0 h6 (by decide +kernel)
  obtain ⟨S14, h15⟩ : ∃ q : PS, q = pss By Nb (iW By Nb 16 Sp) Sp := ⟨_, rfl⟩
  have h16 : ML By Nb σ4 S14 := by rw [h15]; exact h12
  have h17 := ML_k h16 h11
  refine En_Ps 3 (pc' := 8) (lv' := [(0, .ref 159), (1, .retAddr 33), (2, .int b), (3, .int c)]) (st' := [.int c, .int b, .ref 159]) rfl ?_
  obtain ⟨z19, h18, h20, h21⟩ := WT_peekI h5 (by decide +kernel : TG 159 = 35) (by decide +kernel : FT 35 10 = (0, 0, 4)) (by decide +kernel)
  obtain ⟨z23, h22, h24, h25⟩ := WT_peekI h5 (by decide +kernel : TG 159 = 35) (by decide +kernel : FT 35 11 = (0, 0, 99999)) (by decide +kernel)
  refine En_callV rfl rfl rfl rfl rfl rfl rfl rfl (by decide +kernel : TG 159 = 35) (by decide +kernel) rfl (c_288x σ4 h5 b c (geI rfl (by omega)) (leI rfl (by omega)) (geI rfl (by omega)) (leI rfl (by omega)) z8 h9 z10 h11 z19 h18 z23 h22 h16) (by decide) (by decide) (fun v27 σ28 h26 => ?_)
  obtain ⟨h29, h30, z32, h33, z34, h35, z36, rfl, h31⟩ := h26
  have h37 := h31.2.2.2.2.2.2.2.2.2.2.2.2.2.2.2.2.2.2.2.2.2.2.2.2.2.2.2.2
  have h38 := Fr_trans h13 h30 (by decide +kernel)
  have h39 : tN By Nb b.toInt c.toInt S14 = tN By Nb (b.toInt) (c.toInt) S14 := tN_cg2 (fun zz => by omega) (fun zz => by omega)
  obtain ⟨S40, h41⟩ : ∃ q : PS, q = tN By Nb (b.toInt) (c.toInt) S14 := ⟨_, rfl⟩
  have h42 : ML By Nb σ28 S40 := by rw [h41]; exact (ML_eq h37.1 h39)
  have h43 := ML_k h42 h35
  have h44 : Imp (S40.1 = 0) (z36.toInt = tV By Nb S14.2.2.1) := fun z => h37.2 (by rw [h39, ← h41]; exact z)
  have h45 : Imp (S40.1 = 0) (S14.1 = 0 ∧ tK By Nb S14.2.2.1 = 2 ∧ b.toInt ≤ tV By Nb S14.2.2.1 ∧ tV By Nb S14.2.2.1 ≤ c.toInt) := fun z => tN_gg (by rw [← h41]; exact z)
  have h46 : S40.2.2.2 = S14.2.2.2 := by rw [h41]; exact tN_w
  have h47 := Imp_m h31.2.2.2.2.2.2.2.2.2.2.2.2.2.2.2.2.2.2.2.2.2.2.2.2.1 (by omega)
  exact En_ret (v := some (.int z36)) rfl rfl rfl ⟨h29, h38, z32, h33, z34, h35, z36, rfl, ⟨by omega, by omega, by omega, by omega, by omega, by omega, by omega, by omega, by omega, by omega, by omega, by omega, by omega, by omega, by omega, fun _ => by omega, fun _ => by omega, fun _ => by have := Imp_m h31.2.2.2.2.2.2.2.2.2.2.2.2.2.2.2.2.2.2.2.2.2.2.2.2.2.1 (by omega); omega, fun _ => by have := Imp_m h31.2.2.2.2.2.2.2.2.2.2.2.2.2.2.2.2.2.2.2.2.2.2.2.2.2.2.1 (by omega); omega, fun _ => by have := Imp_m h7.2.2.2.2.2.2.2.2.2.2.2.2.2.1 (by omega); have := Imp_m h31.2.2.2.2.2.2.2.2.2.2.2.2.2.2.2.2.2.2.2.2.2.2.2.2.2.2.2.1 (by omega); have := Imp_m h31.2.2.2.2.2.2.2.2.2.2.2.2.2.2.2.2.2.2.2.2.2.2.2.2.2.1 (by omega); omega, (by subst h41; subst h15; exact ⟨h42, fun zz => by (try have i0 := Imp_m h45 (by omega)); (try have i1 := Imp_m h44 (by omega)); omega⟩)⟩⟩
