/-- DoorSchoolModel.needs(Ljava/lang/String;)V -/
abbrev P_286s12x (σ0 : SG) (By : Int → Int) (Nb : Int) (Sp : PS) (f : Int32) (k : Int32) : PO := fun v σ => WT σ ∧ Fr [(35, 8), (35, 9), (35, 10), (35, 11), (35, 12), (35, 13)] σ0 σ ∧ ∃ f1 : Int32, (σ 159)[8]? = some (.int f1) ∧ ∃ k1 : Int32, (σ 159)[12]? = some (.int k1) ∧ v = none ∧ -f1.toInt ≤ 0 ∧ f1.toInt - 1600 ≤ 0 ∧ -f1.toInt + f.toInt ≤ 0 ∧ f1.toInt - f.toInt - 1600 ≤ 0 ∧ -f1.toInt + k.toInt - 3 ≤ 0 ∧ f1.toInt - k.toInt - 1600 ≤ 0 ∧ -k1.toInt ≤ 0 ∧ k1.toInt - 3 ≤ 0 ∧ -k1.toInt + f.toInt - 1600 ≤ 0 ∧ k1.toInt - f.toInt - 3 ≤ 0 ∧ -k1.toInt + k.toInt ≤ 0 ∧ k1.toInt - k.toInt - 3 ≤ 0 ∧ f.toInt - f1.toInt ≤ 0 ∧ Imp (k1.toInt ≤ 0) (k.toInt ≤ 0) ∧ ML By Nb σ (pss By Nb (iW By Nb 12 Sp) Sp)
set_option maxRecDepth 10000 in
set_option maxHeartbeats 4000000 in
theorem c_286s12x {By : Int → Int} {Nb : Int} {Sp : PS} (σ0 : SG) (hσ0 : WT σ0) (f : Int32) (h_f : (σ0 159)[8]? = some (.int f)) (k : Int32) (h_k : (σ0 159)[12]? = some (.int k)) (hM : ML By Nb σ0 Sp) : En 6 135 none mr_286 (P_286s12x σ0 By Nb Sp f k) 0 [(0, .ref 159), (1, .retAddr 25)] [] σ0 := by
  obtain ⟨hl_f, hu_f⟩ := WT_int hσ0 (g := 35) (by decide +kernel) (by decide +kernel) (l := 0) (u := 1600) (by decide +kernel) h_f
  obtain ⟨hl_k, hu_k⟩ := WT_int hσ0 (g := 35) (by decide +kernel) (by decide +kernel) (l := 0) (u := 3) (by decide +kernel) h_k
  have hF0 : Fr [(35, 8), (35, 9), (35, 10), (35, 11), (35, 12), (35, 13)] σ0 σ0 := Fr_rfl
  have h1 := ML_k hM h_k
  refine En_Ps 2 (pc' := 2) (lv' := [(0, .ref 159), (1, .retAddr 25)]) (st' := [.retAddr 25, .ref 159]) rfl ?_
  refine En_callV rfl rfl rfl rfl rfl rfl rfl rfl (by decide +kernel : TG 159 = 35) (by decide +kernel) rfl (c_318s12x σ0 hσ0 f h_f hM) (by decide) (by decide) (fun v3 σ4 h2 => ?_)
  obtain ⟨h5, h6, z8, h9, z10, rfl, h7⟩ := h2
  have h11 := h7.2.2.2.2.2.2.2
  have h12 := Fr_trans hF0 h6 (by decide +kernel)
  have h13 := h11.2.1
  refine En_iNe _ rfl rfl (fun h14 => ?_) (fun h14 => ?_)
  · have h15 : Sp.1 = 0 := iW_g (i := 12) (B := By) (n := Nb) (by omega)
    obtain ⟨S16, h17⟩ : ∃ q : PS, q = adv By Nb Sp := ⟨_, rfl⟩
    have h18 : ML By Nb σ4 S16 := by rw [h17]; exact h11.2.2 (by omega)
    have h19 := ML_k h18 ((h6 _ _ (inW (by decide +kernel : TG 159 = 35) (by decide +kernel))).trans h_k)
    have h20 : S16.2.2.2 = Sp.2.2.2 := by rw [h17]; exact adv_w
    have h21 : S16.1 = 0 := by rw [h17, adv_1]; exact h15
    exact En_ret (v := none) rfl rfl rfl ⟨h5, h12, z8, h9, k, ((h6 _ _ (inW (by decide +kernel : TG 159 = 35) (by decide +kernel))).trans h_k), rfl, ⟨by omega, by omega, by omega, by omega, by omega, by omega, by omega, by omega, by omega, by omega, by omega, by omega, by omega, fun _ => by omega, ML_eq h18 (by subst h17; unfold pss; first | done | rfl | ((repeat' split) <;> first | rfl | (exfalso; omega) | (exfalso; omega)))⟩⟩
  · obtain rfl : σ0 = σ4 := h11.1 (by omega)
    refine En_Ps 2 (pc' := 10) (lv' := [(0, .ref 159), (1, .retAddr 25)]) (st' := [.int ((Int32.ofInt 1)), .ref 159]) rfl ?_
    have := (by decide : ((Int32.ofInt 1)).toInt = 1)
    refine En_callV rfl rfl rfl rfl rfl rfl rfl rfl (by decide +kernel : TG 159 = 35) (by decide +kernel) rfl (c_223x σ0 hσ0 ((Int32.ofInt 1)) (geI (by decide : (Int32.ofInt 1).toInt = 1) (by omega)) (leI (by decide : (Int32.ofInt 1).toInt = 1) (by omega)) k h_k hM) (by decide) (by decide) (fun v23 σ24 h22 => ?_)
    obtain ⟨h25, h26, z28, h29, rfl, h27⟩ := h22
    have h30 := h27.2.2.2.2.2
    have h31 := Fr_trans hF0 h26 (by decide +kernel)
    obtain ⟨S32, h33⟩ : ∃ q : PS, q = err By Nb 1 Sp := ⟨_, rfl⟩
    have h34 : ML By Nb σ24 S32 := by rw [h33]; exact (ML_eq h30 (err_cg (by omega)))
    have h35 := ML_k h34 h29
    have h36 : S32.2.2.2 = Sp.2.2.2 := by rw [h33]; exact err_w
    exact En_ret (v := none) rfl rfl rfl ⟨h25, h31, f, ((h26 _ _ (inW (by decide +kernel : TG 159 = 35) (by decide +kernel))).trans h_f), z28, h29, rfl, ⟨by omega, by omega, by omega, by omega, by omega, by omega, by omega, by omega, by omega, by omega, by omega, by omega, by omega, fun _ => by omega, ML_eq h34 (by subst h33; unfold pss; first | done | rfl | ((repeat' split) <;> first | rfl | (exfalso; omega) | (exfalso; omega)))⟩⟩
/-- DoorSchoolModel.needs(Ljava/lang/String;)V -/
abbrev P_286s13x (σ0 : SG) (By : Int → Int) (Nb : Int) (Sp : PS) (f : Int32) (k : Int32) : PO := fun v σ => WT σ ∧ Fr [(35, 8), (35, 9), (35, 10), (35, 11), (35, 12), (35, 13)] σ0 σ ∧ ∃ f1 : Int32, (σ 159)[8]? = some (.int f1) ∧ ∃ k1 : Int32, (σ 159)[12]? = some (.int k1) ∧ v = none ∧ -f1.toInt ≤ 0 ∧ f1.toInt - 1600 ≤ 0 ∧ -f1.toInt + f.toInt ≤ 0 ∧ f1.toInt - f.toInt - 1600 ≤ 0 ∧ -f1.toInt + k.toInt - 3 ≤ 0 ∧ f1.toInt - k.toInt - 1600 ≤ 0 ∧ -k1.toInt ≤ 0 ∧ k1.toInt - 3 ≤ 0 ∧ -k1.toInt + f.toInt - 1600 ≤ 0 ∧ k1.toInt - f.toInt - 3 ≤ 0 ∧ -k1.toInt + k.toInt ≤ 0 ∧ k1.toInt - k.toInt - 3 ≤ 0 ∧ f.toInt - f1.toInt ≤ 0 ∧ Imp (k1.toInt ≤ 0) (k.toInt ≤ 0) ∧ ML By Nb σ (pss By Nb (iW By Nb 13 Sp) Sp)
set_option maxRecDepth 10000 in
set_option maxHeartbeats 4000000 in
theorem c_286s13x {By : Int → Int} {Nb : Int} {Sp : PS} (σ0 : SG) (hσ0 : WT σ0) (f : Int32) (h_f : (σ0 159)[8]? = some (.int f)) (k : Int32) (h_k : (σ0 159)[12]? = some (.int k)) (hM : ML By Nb σ0 Sp) : En 6 135 none mr_286 (P_286s13x σ0 By Nb Sp f k) 0 [(0, .ref 159), (1, .retAddr 27)] [] σ0 := by
  obtain ⟨hl_f, hu_f⟩ := WT_int hσ0 (g := 35) (by decide +kernel) (by decide +kernel) (l := 0) (u := 1600) (by decide +kernel) h_f
  obtain ⟨hl_k, hu_k⟩ := WT_int hσ0 (g := 35) (by decide +kernel) (by decide +kernel) (l := 0) (u := 3) (by decide +kernel) h_k
  have hF0 : Fr [(35, 8), (35, 9), (35, 10), (35, 11), (35, 12), (35, 13)] σ0 σ0 := Fr_rfl
  have h1 := ML_k hM h_k
  refine En_Ps 2 (pc' := 2) (lv' := [(0, .ref 159), (1, .retAddr 27)]) (st' := [.retAddr 27, .ref 159]) rfl ?_
  refine En_callV rfl rfl rfl rfl rfl rfl rfl rfl (by decide +kernel : TG 159 = 35) (by decide +kernel) rfl (c_318s13x σ0 hσ0 f h_f hM) (by decide) (by decide) (fun v3 σ4 h2 => ?_)
  obtain ⟨h5, h6, z8, h9, z10, rfl, h7⟩ := h2
  have h11 := h7.2.2.2.2.2.2.2
  have h12 := Fr_trans hF0 h6 (by decide +kernel)
  have h13 := h11.2.1
  refine En_iNe _ rfl rfl (fun h14 => ?_) (fun h14 => ?_)
  · have h15 : Sp.1 = 0 := iW_g (i := 13) (B := By) (n := Nb) (by omega)
    obtain ⟨S16, h17⟩ : ∃ q : PS, q = adv By Nb Sp := ⟨_, rfl⟩
    have h18 : ML By Nb σ4 S16 := by rw [h17]; exact h11.2.2 (by omega)
    have h19 := ML_k h18 ((h6 _ _ (inW (by decide +kernel : TG 159 = 35) (by decide +kernel))).trans h_k)
    have h20 : S16.2.2.2 = Sp.2.2.2 := by rw [h17]; exact adv_w
    have h21 : S16.1 = 0 := by rw [h17, adv_1]; exact h15
    exact En_ret (v := none) rfl rfl rfl ⟨h5, h12, z8, h9, k, ((h6 _ _ (inW (by decide +kernel : TG 159 = 35) (by decide +kernel))).trans h_k), rfl, ⟨by omega, by omega, by omega, by omega, by omega, by omega, by omega, by omega, by omega, by omega, by omega, by omega, by omega, fun _ => by omega, ML_eq h18 (by subst h17; unfold pss; first | done | rfl | ((repeat' split) <;> first | rfl | (exfalso; omega) | (exfalso; omega)))⟩⟩
  · obtain rfl : σ0 = σ4 := h11.1 (by omega)
    refine En_Ps 2 (pc' := 10) (lv' := [(0, .ref 159), (1, .retAddr 27)]) (st' := [.int ((Int32.ofInt 1)), .ref 159]) rfl ?_
    have := (by decide : ((Int32.ofInt 1)).toInt = 1)
    refine En_callV rfl rfl rfl rfl rfl rfl rfl rfl (by decide +kernel : TG 159 = 35) (by decide +kernel) rfl (c_223x σ0 hσ0 ((Int32.ofInt 1)) (geI (by decide : (Int32.ofInt 1).toInt = 1) (by omega)) (leI (by decide : (Int32.ofInt 1).toInt = 1) (by omega)) k h_k hM) (by decide) (by decide) (fun v23 σ24 h22 => ?_)
    obtain ⟨h25, h26, z28, h29, rfl, h27⟩ := h22
    have h30 := h27.2.2.2.2.2
    have h31 := Fr_trans hF0 h26 (by decide +kernel)
    obtain ⟨S32, h33⟩ : ∃ q : PS, q = err By Nb 1 Sp := ⟨_, rfl⟩
    have h34 : ML By Nb σ24 S32 := by rw [h33]; exact (ML_eq h30 (err_cg (by omega)))
    have h35 := ML_k h34 h29
    have h36 : S32.2.2.2 = Sp.2.2.2 := by rw [h33]; exact err_w
    exact En_ret (v := none) rfl rfl rfl ⟨h25, h31, f, ((h26 _ _ (inW (by decide +kernel : TG 159 = 35) (by decide +kernel))).trans h_f), z28, h29, rfl, ⟨by omega, by omega, by omega, by omega, by omega, by omega, by omega, by omega, by omega, by omega, by omega, by omega, by omega, fun _ => by omega, ML_eq h34 (by subst h33; unfold pss; first | done | rfl | ((repeat' split) <;> first | rfl | (exfalso; omega) | (exfalso; omega)))⟩⟩
/-- DoorSchoolModel.needs(Ljava/lang/String;)V -/
abbrev P_286s14x (σ0 : SG) (By : Int → Int) (Nb : Int) (Sp : PS) (f : Int32) (k : Int32) : PO := fun v σ => WT σ ∧ Fr [(35, 8), (35, 9), (35, 10), (35, 11), (35, 12), (35, 13)] σ0 σ ∧ ∃ f1 : Int32, (σ 159)[8]? = some (.int f1) ∧ ∃ k1 : Int32, (σ 159)[12]? = some (.int k1) ∧ v = none ∧ -f1.toInt ≤ 0 ∧ f1.toInt - 1600 ≤ 0 ∧ -f1.toInt + f.toInt ≤ 0 ∧ f1.toInt - f.toInt - 1600 ≤ 0 ∧ -f1.toInt + k.toInt - 3 ≤ 0 ∧ f1.toInt - k.toInt - 1600 ≤ 0 ∧ -k1.toInt ≤ 0 ∧ k1.toInt - 3 ≤ 0 ∧ -k1.toInt + f.toInt - 1600 ≤ 0 ∧ k1.toInt - f.toInt - 3 ≤ 0 ∧ -k1.toInt + k.toInt ≤ 0 ∧ k1.toInt - k.toInt - 3 ≤ 0 ∧ f.toInt - f1.toInt ≤ 0 ∧ Imp (k1.toInt ≤ 0) (k.toInt ≤ 0) ∧ ML By Nb σ (pss By Nb (iW By Nb 14 Sp) Sp)
set_option maxRecDepth 10000 in
set_option maxHeartbeats 4000000 in
theorem c_286s14x {By : Int → Int} {Nb : Int} {Sp : PS} (σ0 : SG) (hσ0 : WT σ0) (f : Int32) (h_f : (σ0 159)[8]? = some (.int f)) (k : Int32) (h_k : (σ0 159)[12]? = some (.int k)) (hM : ML By Nb σ0 Sp) : En 6 135 none mr_286 (P_286s14x σ0 By Nb Sp f k) 0 [(0, .ref 159), (1, .retAddr 29)] [] σ0 := by
  obtain ⟨hl_f, hu_f⟩ := WT_int hσ0 (g := 35) (by decide +kernel) (by decide +kernel) (l := 0) (u := 1600) (by decide +kernel) h_f
  obtain ⟨hl_k, hu_k⟩ := WT_int hσ0 (g := 35) (by decide +kernel) (by decide +kernel) (l := 0) (u := 3) (by decide +kernel) h_k
  have hF0 : Fr [(35, 8), (35, 9), (35, 10), (35, 11), (35, 12), (35, 13)] σ0 σ0 := Fr_rfl
  have h1 := ML_k hM h_k
  refine En_Ps 2 (pc' := 2) (lv' := [(0, .ref 159), (1, .retAddr 29)]) (st' := [.retAddr 29, .ref 159]) rfl ?_
  refine En_callV rfl rfl rfl rfl rfl rfl rfl rfl (by decide +kernel : TG 159 = 35) (by decide +kernel) rfl (c_318s14x σ0 hσ0 f h_f hM) (by decide) (by decide) (fun v3 σ4 h2 => ?_)
  obtain ⟨h5, h6, z8, h9, z10, rfl, h7⟩ := h2
  have h11 := h7.2.2.2.2.2.2.2
  have h12 := Fr_trans hF0 h6 (by decide +kernel)
  have h13 := h11.2.1
  refine En_iNe _ rfl rfl (fun h14 => ?_) (fun h14 => ?_)
  · have h15 : Sp.1 = 0 := iW_g (i := 14) (B := By) (n := Nb) (by omega)
    obtain ⟨S16, h17⟩ : ∃ q : PS, q = adv By Nb Sp := ⟨_, rfl⟩
    have h18 : ML By Nb σ4 S16 := by rw [h17]; exact h11.2.2 (by omega)
    have h19 := ML_k h18 ((h6 _ _ (inW (by decide +kernel : TG 159 = 35) (by decide +kernel))).trans h_k)
    have h20 : S16.2.2.2 = Sp.2.2.2 := by rw [h17]; exact adv_w
    have h21 : S16.1 = 0 := by rw [h17, adv_1]; exact h15
    exact En_ret (v := none) rfl rfl rfl ⟨h5, h12, z8, h9, k, ((h6 _ _ (inW (by decide +kernel : TG 159 = 35) (by decide +kernel))).trans h_k), rfl, ⟨by omega, by omega, by omega, by omega, by omega, by omega, by omega, by omega, by omega, by omega, by omega, by omega, by omega, fun _ => by omega, ML_eq h18 (by subst h17; unfold pss; first | done | rfl | ((repeat' split) <;> first | rfl | (exfalso; omega) | (exfalso; omega)))⟩⟩
  · obtain rfl : σ0 = σ4 := h11.1 (by omega)
    refine En_Ps 2 (pc' := 10) (lv' := [(0, .ref 159), (1, .retAddr 29)]) (st' := [.int ((Int32.ofInt 1)), .ref 159]) rfl ?_
    have := (by decide : ((Int32.ofInt 1)).toInt = 1)
    refine En_callV rfl rfl rfl rfl rfl rfl rfl rfl (by decide +kernel : TG 159 = 35) (by decide +kernel) rfl (c_223x σ0 hσ0 ((Int32.ofInt 1)) (geI (by decide : (Int32.ofInt 1).toInt = 1) (by omega)) (leI (by decide : (Int32.ofInt 1).toInt = 1) (by omega)) k h_k hM) (by decide) (by decide) (fun v23 σ24 h22 => ?_)
    obtain ⟨h25, h26, z28, h29, rfl, h27⟩ := h22
    have h30 := h27.2.2.2.2.2
    have h31 := Fr_trans hF0 h26 (by decide +kernel)
    obtain ⟨S32, h33⟩ : ∃ q : PS, q = err By Nb 1 Sp := ⟨_, rfl⟩
    have h34 : ML By Nb σ24 S32 := by rw [h33]; exact (ML_eq h30 (err_cg (by omega)))
    have h35 := ML_k h34 h29
    have h36 : S32.2.2.2 = Sp.2.2.2 := by rw [h33]; exact err_w
    exact En_ret (v := none) rfl rfl rfl ⟨h25, h31, f, ((h26 _ _ (inW (by decide +kernel : TG 159 = 35) (by decide +kernel))).trans h_f), z28, h29, rfl, ⟨by omega, by omega, by omega, by omega, by omega, by omega, by omega, by omega, by omega, by omega, by omega, by omega, by omega, fun _ => by omega, ML_eq h34 (by subst h33; unfold pss; first | done | rfl | ((repeat' split) <;> first | rfl | (exfalso; omega) | (exfalso; omega)))⟩⟩
/-- DoorSchoolModel.needs(Ljava/lang/String;)V -/
abbrev P_286s15x (σ0 : SG) (By : Int → Int) (Nb : Int) (Sp : PS) (f : Int32) (k : Int32) : PO := fun v σ => WT σ ∧ Fr [(35, 8), (35, 9), (35, 10), (35, 11), (35, 12), (35, 13)] σ0 σ ∧ ∃ f1 : Int32, (σ 159)[8]? = some (.int f1) ∧ ∃ k1 : Int32, (σ 159)[12]? = some (.int k1) ∧ v = none ∧ -f1.toInt ≤ 0 ∧ f1.toInt - 1600 ≤ 0 ∧ -f1.toInt + f.toInt ≤ 0 ∧ f1.toInt - f.toInt - 1600 ≤ 0 ∧ -f1.toInt + k.toInt - 3 ≤ 0 ∧ f1.toInt - k.toInt - 1600 ≤ 0 ∧ -k1.toInt ≤ 0 ∧ k1.toInt - 3 ≤ 0 ∧ -k1.toInt + f.toInt - 1600 ≤ 0 ∧ k1.toInt - f.toInt - 3 ≤ 0 ∧ -k1.toInt + k.toInt ≤ 0 ∧ k1.toInt - k.toInt - 3 ≤ 0 ∧ f.toInt - f1.toInt ≤ 0 ∧ Imp (k1.toInt ≤ 0) (k.toInt ≤ 0) ∧ ML By Nb σ (pss By Nb (iW By Nb 15 Sp) Sp)
set_option maxRecDepth 10000 in
set_option maxHeartbeats 4000000 in
theorem c_286s15x {By : Int → Int} {Nb : Int} {Sp : PS} (σ0 : SG) (hσ0 : WT σ0) (f : Int32) (h_f : (σ0 159)[8]? = some (.int f)) (k : Int32) (h_k : (σ0 159)[12]? = some (.int k)) (hM : ML By Nb σ0 Sp) : En 6 135 none mr_286 (P_286s15x σ0 By Nb Sp f k) 0 [(0, .ref 159), (1, .retAddr 31)] [] σ0 := by
  obtain ⟨hl_f, hu_f⟩ := WT_int hσ0 (g := 35) (by decide +kernel) (by decide +kernel) (l := 0) (u := 1600) (by decide +kernel) h_f
  obtain ⟨hl_k, hu_k⟩ := WT_int hσ0 (g := 35) (by decide +kernel) (by decide +kernel) (l := 0) (u := 3) (by decide +kernel) h_k
  have hF0 : Fr [(35, 8), (35, 9), (35, 10), (35, 11), (35, 12), (35, 13)] σ0 σ0 := Fr_rfl
  have h1 := ML_k hM h_k
  refine En_Ps 2 (pc' := 2) (lv' := [(0, .ref 159), (1, .retAddr 31)]) (st' := [.retAddr 31, .ref 159]) rfl ?_
  refine En_callV rfl rfl rfl rfl rfl rfl rfl rfl (by decide +kernel : TG 159 = 35) (by decide +kernel) rfl (c_318s15x σ0 hσ0 f h_f hM) (by decide) (by decide) (fun v3 σ4 h2 => ?_)
  obtain ⟨h5, h6, z8, h9, z10, rfl, h7⟩ := h2
  have h11 := h7.2.2.2.2.2.2.2
  have h12 := Fr_trans hF0 h6 (by decide +kernel)
  have h13 := h11.2.1
  refine En_iNe _ rfl rfl (fun h14 => ?_) (fun h14 => ?_)
  · have h15 : Sp.1 = 0 := iW_g (i := 15) (B := By) (n := Nb) (by omega)
    obtain ⟨S16, h17⟩ : ∃ q : PS, q = adv By Nb Sp := ⟨_, rfl⟩
    have h18 : ML By Nb σ4 S16 := by rw [h17]; exact h11.2.2 (by omega)
    have h19 := ML_k h18 ((h6 _ _ (inW (by decide +kernel : TG 159 = 35) (by decide +kernel))).trans h_k)
    have h20 : S16.2.2.2 = Sp.2.2.2 := by rw [h17]; exact adv_w
    have h21 : S16.1 = 0 := by rw [h17, adv_1]; exact h15
    exact En_ret (v := none) rfl rfl rfl ⟨h5, h12, z8, h9, k, ((h6 _ _ (inW (by decide +kernel : TG 159 = 35) (by decide +kernel))).trans h_k), rfl, ⟨by omega, by omega, by omega, by omega, by omega, by omega, by omega, by omega, by omega, by omega, by omega, by omega, by omega, fun _ => by omega, ML_eq h18 (by subst h17; unfold pss; first | done | rfl | ((repeat' split) <;> first | rfl | (exfalso; omega) | (exfalso; omega)))⟩⟩
  · obtain rfl : σ0 = σ4 := h11.1 (by omega)
    refine En_Ps 2 (pc' := 10) (lv' := [(0, .ref 159), (1, .retAddr 31)]) (st' := [.int ((Int32.ofInt 1)), .ref 159]) rfl ?_
    have := (by decide : ((Int32.ofInt 1)).toInt = 1)
    refine En_callV rfl rfl rfl rfl rfl rfl rfl rfl (by decide +kernel : TG 159 = 35) (by decide +kernel) rfl (c_223x σ0 hσ0 ((Int32.ofInt 1)) (geI (by decide : (Int32.ofInt 1).toInt = 1) (by omega)) (leI (by decide : (Int32.ofInt 1).toInt = 1) (by omega)) k h_k hM) (by decide) (by decide) (fun v23 σ24 h22 => ?_)
    obtain ⟨h25, h26, z28, h29, rfl, h27⟩ := h22
    have h30 := h27.2.2.2.2.2
    have h31 := Fr_trans hF0 h26 (by decide +kernel)
    obtain ⟨S32, h33⟩ : ∃ q : PS, q = err By Nb 1 Sp := ⟨_, rfl⟩
    have h34 : ML By Nb σ24 S32 := by rw [h33]; exact (ML_eq h30 (err_cg (by omega)))
    have h35 := ML_k h34 h29
    have h36 : S32.2.2.2 = Sp.2.2.2 := by rw [h33]; exact err_w
    exact En_ret (v := none) rfl rfl rfl ⟨h25, h31, f, ((h26 _ _ (inW (by decide +kernel : TG 159 = 35) (by decide +kernel))).trans h_f), z28, h29, rfl, ⟨by omega, by omega, by omega, by omega, by omega, by omega, by omega, by omega, by omega, by omega, by omega, by omega, by omega, fun _ => by omega, ML_eq h34 (by subst h33; unfold pss; first | done | rfl | ((repeat' split) <;> first | rfl | (exfalso; omega) | (exfalso; omega)))⟩⟩
/-- DoorSchoolModel.needs(Ljava/lang/String;)V -/
abbrev P_286s16x (σ0 : SG) (By : Int → Int) (Nb : Int) (Sp : PS) (f : Int32) (k : Int32) : PO := fun v σ => WT σ ∧ Fr [(35, 8), (35, 9), (35, 10), (35, 11), (35, 12), (35, 13)] σ0 σ ∧ ∃ f1 : Int32, (σ 159)[8]? = some (.int f1) ∧ ∃ k1 : Int32, (σ 159)[12]? = some (.int k1) ∧ v = none ∧ -f1.toInt ≤ 0 ∧ f1.toInt - 1600 ≤ 0 ∧ -f1.toInt + f.toInt ≤ 0 ∧ f1.toInt - f.toInt - 1600 ≤ 0 ∧ -f1.toInt + k.toInt - 3 ≤ 0 ∧ f1.toInt - k.toInt - 1600 ≤ 0 ∧ -k1.toInt ≤ 0 ∧ k1.toInt - 3 ≤ 0 ∧ -k1.toInt + f.toInt - 1600 ≤ 0 ∧ k1.toInt - f.toInt - 3 ≤ 0 ∧ -k1.toInt + k.toInt ≤ 0 ∧ k1.toInt - k.toInt - 3 ≤ 0 ∧ f.toInt - f1.toInt ≤ 0 ∧ Imp (k1.toInt ≤ 0) (k.toInt ≤ 0) ∧ ML By Nb σ (pss By Nb (iW By Nb 16 Sp) Sp)
set_option maxRecDepth 10000 in
set_option maxHeartbeats 4000000 in
theorem c_286s16x {By : Int → Int} {Nb : Int} {Sp : PS} (σ0 : SG) (hσ0 : WT σ0) (f : Int32) (h_f : (σ0 159)[8]? = some (.int f)) (k : Int32) (h_k : (σ0 159)[12]? = some (.int k)) (hM : ML By Nb σ0 Sp) : En 6 135 none mr_286 (P_286s16x σ0 By Nb Sp f k) 0 [(0, .ref 159), (1, .retAddr 33)] [] σ0 := by
  obtain ⟨hl_f, hu_f⟩ := WT_int hσ0 (g := 35) (by decide +kernel) (by decide +kernel) (l := 0) (u := 1600) (by decide +kernel) h_f
  obtain ⟨hl_k, hu_k⟩ := WT_int hσ0 (g := 35) (by decide +kernel) (by decide +kernel) (l := 0) (u := 3) (by decide +kernel) h_k
  have hF0 : Fr [(35, 8), (35, 9), (35, 10), (35, 11), (35, 12), (35, 13)] σ0 σ0 := Fr_rfl
  have h1 := ML_k hM h_k
  refine En_Ps 2 (pc' := 2) (lv' := [(0, .ref 159), (1, .retAddr 33)]) (st' := [.retAddr 33, .ref 159]) rfl ?_
  refine En_callV rfl rfl rfl rfl rfl rfl rfl rfl (by decide +kernel : TG 159 = 35) (by decide +kernel) rfl (c_318s16x σ0 hσ0 f h_f hM) (by decide) (by decide) (fun v3 σ4 h2 => ?_)
  obtain ⟨h5, h6, z8, h9, z10, rfl, h7⟩ := h2
  have h11 := h7.2.2.2.2.2.2.2
  have h12 := Fr_trans hF0 h6 (by decide +kernel)
  have h13 := h11.2.1
  refine En_iNe _ rfl rfl (fun h14 => ?_) (fun h14 => ?_)
  · have h15 : Sp.1 = 0 := iW_g (i := 16) (B := By) (n := Nb) (by omega)
    obtain ⟨S16, h17⟩ : ∃ q : PS, q = adv By Nb Sp := ⟨_, rfl⟩
    have h18 : ML By Nb σ4 S16 := by rw [h17]; exact h11.2.2 (by omega)
    have h19 := ML_k h18 ((h6 _ _ (inW (by decide +kernel : TG 159 = 35) (by decide +kernel))).trans h_k)
    have h20 : S16.2.2.2 = Sp.2.2.2 := by rw [h17]; exact adv_w
    have h21 : S16.1 = 0 := by rw [h17, adv_1]; exact h15
    exact En_ret (v := none) rfl rfl rfl ⟨h5, h12, z8, h9, k, ((h6 _ _ (inW (by decide +kernel : TG 159 = 35) (by decide +kernel))).trans h_k), rfl, ⟨by omega, by omega, by omega, by omega, by omega, by omega, by omega, by omega, by omega, by omega, by omega, by omega, by omega, fun _ => by omega, ML_eq h18 (by subst h17; unfold pss; first | done | rfl | ((repeat' split) <;> first | rfl | (exfalso; omega) | (exfalso; omega)))⟩⟩
  · obtain rfl : σ0 = σ4 := h11.1 (by omega)
    refine En_Ps 2 (pc' := 10) (lv' := [(0, .ref 159), (1, .retAddr 33)]) (st' := [.int ((Int32.ofInt 1)), .ref 159]) rfl ?_
    have := (by decide : ((Int32.ofInt 1)).toInt = 1)
    refine En_callV rfl rfl rfl rfl rfl rfl rfl rfl (by decide +kernel : TG 159 = 35) (by decide +kernel) rfl (c_223x σ0 hσ0 ((Int32.ofInt 1)) (geI (by decide : (Int32.ofInt 1).toInt = 1) (by omega)) (leI (by decide : (Int32.ofInt 1).toInt = 1) (by omega)) k h_k hM) (by decide) (by decide) (fun v23 σ24 h22 => ?_)
    obtain ⟨h25, h26, z28, h29, rfl, h27⟩ := h22
    have h30 := h27.2.2.2.2.2
    have h31 := Fr_trans hF0 h26 (by decide +kernel)
    obtain ⟨S32, h33⟩ : ∃ q : PS, q = err By Nb 1 Sp := ⟨_, rfl⟩
    have h34 : ML By Nb σ24 S32 := by rw [h33]; exact (ML_eq h30 (err_cg (by omega)))
    have h35 := ML_k h34 h29
    have h36 : S32.2.2.2 = Sp.2.2.2 := by rw [h33]; exact err_w
    exact En_ret (v := none) rfl rfl rfl ⟨h25, h31, f, ((h26 _ _ (inW (by decide +kernel : TG 159 = 35) (by decide +kernel))).trans h_f), z28, h29, rfl, ⟨by omega, by omega, by omega, by omega, by omega, by omega, by omega, by omega, by omega, by omega, by omega, by omega, by omega, fun _ => by omega, ML_eq h34 (by subst h33; unfold pss; first | done | rfl | ((repeat' split) <;> first | rfl | (exfalso; omega) | (exfalso; omega)))⟩⟩
/-- DoorSchoolModel.deed()I -/
abbrev P_209x (σ0 : SG) (By : Int → Int) (Nb : Int) (Sp : PS) (f : Int32) (k : Int32) : PO := fun v σ => WT σ ∧ Fr [(35, 8), (35, 9), (35, 10), (35, 11), (35, 12), (35, 13)] σ0 σ ∧ ∃ f1 : Int32, (σ 159)[8]? = some (.int f1) ∧ ∃ k1 : Int32, (σ 159)[12]? = some (.int k1) ∧ ∃ ret : Int32, v = some (.int ret) ∧ -ret.toInt ≤ 0 ∧ ret.toInt - 1 ≤ 0 ∧ -f1.toInt ≤ 0 ∧ f1.toInt - 1600 ≤ 0 ∧ -f1.toInt + f.toInt ≤ 0 ∧ f1.toInt - f.toInt - 1600 ≤ 0 ∧ -f1.toInt + k.toInt - 3 ≤ 0 ∧ f1.toInt - k.toInt - 1600 ≤ 0 ∧ -k1.toInt ≤ 0 ∧ k1.toInt - 3 ≤ 0 ∧ -k1.toInt + f.toInt - 1600 ≤ 0 ∧ k1.toInt - f.toInt - 3 ≤ 0 ∧ -k1.toInt + k.toInt ≤ 0 ∧ k1.toInt - k.toInt - 3 ≤ 0 ∧ f.toInt - f1.toInt ≤ 0 ∧ Imp (k1.toInt ≤ 0) (k.toInt ≤ 0) ∧ (ML By Nb σ (gDeed By Nb Sp) ∧ ret.toInt = iW By Nb 8 Sp)
set_option maxRecDepth 10000 in
set_option maxHeartbeats 4000000 in
theorem c_209x {By : Int → Int} {Nb : Int} {Sp : PS} (σ0 : SG) (hσ0 : WT σ0) (f : Int32) (h_f : (σ0 159)[8]? = some (.int f)) (k : Int32) (h_k : (σ0 159)[12]? = some (.int k)) (hM : ML By Nb σ0 Sp) : En 7 156 none mr_209 (P_209x σ0 By Nb Sp f k) 0 [(0, .ref 159)] [] σ0 := by
  obtain ⟨hl_f, hu_f⟩ := WT_int hσ0 (g := 35) (by decide +kernel) (by decide +kernel) (l := 0) (u := 1600) (by decide +kernel) h_f
  obtain ⟨hl_k, hu_k⟩ := WT_int hσ0 (g := 35) (by decide +kernel) (by decide +kernel) (l := 0) (u := 3) (by decide +kernel) h_k
  have hF0 : Fr [(35, 8), (35, 9), (35, 10), (35, 11), (35, 12), (35, 13)] σ0 σ0 := Fr_rfl
  have h1 := ML_k hM h_k
  refine En_Ps 1 (pc' := 1) (lv' := [(0, .ref 159)]) (st' := [.ref 159]) rfl ?_
  refine En_ldcS (i := 8) rfl rfl rfl ?_
  refine En_callV rfl rfl rfl rfl rfl rfl rfl rfl (by decide +kernel : TG 159 = 35) (by decide +kernel) rfl (c_318s8x σ0 hσ0 f h_f hM) (by decide) (by decide) (fun v3 σ4 h2 => ?_)
  obtain ⟨h5, h6, z8, h9, z10, rfl, h7⟩ := h2
  have h11 := h7.2.2.2.2.2.2.2
  have h12 := Fr_trans hF0 h6 (by decide +kernel)
  have h13 := h11.2.1
  refine En_iEq _ rfl rfl (fun h14 => ?_) (fun h14 => ?_)
  · obtain rfl : σ0 = σ4 := h11.1 (by omega)
    refine En_Ps 1 (pc' := 12) (lv' := [(0, .ref 159)]) (st' := [.ref 159]) rfl ?_
    refine En_ldcS (i := 12) rfl rfl rfl ?_
    refine En_callV rfl rfl rfl rfl rfl rfl rfl rfl (by decide +kernel : TG 159 = 35) (by decide +kernel) rfl (c_286s12x σ0 hσ0 f h_f k h_k hM) (by decide) (by decide) (fun v16 σ17 h15 => ?_)
    obtain ⟨h18, h19, z21, h22, z23, h24, rfl, h20⟩ := h15
    have h25 := h20.2.2.2.2.2.2.2.2.2.2.2.2.2.2
    have h26 := Fr_trans hF0 h19 (by decide +kernel)
    obtain ⟨S27, h28⟩ : ∃ q : PS, q = pss By Nb (iW By Nb 12 Sp) Sp := ⟨_, rfl⟩
    have h29 : ML By Nb σ17 S27 := by rw [h28]; exact h25
    have h30 := ML_k h29 h24
    refine En_Ps 1 (pc' := 18) (lv' := [(0, .ref 159)]) (st' := [.int ((Int32.ofInt 0))]) rfl ?_
    refine En_top (by decide : (Int32.ofInt 0).toInt = 0) (fun z31 h32 => ?_)
    exact En_ret (v := some (.int z31)) rfl rfl rfl ⟨h18, h26, z21, h22, z23, h24, z31, rfl, ⟨by omega, by omega, by omega, by omega, by omega, by omega, by omega, by omega, by omega, by omega, by omega, by omega, by omega, by omega, by omega, fun _ => by omega, ⟨ML_eq h29 (by subst h28; unfold gDeed; first | done | rfl | ((repeat' split) <;> first | rfl | (exfalso; omega) | ((try have i0 := Imp_m h20.2.2.2.2.2.2.2.2.2.2.2.2.2.1 (by omega)); exfalso; omega))), by omega⟩⟩⟩
  · have h33 : Sp.1 = 0 := iW_g (i := 8) (B := By) (n := Nb) (by omega)
    obtain ⟨S34, h35⟩ : ∃ q : PS, q = adv By Nb Sp := ⟨_, rfl⟩
    have h36 : ML By Nb σ4 S34 := by rw [h35]; exact h11.2.2 (by omega)
    have h37 := ML_k h36 ((h6 _ _ (inW (by decide +kernel : TG 159 = 35) (by decide +kernel))).trans h_k)
    have h38 : S34.2.2.2 = Sp.2.2.2 := by rw [h35]; exact adv_w
    have h39 : S34.1 = 0 := by rw [h35, adv_1]; exact h33
    refine En_Ps 1 (pc' := 10) (lv' := [(0, .ref 159)]) (st' := [.int ((Int32.ofInt 1))]) rfl ?_
    refine En_top (by decide : (Int32.ofInt 1).toInt = 1) (fun z40 h41 => ?_)
    exact En_ret (v := some (.int z40)) rfl rfl rfl ⟨h5, h12, z8, h9, k, ((h6 _ _ (inW (by decide +kernel : TG 159 = 35) (by decide +kernel))).trans h_k), z40, rfl, ⟨by omega, by omega, by omega, by omega, by omega, by omega, by omega, by omega, by omega, by omega, by omega, by omega, by omega, by omega, by omega, fun _ => by omega, ⟨ML_eq h36 (by subst h35; unfold gDeed; first | done | rfl | ((repeat' split) <;> first | rfl | (exfalso; omega) | (exfalso; omega))), by omega⟩⟩⟩
/-- DoorSchoolModel.deeds(I)I -/
abbrev P_210x (σ0 : SG) (a : Int32) : PO := fun v σ => WT σ ∧ Fr [(35, 18), (35, 21), (42, 0), (43, 0), (44, 0), (45, 0), (46, 0)] σ0 σ ∧ ∃ ret : Int32, v = some (.int ret) ∧ -ret.toInt - 2 ≤ 0 ∧ ret.toInt - 65535 ≤ 0 ∧ ret.toInt = dsR (wf σ0) a.toInt
set_option maxRecDepth 10000 in
set_option maxHeartbeats 4000000 in
theorem c_210x (σ0 : SG) (hσ0 : WT σ0) (a : Int32) (hq : QX (wf σ0)) : En 5 112 none mr_210 (P_210x σ0 a) 0 [(0, .ref 159), (1, .int a)] [] σ0 := by
  have hF0 : Fr [(35, 18), (35, 21), (42, 0), (43, 0), (44, 0), (45, 0), (46, 0)] σ0 σ0 := Fr_rfl
  refine En_Ps 2 (pc' := 2) (lv' := [(0, .ref 159), (1, .int a)]) (st' := [.int a, .ref 159]) rfl ?_
  obtain ⟨z2, h1, h3, h4⟩ := WT_peekI hσ0 (by decide +kernel : TG 160 = 36) (by decide +kernel : FT 36 (2 : Int).toNat = (0, 0, 4)) (by decide +kernel)
  refine En_callV rfl rfl rfl rfl rfl rfl rfl rfl (by decide +kernel : TG 159 = 35) (by decide +kernel) rfl (c_254 σ0 hσ0 a z2 h1) (by decide) (by decide) (fun v6 σ7 h5 => ?_)
  obtain ⟨h8, h9, z11, rfl, h10⟩ := h5
  obtain rfl : σ0 = σ7 := Fr_nil h9
  have w12 : wf σ0 (2) = z2.toInt := ci_at h1 (by omega)
  refine En_iEq _ rfl rfl (fun h13 => ?_) (fun h13 => ?_)
  · refine En_Ps 1 (pc' := 18) (lv' := [(0, .ref 159), (1, .int a)]) (st' := [.int (((Int8.ofInt (-2)).toInt32))]) rfl ?_
    refine En_top (by decide : ((Int8.ofInt (-2)).toInt32).toInt = -2) (fun z14 h15 => ?_)
    exact En_ret (v := some (.int z14)) rfl rfl rfl ⟨hσ0, hF0, z14, rfl, ⟨by omega, by omega, dsR_n (by omega) (by omega)⟩⟩
  · obtain ⟨z17, h16, h18, h19⟩ := WT_peekI hσ0 (by decide +kernel : TG 160 = 36) (by decide +kernel : FT 36 (7 : Int).toNat = (0, 0, 1600)) (by decide +kernel)
    have w20 : wf σ0 (7) = z17.toInt := ci_at h16 (by omega)
    have h21 : 1 ≤ z17.toInt := by have e9 := hq (by omega); omega
    refine En_Ps 1 (pc' := 9) (lv' := [(0, .ref 159), (1, .int a)]) (st' := [.ref 159]) rfl ?_
    have h22 : 1 ≤ z17.toInt := by have e9 := hq (by omega); omega
    refine En_Ps 1 (pc' := 10) (lv' := [(0, .ref 159), (1, .int a)]) (st' := [.int a, .ref 159]) rfl ?_
    obtain ⟨z24, h23, h25, h26⟩ := WT_peekI hσ0 (by decide +kernel : TG 160 = 36) (by decide +kernel : FT 36 (0 : Int).toNat = (0, 0, 4)) (by decide +kernel)
    refine En_callV rfl rfl rfl rfl rfl rfl rfl rfl (by decide +kernel : TG 159 = 35) (by decide +kernel) rfl (c_213x σ0 hσ0 a (geI rfl (by omega)) (leI rfl (by omega)) z24 h23 z17 h16 (by omega)) (by decide) (by decide) (fun v28 σ29 h27 => ?_)
    obtain ⟨h30, h31, z33, h34, z35, rfl, h32⟩ := h27
    have h36 := h32.2.2.2.2.2.2.2.2.1
    have h37 := Fr_trans hF0 h31 (by decide +kernel)
    refine En_Ps 1 (pc' := 18) (lv' := [(0, .ref 159), (1, .int a)]) (st' := [.int z35]) rfl ?_
    exact En_ret (v := some (.int z35)) rfl rfl rfl ⟨h30, h37, z35, rfl, ⟨by omega, by omega, dsR_y (by omega) (by omega) h36⟩⟩
/-- DoorSchoolModel.deedsByWay(II)I -/
abbrev P_211x (σ0 : SG) (a : Int32) (b : Int32) (s : Int32) (sc : Int32) : PO := fun v σ => WT σ ∧ Fr [(35, 18), (35, 21), (42, 0), (43, 0), (44, 0), (45, 0), (46, 0)] σ0 σ ∧ ∃ ret : Int32, v = some (.int ret) ∧ -ret.toInt ≤ 0 ∧ ret.toInt - 65535 ≤ 0 ∧ ret.toInt = WDw (wf σ0) a.toInt b.toInt
set_option maxRecDepth 10000 in
set_option maxHeartbeats 4000000 in
theorem c_211x (σ0 : SG) (hσ0 : WT σ0) (a : Int32) (b : Int32) (hl_a : 0 ≤ a.toInt) (hu_a : a.toInt ≤ 3) (hl_b : 0 ≤ b.toInt) (hu_b : b.toInt ≤ 2) (s : Int32) (h_s : (σ0 160)[(0 : Int).toNat]? = some (.int s)) (sc : Int32) (h_sc : (σ0 160)[(7 : Int).toNat]? = some (.int sc)) (hp0 : -sc.toInt + 1 ≤ 0) : En 4 91 none mr_211 (P_211x σ0 a b s sc) 0 [(0, .ref 159), (1, .int a), (2, .int b)] [] σ0 := by
  obtain ⟨hl_s, hu_s⟩ := WT_int hσ0 (g := 36) (by decide +kernel) (by decide +kernel) (l := 0) (u := 4) (by decide +kernel) h_s
  obtain ⟨hl_sc, hu_sc⟩ := WT_int hσ0 (g := 36) (by decide +kernel) (by decide +kernel) (l := 0) (u := 1600) (by decide +kernel) h_sc
  have hF0 : Fr [(35, 18), (35, 21), (42, 0), (43, 0), (44, 0), (45, 0), (46, 0)] σ0 σ0 := Fr_rfl
  have kv := (kI_val sc.toInt s.toInt).2 (by omega)
  have := pI_rng (s := s.toInt) (by omega) (by omega)
  refine En_Ps 1 (pc' := 1) (lv' := [(0, .ref 159), (1, .int a), (2, .int b)]) (st' := [.ref 159]) rfl ?_
  refine En_callV rfl rfl rfl rfl rfl rfl rfl rfl (by decide +kernel : TG 159 = 35) (by decide +kernel) rfl (c_272x σ0 hσ0 s h_s sc h_sc) (by decide) (by decide) (fun v2 σ3 h1 => ?_)
  obtain ⟨h4, h5, z7, h8, rfl, h6⟩ := h1
  have h9 := h6.2.2.2.2.2.2
  have h10 := Fr_trans hF0 h5 (by decide +kernel)
  have h11 : wf σ3 = wf σ0 := wf_fr h5 (by decide +kernel)
  have h12 : z7.toInt = nR s.toInt := h9.1 (by omega)
  have h13 : wf σ0 0 = s.toInt := ci_at h_s rfl
  have h14 := nR_rg (s := s.toInt) (by omega) (by omega)
  refine En_Ps 2 (pc' := 6) (lv' := [(0, .ref 159), (1, .int a), (2, .int b)]) (st' := [.int a, .ref 159]) rfl ?_
  refine En_callV rfl rfl rfl rfl rfl rfl rfl rfl (by decide +kernel : TG 159 = 35) (by decide +kernel) rfl (c_271x σ3 h4 a (geI rfl (by omega)) (leI rfl (by omega))) (by decide) (by decide) (fun v16 σ17 h15 => ?_)
  obtain ⟨h18, h19, z21, h22, rfl, h20⟩ := h15
  have h23 := h20.2.2
  have h24 := Fr_trans h10 h19 (by decide +kernel)
  have h25 : z21.toInt = wf σ0 (12 + 4 * a.toInt) := by rw [← h11]; exact h23.1
  have h26 : LSQ σ17 (wf σ0) a.toInt z21.toInt := by rw [← h11]; exact h23.2
  have h27 : TB σ17 166 167 168 (kI sc.toInt s.toInt) z7.toInt := TB_fr h9.2 h19 (by decide +kernel : TG 166 = 42) (by decide +kernel : TG 167 = 43) (by decide +kernel : TG 168 = 44) (by decide +kernel)
  refine En_Ps 2 (pc' := 11) (lv' := [(0, .ref 159), (1, .int a), (2, .int b)]) (st' := [.int b, .ref 159]) rfl ?_
  refine En_callV rfl rfl rfl rfl rfl rfl rfl rfl (by decide +kernel : TG 159 = 35) (by decide +kernel) rfl (c_274x σ17 h18 b (geI rfl (by omega)) (leI rfl (by omega)) s ((h19 _ _ (inWa (by decide +kernel : TG 160 = 36) (by decide +kernel))).trans ((h5 _ _ (inWa (by decide +kernel : TG 160 = 36) (by decide +kernel))).trans h_s)) sc ((h19 _ _ (inWa (by decide +kernel : TG 160 = 36) (by decide +kernel))).trans ((h5 _ _ (inWa (by decide +kernel : TG 160 = 36) (by decide +kernel))).trans h_sc)) z7 ((h19 _ _ (inW (by decide +kernel : TG 159 = 35) (by decide +kernel))).trans h8) z21 h22 (fun i i0 i1 => TB_rg h27 (by omega) i i0 (by omega))) (by decide) (by decide) (fun v29 σ30 h28 => ?_)
  obtain ⟨h31, h32, z34, rfl, h33⟩ := h28
  have h35 := h33
  obtain rfl : σ17 = σ30 := Fr_nil h32
  have h36 : z34.toInt = WDw (wf σ0) a.toInt b.toInt := WDw_of h25.symm (by rw [h13]; exact kv) (by rw [h13]; exact h12) (by omega) (fun i i0 i1 => (h26 i i0 i1).1) (fun i i0 i1 => (h26 i i0 i1).2) (fun i i0 i1 => by rw [h13, ← kv]; exact TB_D h27 i i0 i1) h35
  have h37 := WDw_rg (w := wf σ0) (d := a.toInt) (way := b.toInt) ⟨by omega, by omega⟩
  exact En_ret (v := some (.int z34)) rfl rfl rfl ⟨h18, h24, z34, rfl, ⟨by omega, by omega, h36⟩⟩
/-- DoorSchoolModel.deedsWith(III)I -/
abbrev P_214x (σ0 : SG) (a : Int32) (b : Int32) (c : Int32) (s : Int32) (sc : Int32) : PO := fun v σ => WT σ ∧ Fr [(35, 18), (35, 21), (42, 0), (43, 0), (44, 0), (45, 0), (46, 0)] σ0 σ ∧ ∃ ret : Int32, v = some (.int ret) ∧ -ret.toInt ≤ 0 ∧ ret.toInt - 65535 ≤ 0 ∧ ret.toInt = DDx (wf σ0) a.toInt b.toInt c.toInt
set_option maxRecDepth 10000 in
set_option maxHeartbeats 4000000 in
theorem c_214x (σ0 : SG) (hσ0 : WT σ0) (a : Int32) (b : Int32) (c : Int32) (hl_a : 0 ≤ a.toInt) (hu_a : a.toInt ≤ 3) (hl_b : 0 ≤ b.toInt) (hu_b : b.toInt ≤ 15) (hl_c : 0 ≤ c.toInt) (hu_c : c.toInt ≤ 1) (s : Int32) (h_s : (σ0 160)[(0 : Int).toNat]? = some (.int s)) (sc : Int32) (h_sc : (σ0 160)[(7 : Int).toNat]? = some (.int sc)) (hp0 : -sc.toInt + 1 ≤ 0) : En 5 112 none mr_214 (P_214x σ0 a b c s sc) 0 [(0, .ref 159), (1, .int a), (2, .int b), (3, .int c)] [] σ0 := by
  obtain ⟨hl_s, hu_s⟩ := WT_int hσ0 (g := 36) (by decide +kernel) (by decide +kernel) (l := 0) (u := 4) (by decide +kernel) h_s
  obtain ⟨hl_sc, hu_sc⟩ := WT_int hσ0 (g := 36) (by decide +kernel) (by decide +kernel) (l := 0) (u := 1600) (by decide +kernel) h_sc
  have hF0 : Fr [(35, 18), (35, 21), (42, 0), (43, 0), (44, 0), (45, 0), (46, 0)] σ0 σ0 := Fr_rfl
  have kv := (kI_val sc.toInt s.toInt).2 (by omega)
  have := pI_rng (s := s.toInt) (by omega) (by omega)
  have w0 : wf σ0 0 = s.toInt := ci_at h_s rfl
  have : pI (wf σ0 0) = pI s.toInt := by rw [w0]
  refine En_Ps 2 (pc' := 2) (lv' := [(0, .ref 159), (1, .int a), (2, .int b), (3, .int c)]) (st' := [.int a, .ref 159]) rfl ?_
  refine En_callV rfl rfl rfl rfl rfl rfl rfl rfl (by decide +kernel : TG 159 = 35) (by decide +kernel) rfl (c_213x σ0 hσ0 a (geI rfl (by omega)) (leI rfl (by omega)) s h_s sc h_sc (by omega)) (by decide) (by decide) (fun v2 σ3 h1 => ?_)
  obtain ⟨h4, h5, z7, h8, z9, rfl, h6⟩ := h1
  have h10 := h6.2.2.2.2.2.2.2.2.1
  have h11 := Fr_trans hF0 h5 (by decide +kernel)
  have h12 : wf σ3 = wf σ0 := wf_fr h5 (by decide +kernel)
  refine En_Ps 3 (pc' := 9) (lv' := [(4, .int z9), (0, .ref 159), (1, .int a), (2, .int b), (3, .int c)]) (st' := [.int a, .ref 159]) rfl ?_
  obtain ⟨z14, h13, h15, h16⟩ := WT_peekI h4 (by decide +kernel : TG 160 = 36) (by decide +kernel : FT 36 (2 : Int).toNat = (0, 0, 4)) (by decide +kernel)
  refine En_callV rfl rfl rfl rfl rfl rfl rfl rfl (by decide +kernel : TG 159 = 35) (by decide +kernel) rfl (c_305x σ3 h4 a (geI rfl (by omega)) (leI rfl (by omega)) z14 h13) (by decide) (by decide) (fun v18 σ19 h17 => ?_)
  obtain ⟨h20, h21, z23, rfl, h22⟩ := h17
  have h24 := h22.2.2
  obtain rfl : σ3 = σ19 := Fr_nil h21
  have h25 : z23.toInt = rlW (wf σ0) a.toInt := by rw [← h12]; exact h24
  refine En_Ps 1 (pc' := 13) (lv' := [(4, .int z9), (0, .ref 159), (1, .int a), (2, .int b), (3, .int c)]) (st' := [.int a, .int z23]) rfl ?_
  refine En_icEq _ rfl rfl rfl (fun h26 => ?_) (fun h26 => ?_)
  · have h27 : rlW (wf σ0) a.toInt = a.toInt := by omega
    obtain ⟨z29, h28, h30, h31⟩ := WT_peekI h4 (by decide +kernel : TG 159 = 35) (by decide +kernel : FT 35 18 = (0, 0, 81)) (by decide +kernel)
    have h32 : z7.toInt = wf σ0 (12 + 4 * a.toInt) := (ci_at (j := 21) h8 rfl).symm.trans (by have e9 := h6.2.2.2.2.2.2.2.2.2.1; rw [h27] at e9; exact e9)
    have h33 : LSQ σ3 (wf σ0) a.toInt z7.toInt := by have e9 := h6.2.2.2.2.2.2.2.2.2.2.1; rw [h27, ← h32] at e9; exact e9
    have h34 : z29.toInt = nR (wf σ0 0) := (ci_at (j := 18) h28 rfl).symm.trans h6.2.2.2.2.2.2.2.2.2.2.2.1
    have h35 : TB σ3 166 167 168 (pI (wf σ0 0)) z29.toInt := by rw [h34]; exact h6.2.2.2.2.2.2.2.2.2.2.2.2
    have h36 := (NNw_w hσ0).2.2 a.toInt (by omega) (by omega)
    have h37 : z7.toInt ≤ 12 := by have e9 := M12_w hσ0 (d := a.toInt) (by omega) (by omega); omega
    refine En_Ps 3 (pc' := 22) (lv' := [(4, .int z9), (0, .ref 159), (1, .int a), (2, .int b), (3, .int c)]) (st' := [.int c, .int b, .ref 159]) rfl ?_
    refine En_callV rfl rfl rfl rfl rfl rfl rfl rfl (by decide +kernel : TG 159 = 35) (by decide +kernel) rfl (c_188x σ3 h4 b c (geI rfl (by omega)) (leI rfl (by omega)) (geI rfl (by omega)) (leI rfl (by omega)) z7 h8 (by omega)) (by decide) (by decide) (fun v39 σ40 h38 => ?_)
    obtain ⟨h41, h42, z44, h45, rfl, h43⟩ := h38
    have h46 := h43.2.2.2.2.2.2
    have h47 := Fr_trans h11 h42 (by decide +kernel)
    have h48 : wf σ40 = wf σ0 := (wf_fr h42 (by decide +kernel)).trans h12
    have h49 := LSQ_ap h33 h46 (M := z44.toInt) (by omega)
    have h50 : TB σ40 166 167 168 (pI (wf σ0 0)) z29.toInt := TB_fr h35 h42 (by decide +kernel : TG 166 = 42) (by decide +kernel : TG 167 = 43) (by decide +kernel : TG 168 = 44) (by decide +kernel)
    refine En_Ps 4 (pc' := 29) (lv' := [(4, .int z9), (0, .ref 159), (1, .int a), (2, .int b), (3, .int c)]) (st' := [.int ((Int32.ofInt 0)), .int a, .ref 159, .ref 159]) rfl ?_
    have := (by decide : ((Int32.ofInt 0)).toInt = 0)
    obtain ⟨z51, h52, h53, h54⟩ := WT_peekJ (J := (4 * a.toInt + ((Int32.ofInt 0)).toInt + 10)) (l := 0) (u := 2) h41 (by decide +kernel : TG 160 = 36) (by decide +kernel) (by omega) (lnI (by decide +kernel : LN _ = 226) (by omega)) (FTrow 36 10 4 4 (by decide +kernel) (by omega) (by omega) (by omega))
    have := (by decide : ((Int32.ofInt 0)).toInt = 0)
    refine En_callV rfl rfl rfl rfl rfl rfl rfl rfl (by decide +kernel : TG 159 = 35) (by decide +kernel) rfl (c_290a σ40 h41 a ((Int32.ofInt 0)) (geI rfl (by omega)) (leI rfl (by omega)) (geI (by decide : (Int32.ofInt 0).toInt = 0) (by omega)) (leI (by decide : (Int32.ofInt 0).toInt = 0) (by omega)) z51 h52) (by decide) (by decide) (fun v56 σ57 h55 => ?_)
    obtain ⟨h58, h59, z61, rfl, h60⟩ := h55
    obtain rfl : σ40 = σ57 := Fr_nil h59
    have h62 : wf σ0 (10 + 4 * a.toInt) = z61.toInt := by rw [← h48]; exact (ci_at h52 (by omega)).trans (by omega)
    refine En_callV rfl rfl rfl rfl rfl rfl rfl rfl (by decide +kernel : TG 159 = 35) (by decide +kernel) rfl (c_274x σ40 h41 z61 (geI rfl (by omega)) (leI rfl (by omega)) s ((h42 _ _ (inWa (by decide +kernel : TG 160 = 36) (by decide +kernel))).trans ((h5 _ _ (inWa (by decide +kernel : TG 160 = 36) (by decide +kernel))).trans h_s)) sc ((h42 _ _ (inWa (by decide +kernel : TG 160 = 36) (by decide +kernel))).trans ((h5 _ _ (inWa (by decide +kernel : TG 160 = 36) (by decide +kernel))).trans h_sc)) z29 ((h42 _ _ (inW (by decide +kernel : TG 159 = 35) (by decide +kernel))).trans h28) z44 h45 (fun i i0 i1 => TB_rg h50 (by omega) i i0 (by omega))) (by decide) (by decide) (fun v64 σ65 h63 => ?_)
    obtain ⟨h66, h67, z69, rfl, h68⟩ := h63
    have h70 := h68
    obtain rfl : σ40 = σ65 := Fr_nil h67
    have h71 : z69.toInt = DDx (wf σ0) a.toInt b.toInt c.toInt := DDx_y h27 h62 h32.symm (n := z44.toInt) (by omega) (by omega) (by rw [w0]; exact kv) h34 h49.1 h49.2 (TB_D h50) h70
    have h72 := DDx_rg (w := wf σ0) (d := a.toInt) (q := b.toInt) (v := c.toInt) (by omega) (by omega)
    exact En_ret (v := some (.int z69)) rfl rfl rfl ⟨h41, h47, z69, rfl, ⟨by omega, by omega, h71⟩⟩
  · refine En_Ps 1 (pc' := 18) (lv' := [(4, .int z9), (0, .ref 159), (1, .int a), (2, .int b), (3, .int c)]) (st' := [.int z9]) rfl ?_
    exact En_ret (v := some (.int z9)) rfl rfl rfl ⟨h4, h11, z9, rfl, ⟨by omega, by omega, DDx_n (fun q => by omega) h10⟩⟩
/-- DoorSchoolModel.deedsWithout(II)I -/
abbrev P_215x (σ0 : SG) (a : Int32) (b : Int32) (s : Int32) (sc : Int32) : PO := fun v σ => WT σ ∧ Fr [(35, 18), (35, 21), (42, 0), (43, 0), (44, 0), (45, 0), (46, 0)] σ0 σ ∧ ∃ ret : Int32, v = some (.int ret) ∧ ret.toInt = DDo (wf σ0) a.toInt b.toInt
set_option maxRecDepth 10000 in
set_option maxHeartbeats 4000000 in
theorem c_215x (σ0 : SG) (hσ0 : WT σ0) (a : Int32) (b : Int32) (hl_a : 0 ≤ a.toInt) (hu_a : a.toInt ≤ 3) (hl_b : 0 ≤ b.toInt) (hu_b : b.toInt ≤ 11) (s : Int32) (h_s : (σ0 160)[(0 : Int).toNat]? = some (.int s)) (sc : Int32) (h_sc : (σ0 160)[(7 : Int).toNat]? = some (.int sc)) (hp0 : -sc.toInt + 1 ≤ 0) (hr : rlW (wf σ0) a.toInt = a.toInt) (hi : b.toInt < wf σ0 (12 + 4 * a.toInt)) : En 4 91 none mr_215 (P_215x σ0 a b s sc) 0 [(0, .ref 159), (1, .int a), (2, .int b)] [] σ0 := by
  obtain ⟨hl_s, hu_s⟩ := WT_int hσ0 (g := 36) (by decide +kernel) (by decide +kernel) (l := 0) (u := 4) (by decide +kernel) h_s
  obtain ⟨hl_sc, hu_sc⟩ := WT_int hσ0 (g := 36) (by decide +kernel) (by decide +kernel) (l := 0) (u := 1600) (by decide +kernel) h_sc
  have hF0 : Fr [(35, 18), (35, 21), (42, 0), (43, 0), (44, 0), (45, 0), (46, 0)] σ0 σ0 := Fr_rfl
  have kv := (kI_val sc.toInt s.toInt).2 (by omega)
  have := pI_rng (s := s.toInt) (by omega) (by omega)
  have w0 : wf σ0 0 = s.toInt := ci_at h_s rfl
  have : pI (wf σ0 0) = pI s.toInt := by rw [w0]
  refine En_Ps 1 (pc' := 1) (lv' := [(0, .ref 159), (1, .int a), (2, .int b)]) (st' := [.ref 159]) rfl ?_
  refine En_callV rfl rfl rfl rfl rfl rfl rfl rfl (by decide +kernel : TG 159 = 35) (by decide +kernel) rfl (c_272x σ0 hσ0 s h_s sc h_sc) (by decide) (by decide) (fun v2 σ3 h1 => ?_)
  obtain ⟨h4, h5, z7, h8, rfl, h6⟩ := h1
  have h9 := h6.2.2.2.2.2.2
  have h10 := Fr_trans hF0 h5 (by decide +kernel)
  have h11 : wf σ3 = wf σ0 := wf_fr h5 (by decide +kernel)
  have h12 : z7.toInt = nR s.toInt := h9.1 (by omega)
  have h13 := nR_rg (s := s.toInt) (by omega) (by omega)
  have h14 := M12_w hσ0 (d := a.toInt) (by omega) (by omega)
  refine En_Ps 2 (pc' := 6) (lv' := [(0, .ref 159), (1, .int a), (2, .int b)]) (st' := [.int ((Int32.ofInt 0)), .ref 159]) rfl ?_
  refine En_put (j := 21) rfl rfl rfl (by decide +kernel : TG 159 = 35) (by decide +kernel) rfl (vI (l := 0) (u := 17) (by decide +kernel) (by decide : (Int32.ofInt 0).toInt = 0) (by omega) (by omega)) h4 h10 (by decide +kernel) (fun σ15 h16 h17 h18 h19 => ?_)
  have h20 : TB σ15 166 167 168 (kI sc.toInt s.toInt) z7.toInt := TB_ne h9.2 h19 (by decide) (by decide) (by decide)
  refine En_Ps 2 (pc' := 11) (lv' := [(3, .int ((Int32.ofInt 0))), (0, .ref 159), (1, .int a), (2, .int b)]) (st' := []) rfl ?_
  have key11 : ∀ (n11 : Nat) (σ23 : SG) (y21 : Int32) (y22 : Int32), WT σ23 → Fr [(35, 18), (35, 21), (42, 0), (43, 0), (44, 0), (45, 0), (46, 0)] σ0 σ23 → (σ23 160)[(0 : Int).toNat]? = some (.int s) → (σ23 160)[(7 : Int).toNat]? = some (.int sc) → (σ23 159)[18]? = some (.int z7) → (σ23 159)[21]? = some (.int y22) → 0 ≤ y21.toInt → y21.toInt ≤ 12 → 0 ≤ y22.toInt → y22.toInt ≤ 12 → -y21.toInt + 12 < (n11 : Int) → LSO σ23 (wf σ0) a.toInt b.toInt y22.toInt → wf σ23 = wf σ0 → y21.toInt ≤ wf σ0 (12 + 4 * a.toInt) → ((y21.toInt ≤ b.toInt ∧ y22.toInt = y21.toInt) ∨ (b.toInt < y21.toInt ∧ y22.toInt = y21.toInt - 1)) → TB σ23 166 167 168 (kI sc.toInt s.toInt) z7.toInt → En 4 91 none mr_215 (P_215x σ0 a b s sc) 11 [(0, .ref 159), (1, .int a), (2, .int b), (3, .int y21)] [] σ23 := by
    intro n11
    induction n11 with
    | zero =>
      intro σ23 y21 y22 h24 h25 h26 h27 h28 h29 h30 h31 h32 h33 h34 h35 h36 h37 h38 h39
      exfalso; omega
    | succ n11 ih11 =>
      intro σ23 y21 y22 h24 h25 h26 h27 h28 h29 h30 h31 h32 h33 h34 h35 h36 h37 h38 h39
      refine En_Ps 4 (pc' := 15) (lv' := [(0, .ref 159), (1, .int a), (2, .int b), (3, .int y21)]) (st' := [.int ((Int32.ofInt 2)), .int a, .ref 159, .int y21]) rfl ?_
      have := (by decide : ((Int32.ofInt 2)).toInt = 2)
      obtain ⟨z40, h41, h42, h43⟩ := WT_peekJ (J := (4 * a.toInt + ((Int32.ofInt 2)).toInt + 10)) (l := 0) (u := 12) h24 (by decide +kernel : TG 160 = 36) (by decide +kernel) (by omega) (lnI (by decide +kernel : LN _ = 226) (by omega)) (FTrow 36 12 4 4 (by decide +kernel) (by omega) (by omega) (by omega))
      have := (by decide : ((Int32.ofInt 2)).toInt = 2)
      refine En_callV rfl rfl rfl rfl rfl rfl rfl rfl (by decide +kernel : TG 159 = 35) (by decide +kernel) rfl (c_290c σ23 h24 a ((Int32.ofInt 2)) (geI rfl (by omega)) (leI rfl (by omega)) (geI (by decide : (Int32.ofInt 2).toInt = 2) (by omega)) (leI (by decide : (Int32.ofInt 2).toInt = 2) (by omega)) z40 h41) (by decide) (by decide) (fun v45 σ46 h44 => ?_)
      obtain ⟨h47, h48, z50, rfl, h49⟩ := h44
      obtain rfl : σ23 = σ46 := Fr_nil h48
      have h51 : wf σ0 (12 + 4 * a.toInt) = z50.toInt := by rw [← h36]; exact (ci_at h41 (by omega)).trans (by omega)
      refine En_icGe _ rfl rfl rfl (fun h52 => ?_) (fun h52 => ?_)
      · refine En_Ps 4 (pc' := 62) (lv' := [(0, .ref 159), (1, .int a), (2, .int b), (3, .int y21)]) (st' := [.int ((Int32.ofInt 0)), .int a, .ref 159, .ref 159]) rfl ?_
        have := (by decide : ((Int32.ofInt 0)).toInt = 0)
        obtain ⟨z53, h54, h55, h56⟩ := WT_peekJ (J := (4 * a.toInt + ((Int32.ofInt 0)).toInt + 10)) (l := 0) (u := 2) h24 (by decide +kernel : TG 160 = 36) (by decide +kernel) (by omega) (lnI (by decide +kernel : LN _ = 226) (by omega)) (FTrow 36 10 4 4 (by decide +kernel) (by omega) (by omega) (by omega))
        have := (by decide : ((Int32.ofInt 0)).toInt = 0)
        refine En_callV rfl rfl rfl rfl rfl rfl rfl rfl (by decide +kernel : TG 159 = 35) (by decide +kernel) rfl (c_290a σ23 h24 a ((Int32.ofInt 0)) (geI rfl (by omega)) (leI rfl (by omega)) (geI (by decide : (Int32.ofInt 0).toInt = 0) (by omega)) (leI (by decide : (Int32.ofInt 0).toInt = 0) (by omega)) z53 h54) (by decide) (by decide) (fun v58 σ59 h57 => ?_)
        obtain ⟨h60, h61, z63, rfl, h62⟩ := h57
        obtain rfl : σ23 = σ59 := Fr_nil h61
        have h64 : wf σ0 (10 + 4 * a.toInt) = z63.toInt := by rw [← h36]; exact (ci_at h54 (by omega)).trans (by omega)
        refine En_callV rfl rfl rfl rfl rfl rfl rfl rfl (by decide +kernel : TG 159 = 35) (by decide +kernel) rfl (c_274x σ23 h24 z63 (geI rfl (by omega)) (leI rfl (by omega)) s h26 sc h27 z7 h28 y22 h29 (fun i i0 i1 => TB_rg h39 (by omega) i i0 (by omega))) (by decide) (by decide) (fun v66 σ67 h65 => ?_)
        obtain ⟨h68, h69, z71, rfl, h70⟩ := h65
        have h72 := h70
        obtain rfl : σ23 = σ67 := Fr_nil h69
        have h73 : z71.toInt = DDo (wf σ0) a.toInt b.toInt := DDo_y hr h64 h51 (n := y22.toInt) (by omega) (by omega) (by rw [w0]; exact kv) (by rw [w0]; exact h12) (fun j j0 j1 => (h35 j j0 j1).1) (fun j j0 j1 => (h35 j j0 j1).2) (fun i i0 i1 => by rw [w0, ← kv]; exact TB_D h39 i i0 i1) h72
        exact En_ret (v := some (.int z71)) rfl rfl rfl ⟨h24, h25, z71, rfl, h73⟩
      · refine En_Ps 2 (pc' := 23) (lv' := [(0, .ref 159), (1, .int a), (2, .int b), (3, .int y21)]) (st' := [.int b, .int y21]) rfl ?_
        refine En_icEq _ rfl rfl rfl (fun h74 => ?_) (fun h74 => ?_)
        · refine En_Ps 1 (pc' := 55) (lv' := [(3, .int ((y21 + Int32.ofInt 1))), (0, .ref 159), (1, .int a), (2, .int b)]) (st' := []) rfl ?_
          refine En_lv1 (addI rfl (by decide : (Int32.ofInt 1).toInt = 1) (by omega) (by omega)) (fun z75 h76 => ?_)
          refine En_Ps 1 (pc' := 11) (lv' := [(3, .int z75), (0, .ref 159), (1, .int a), (2, .int b)]) (st' := []) rfl ?_
          refine En_lv (lv := [(0, .ref 159), (1, .int a), (2, .int b), (3, .int z75)]) ⟨rfl, rfl, rfl, rfl, trivial⟩ ?_
          exact ih11 σ23 z75 y22 h24 h25 h26 h27 h28 h29 (by omega) (by omega) (by omega) (by omega) (by omega) (h35) (h36) ((by omega)) ((by omega)) (h39)
        · have h77 : 0 ≤ y22.toInt ∧ y22.toInt ≤ 11 := by omega
          refine En_Ps 2 (pc' := 28) (lv' := [(0, .ref 159), (1, .int a), (2, .int b), (3, .int y21)]) (st' := [.ref 159, .ref 159]) rfl ?_
          refine En_getU (j := 1) (u := 160) (g' := 36) (q := 0) rfl rfl rfl (by decide +kernel : TG 159 = 35) (by decide +kernel) h24 (by decide +kernel) (by decide +kernel) (fun h78 => ?_)
          refine En_Ps 2 (pc' := 33) (lv' := [(0, .ref 159), (1, .int a), (2, .int b), (3, .int y21)]) (st' := [.int y21, .int a, .ref 160, .ref 159]) rfl ?_
          refine En_callS rfl rfl rfl rfl rfl rfl rfl rfl rfl (c_281 σ23 h24 a y21 (geI rfl (by omega)) (leI rfl (by omega)) (geI rfl (by omega)) (leI rfl (by omega))) (by decide) (by decide) (fun v81 σ82 h80 => ?_)
          obtain ⟨h83, h84, z86, rfl, h85⟩ := h80
          obtain rfl : σ23 = σ82 := Fr_nil h84
          refine En_iald (l := 0) (u := 15) rfl rfl (by decide +kernel : TG 160 = 36) (by decide +kernel) h24 (by omega) (lnI (by decide +kernel : LN _ = 226) (by omega)) (FTrow 36 26 2 48 (by decide +kernel) (by omega) (by omega) (by omega)) (fun z88 h87 h89 h90 => ?_)
          refine En_Ps 1 (pc' := 38) (lv' := [(0, .ref 159), (1, .int a), (2, .int b), (3, .int y21)]) (st' := [.ref 159, .int z88, .ref 159]) rfl ?_
          refine En_getK (j := 1) h78 rfl rfl rfl (by decide +kernel : TG 159 = 35) (by decide +kernel) ?_
          refine En_Ps 2 (pc' := 43) (lv' := [(0, .ref 159), (1, .int a), (2, .int b), (3, .int y21)]) (st' := [.int y21, .int a, .ref 160, .int z88, .ref 159]) rfl ?_
          refine En_callS rfl rfl rfl rfl rfl rfl rfl rfl rfl (c_281 σ23 h24 a y21 (geI rfl (by omega)) (leI rfl (by omega)) (geI rfl (by omega)) (leI rfl (by omega))) (by decide) (by decide) (fun v92 σ93 h91 => ?_)
          obtain ⟨h94, h95, z97, rfl, h96⟩ := h91
          obtain rfl : σ23 = σ93 := Fr_nil h95
          refine En_Ps 2 (pc' := 48) (lv' := [(0, .ref 159), (1, .int a), (2, .int b), (3, .int y21)]) (st' := [.int ((z97 + ((Int32.ofInt 1)))), .ref 160, .int z88, .ref 159]) rfl ?_
          refine En_top (addI rfl (by decide : (Int32.ofInt 1).toInt = 1) (by omega) (by omega)) (fun z98 h99 => ?_)
          refine En_iald (l := 0) (u := 1) rfl rfl (by decide +kernel : TG 160 = 36) (by decide +kernel) h24 (by omega) (lnI (by decide +kernel : LN _ = 226) (by omega)) (FTrow 36 27 2 48 (by decide +kernel) (by omega) (by omega) (by omega)) (fun z101 h100 h102 h103 => ?_)
          have h104 : z88.toInt = lkW (wf σ0) a.toInt y21.toInt := by rw [← h36]; exact (ci_at h87 (by omega)).symm
          have h105 : z101.toInt = loW (wf σ0) a.toInt y21.toInt := by rw [← h36]; exact (ci_at h100 (by omega)).symm
          refine En_callV rfl rfl rfl rfl rfl rfl rfl rfl (by decide +kernel : TG 159 = 35) (by decide +kernel) rfl (c_188x σ23 h24 z88 z101 (geI rfl (by omega)) (leI rfl (by omega)) (geI rfl (by omega)) (leI rfl (by omega)) y22 h29 (by omega)) (by decide) (by decide) (fun v107 σ108 h106 => ?_)
          obtain ⟨h109, h110, z112, h113, rfl, h111⟩ := h106
          have h114 := h111.2.2.2.2.2.2
          have h115 := Fr_trans h25 h110 (by decide +kernel)
          refine En_Ps 1 (pc' := 55) (lv' := [(3, .int ((y21 + Int32.ofInt 1))), (0, .ref 159), (1, .int a), (2, .int b)]) (st' := []) rfl ?_
          refine En_lv1 (addI rfl (by decide : (Int32.ofInt 1).toInt = 1) (by omega) (by omega)) (fun z116 h117 => ?_)
          refine En_Ps 1 (pc' := 11) (lv' := [(3, .int z116), (0, .ref 159), (1, .int a), (2, .int b)]) (st' := []) rfl ?_
          refine En_lv (lv := [(0, .ref 159), (1, .int a), (2, .int b), (3, .int z116)]) ⟨rfl, rfl, rfl, rfl, trivial⟩ ?_
          exact ih11 σ108 z116 z112 h109 h115 ((h110 _ _ (inWa (by decide +kernel : TG 160 = 36) (by decide +kernel))).trans h26) ((h110 _ _ (inWa (by decide +kernel : TG 160 = 36) (by decide +kernel))).trans h27) ((h110 _ _ (inW (by decide +kernel : TG 159 = 35) (by decide +kernel))).trans h28) h113 (by omega) (by omega) (by omega) (by omega) (by omega) (LSO_s h35 h114 h104 h105 (j := y21.toInt) (by omega) (by omega)) ((wf_fr h110 (by decide +kernel)).trans h36) ((by omega)) ((by omega)) (TB_fr h39 h110 (by decide +kernel : TG 166 = 42) (by decide +kernel : TG 167 = 43) (by decide +kernel : TG 168 = 44) (by decide +kernel))
  have := (by decide : (Int32.ofInt 0).toInt = 0)
  have := (by decide : (Int32.ofInt 0).toInt = 0)
  refine En_lv (lv := [(0, .ref 159), (1, .int a), (2, .int b), (3, .int ((Int32.ofInt 0)))]) ⟨rfl, rfl, rfl, rfl, trivial⟩ ?_
  exact key11 (Int.toNat (12) + 1) σ15 ((Int32.ofInt 0)) ((Int32.ofInt 0)) h16 h17 ((h19 _ _ (Or.inl (neTG (by decide +kernel : TG 160 = 36) (by decide +kernel : TG 159 = 35) (by decide)))).trans ((h5 _ _ (inWa (by decide +kernel : TG 160 = 36) (by decide +kernel))).trans h_s)) ((h19 _ _ (Or.inl (neTG (by decide +kernel : TG 160 = 36) (by decide +kernel : TG 159 = 35) (by decide)))).trans ((h5 _ _ (inWa (by decide +kernel : TG 160 = 36) (by decide +kernel))).trans h_sc)) ((h19 _ _ (Or.inr (by decide))).trans h8) h18 (by omega) (by omega) (by omega) (by omega) (by omega) (LSO_0 (by omega)) (((wf_ne h19 (by decide)).trans h11)) ((by have e9 := (NNw_w hσ0).2.2 a.toInt (by omega) (by omega); omega)) ((by omega)) (h20)
/-- DoorSchoolModel.isRule(II)Z -/
abbrev P_263x (σ0 : SG) (a : Int32) (b : Int32) (s : Int32) (sc : Int32) : PO := fun v σ => WT σ ∧ Fr [] σ0 σ ∧ ∃ ret : Int32, v = some (.int ret) ∧ -ret.toInt ≤ 0 ∧ ret.toInt - 1 ≤ 0 ∧ Imp (ret.toInt - 1 ≤ 0 ∧ -ret.toInt + 1 ≤ 0) (-a.toInt ≤ 0 ∧ a.toInt - 15 ≤ 0 ∧ -b.toInt ≤ 0 ∧ b.toInt - 15 ≤ 0) ∧ ((ret.toInt = 1 ∧ 0 < sc.toInt ∧ 0 ≤ a.toInt ∧ a.toInt < pI s.toInt ∧ 0 ≤ b.toInt ∧ b.toInt ≤ 15 ∧ sbI b.toInt a.toInt = 1) ∨ (ret.toInt = 0 ∧ (sc.toInt ≤ 0 ∨ a.toInt < 0 ∨ pI s.toInt ≤ a.toInt ∨ b.toInt < 0 ∨ 15 < b.toInt ∨ sbI b.toInt a.toInt ≠ 1)))
set_option maxRecDepth 10000 in
set_option maxHeartbeats 4000000 in
theorem c_263x (σ0 : SG) (hσ0 : WT σ0) (a : Int32) (b : Int32) (s : Int32) (h_s : (σ0 160)[(0 : Int).toNat]? = some (.int s)) (sc : Int32) (h_sc : (σ0 160)[(7 : Int).toNat]? = some (.int sc)) : En 3 62 none mr_263 (P_263x σ0 a b s sc) 0 [(0, .ref 159), (1, .int a), (2, .int b)] [] σ0 := by
  obtain ⟨hl_s, hu_s⟩ := WT_int hσ0 (g := 36) (by decide +kernel) (by decide +kernel) (l := 0) (u := 4) (by decide +kernel) h_s
  obtain ⟨hl_sc, hu_sc⟩ := WT_int hσ0 (g := 36) (by decide +kernel) (by decide +kernel) (l := 0) (u := 1600) (by decide +kernel) h_sc
  have hF0 : Fr [] σ0 σ0 := Fr_rfl
  refine En_Ps 3 (pc' := 3) (lv' := [(0, .ref 159), (1, .int a), (2, .int b)]) (st' := [.long a.toInt64, .ref 159]) rfl ?_
  have : a.toInt64.toInt = a.toInt := (i2lI rfl)
  refine En_callV rfl rfl rfl rfl rfl rfl rfl rfl (by decide +kernel : TG 159 = 35) (by decide +kernel) rfl (c_259x σ0 hσ0 a.toInt64 s h_s sc h_sc) (by decide) (by decide) (fun v2 σ3 h1 => ?_)
  obtain ⟨h4, h5, z7, rfl, h6⟩ := h1
  have h8 := h6.2.2.2
  obtain rfl : σ0 = σ3 := Fr_nil h5
  have h9 := h8
  have w10 : wf σ0 (0) = s.toInt := ci_at h_s (by omega)
  have w11 : wf σ0 (7) = sc.toInt := ci_at h_sc (by omega)
  refine En_iEq _ rfl rfl (fun h12 => ?_) (fun h12 => ?_)
  · refine En_Ps 1 (pc' := 31) (lv' := [(0, .ref 159), (1, .int a), (2, .int b)]) (st' := [.int ((Int32.ofInt 0))]) rfl ?_
    refine En_top (by decide : (Int32.ofInt 0).toInt = 0) (fun z13 h14 => ?_)
    exact En_ret (v := some (.int z13)) rfl rfl (retZ rfl rfl (by omega) (by omega)) ⟨hσ0, hF0, z13, rfl, ⟨by omega, by omega, fun _ => by omega, (by first | omega | (by_cases q0 : 0 ≤ b.toInt ∧ b.toInt ≤ 15 ∧ 0 ≤ a.toInt ∧ sbI b.toInt a.toInt = 1; (have q1 := sbI_le q0.1 q0.2.2.1 q0.2.2.2; omega); omega))⟩⟩
  · have h15 := Imp_m h6.2.2.1 (by omega)
    refine En_Ps 3 (pc' := 12) (lv' := [(0, .ref 159), (1, .int a), (2, .int b)]) (st' := [.long b.toInt64, .ref 159]) rfl ?_
    have : b.toInt64.toInt = b.toInt := (i2lI rfl)
    refine En_callV rfl rfl rfl rfl rfl rfl rfl rfl (by decide +kernel : TG 159 = 35) (by decide +kernel) rfl (c_259x σ0 hσ0 b.toInt64 s h_s sc h_sc) (by decide) (by decide) (fun v17 σ18 h16 => ?_)
    obtain ⟨h19, h20, z22, rfl, h21⟩ := h16
    have h23 := h21.2.2.2
    obtain rfl : σ0 = σ18 := Fr_nil h20
    have h24 := h23
    refine En_iEq _ rfl rfl (fun h25 => ?_) (fun h25 => ?_)
    · refine En_Ps 1 (pc' := 31) (lv' := [(0, .ref 159), (1, .int a), (2, .int b)]) (st' := [.int ((Int32.ofInt 0))]) rfl ?_
      refine En_top (by decide : (Int32.ofInt 0).toInt = 0) (fun z26 h27 => ?_)
      exact En_ret (v := some (.int z26)) rfl rfl (retZ rfl rfl (by omega) (by omega)) ⟨hσ0, hF0, z26, rfl, ⟨by omega, by omega, fun _ => by omega, (by first | omega | (by_cases q0 : 0 ≤ b.toInt ∧ b.toInt ≤ 15 ∧ 0 ≤ a.toInt ∧ sbI b.toInt a.toInt = 1; (have q1 := sbI_le q0.1 q0.2.2.1 q0.2.2.2; omega); omega))⟩⟩
    · have h28 := Imp_m h21.2.2.1 (by omega)
      refine En_Ps 4 (pc' := 22) (lv' := [(0, .ref 159), (1, .int a), (2, .int b)]) (st' := [.int ((a ^^^ ((Int32.ofInt (-1))))), .int b]) rfl ?_
      refine En_nam (fun z29 h30 => ?_)
      refine En_Ps 1 (pc' := 23) (lv' := [(0, .ref 159), (1, .int a), (2, .int b)]) (st' := [.int ((b &&& z29))]) rfl ?_
      refine En_nam (fun z31 h32 => ?_)
      obtain ⟨h33, h34⟩ := andn_rng h32 rfl (by omega) (by omega : _ ≤ (15 : Int))
      refine En_iNe _ rfl rfl (fun h35 => ?_) (fun h35 => ?_)
      · have := sub_sbw h32 h30 rfl rfl (by omega) (by omega) (by omega)
        refine En_Ps 1 (pc' := 31) (lv' := [(0, .ref 159), (1, .int a), (2, .int b)]) (st' := [.int ((Int32.ofInt 0))]) rfl ?_
        refine En_top (by decide : (Int32.ofInt 0).toInt = 0) (fun z36 h37 => ?_)
        exact En_ret (v := some (.int z36)) rfl rfl (retZ rfl rfl (by omega) (by omega)) ⟨hσ0, hF0, z36, rfl, ⟨by omega, by omega, fun _ => by omega, (by first | omega | (by_cases q0 : 0 ≤ b.toInt ∧ b.toInt ≤ 15 ∧ 0 ≤ a.toInt ∧ sbI b.toInt a.toInt = 1; (have q1 := sbI_le q0.1 q0.2.2.1 q0.2.2.2; omega); omega))⟩⟩
      · obtain ⟨h38, h39⟩ := andn_zero h32 h30 h35 rfl rfl (by omega)
        have := sub_sbw h32 h30 rfl rfl (by omega) (by omega) (by omega)
        refine En_Ps 2 (pc' := 31) (lv' := [(0, .ref 159), (1, .int a), (2, .int b)]) (st' := [.int ((Int32.ofInt 1))]) rfl ?_
        refine En_top (by decide : (Int32.ofInt 1).toInt = 1) (fun z40 h41 => ?_)
        exact En_ret (v := some (.int z40)) rfl rfl (retZ rfl rfl (by omega) (by omega)) ⟨hσ0, hF0, z40, rfl, ⟨by omega, by omega, fun _ => by omega, (by first | omega | (by_cases q0 : 0 ≤ b.toInt ∧ b.toInt ≤ 15 ∧ 0 ≤ a.toInt ∧ sbI b.toInt a.toInt = 1; (have q1 := sbI_le q0.1 q0.2.2.1 q0.2.2.2; omega); omega))⟩⟩
/-- DoorSchoolModel.does(II)I -/
abbrev P_216x (σ0 : SG) (a : Int32) (b : Int32) : PO := fun v σ => WT σ ∧ Fr [] σ0 σ ∧ ∃ ret : Int32, v = some (.int ret) ∧ -ret.toInt - 2 ≤ 0 ∧ ret.toInt - 65535 ≤ 0 ∧ ret.toInt = dfR (wf σ0) a.toInt b.toInt
set_option maxRecDepth 10000 in
set_option maxHeartbeats 4000000 in
theorem c_216x (σ0 : SG) (hσ0 : WT σ0) (a : Int32) (b : Int32) : En 4 84 none mr_216 (P_216x σ0 a b) 0 [(0, .ref 159), (1, .int a), (2, .int b)] [] σ0 := by
  have hF0 : Fr [] σ0 σ0 := Fr_rfl
  refine En_Ps 3 (pc' := 3) (lv' := [(0, .ref 159), (1, .int a), (2, .int b)]) (st' := [.int b, .int a, .ref 159]) rfl ?_
  obtain ⟨z2, h1, h3, h4⟩ := WT_peekI hσ0 (by decide +kernel : TG 160 = 36) (by decide +kernel : FT 36 (0 : Int).toNat = (0, 0, 4)) (by decide +kernel)
  obtain ⟨z6, h5, h7, h8⟩ := WT_peekI hσ0 (by decide +kernel : TG 160 = 36) (by decide +kernel : FT 36 (7 : Int).toNat = (0, 0, 1600)) (by decide +kernel)
  refine En_callV rfl rfl rfl rfl rfl rfl rfl rfl (by decide +kernel : TG 159 = 35) (by decide +kernel) rfl (c_263x σ0 hσ0 a b z2 h1 z6 h5) (by decide) (by decide) (fun v10 σ11 h9 => ?_)
  obtain ⟨h12, h13, z15, rfl, h14⟩ := h9
  have h16 := h14.2.2.2
  obtain rfl : σ0 = σ11 := Fr_nil h13
  have h17 := h16
  have w18 : wf σ0 (0) = z2.toInt := ci_at h1 (by omega)
  have w19 : wf σ0 (7) = z6.toInt := ci_at h5 (by omega)
  have h20 : pI (wf σ0 0) = pI (z2.toInt) := by rw [w18]
  refine En_iEq _ rfl rfl (fun h21 => ?_) (fun h21 => ?_)
  · refine En_Ps 1 (pc' := 20) (lv' := [(0, .ref 159), (1, .int a), (2, .int b)]) (st' := [.int (((Int8.ofInt (-2)).toInt32))]) rfl ?_
    refine En_top (by decide : ((Int8.ofInt (-2)).toInt32).toInt = -2) (fun z22 h23 => ?_)
    exact En_ret (v := some (.int z22)) rfl rfl rfl ⟨hσ0, hF0, z22, rfl, ⟨by omega, by omega, dfR_n (fun ⟨q1, q2, q3, q4, q5, q6⟩ => by omega) (by omega)⟩⟩
  · have h24 := Imp_m h14.2.2.1 (by omega)
    have h25 : 1 ≤ z6.toInt := by omega
    have h26 := pI_rng (s := z2.toInt) (by omega) (by omega)
    have h27 := kI_val z6.toInt z2.toInt
    have h28 : 0 ≤ a.toInt ∧ a.toInt ≤ 15 := by omega
    have h29 : 0 ≤ b.toInt ∧ b.toInt ≤ 15 := by omega
    refine En_Ps 3 (pc' := 12) (lv' := [(0, .ref 159), (1, .int a), (2, .int b)]) (st' := [.int b, .int a, .ref 159]) rfl ?_
    refine En_callV rfl rfl rfl rfl rfl rfl rfl rfl (by decide +kernel : TG 159 = 35) (by decide +kernel) rfl (c_212x σ0 hσ0 a b (geI rfl (by omega)) (leI rfl (by omega)) z2 h1 z6 h5) (by decide) (by decide) (fun v31 σ32 h30 => ?_)
    obtain ⟨h33, h34, z36, rfl, h35⟩ := h30
    have h37 := h35.2.2
    obtain rfl : σ0 = σ32 := Fr_nil h34
    refine En_Ps 1 (pc' := 20) (lv' := [(0, .ref 159), (1, .int a), (2, .int b)]) (st' := [.int z36]) rfl ?_
    exact En_ret (v := some (.int z36)) rfl rfl rfl ⟨hσ0, hF0, z36, rfl, ⟨by omega, by omega, dfR_y ⟨by omega, by omega, by omega, by omega, by omega, by omega⟩ (by have e9 := w18; rw [e9]; omega) h37⟩⟩
/-- DoorSchoolModel.doesFreshCopy(I)Z -/
abbrev P_217x (σ0 : SG) (a : Int32) : PO := fun v σ => WT σ ∧ Fr [] σ0 σ ∧ ∃ ret : Int32, v = some (.int ret) ∧ -ret.toInt ≤ 0 ∧ ret.toInt - 1 ≤ 0 ∧ ((ret.toInt = 1 → ci σ0 165 (13 + 4 * a.toInt) ≠ -1) ∧ (ret.toInt = 0 → ci σ0 165 (13 + 4 * a.toInt) = -1))
set_option maxRecDepth 10000 in
set_option maxHeartbeats 4000000 in
theorem c_217x (σ0 : SG) (hσ0 : WT σ0) (a : Int32) (hl_a : 0 ≤ a.toInt) (hu_a : a.toInt ≤ 3) : En 0 0 none mr_217 (P_217x σ0 a) 0 [(0, .ref 159), (1, .int a)] [] σ0 := by
  have hF0 : Fr [] σ0 σ0 := Fr_rfl
  refine En_Ps 1 (pc' := 1) (lv' := [(0, .ref 159), (1, .int a)]) (st' := [.ref 159]) rfl ?_
  refine En_getU (j := 14) (u := 165) (g' := 41) (q := 0) rfl rfl rfl (by decide +kernel : TG 159 = 35) (by decide +kernel) hσ0 (by decide +kernel) (by decide +kernel) (fun h1 => ?_)
  refine En_Ps 4 (pc' := 9) (lv' := [(0, .ref 159), (1, .int a)]) (st' := [.int ((((Int32.ofInt 4)) * a)), .int (((Int8.ofInt 10).toInt32)), .ref 165]) rfl ?_
  refine En_top (mulI (by decide : (Int32.ofInt 4).toInt = 4) rfl (Z := 4 * a.toInt) (by omega) (by omega) (by omega)) (fun z3 h4 => ?_)
  refine En_Ps 1 (pc' := 10) (lv' := [(0, .ref 159), (1, .int a)]) (st' := [.int (((((Int8.ofInt 10).toInt32)) + z3)), .ref 165]) rfl ?_
  refine En_top (addI (by decide : ((Int8.ofInt 10).toInt32).toInt = 10) rfl (by omega) (by omega)) (fun z5 h6 => ?_)
  refine En_Ps 2 (pc' := 12) (lv' := [(0, .ref 159), (1, .int a)]) (st' := [.int ((z5 + ((Int32.ofInt 3)))), .ref 165]) rfl ?_
  refine En_top (addI rfl (by decide : (Int32.ofInt 3).toInt = 3) (by omega) (by omega)) (fun z7 h8 => ?_)
  refine En_iald (l := (-1)) (u := 3) rfl rfl (by decide +kernel : TG 165 = 41) (by decide +kernel) hσ0 (by omega) (lnI (by decide +kernel : LN _ = 226) (by omega)) (FTrow 41 13 4 4 (by decide +kernel) (by omega) (by omega) (by omega)) (fun z10 h9 h11 h12 => ?_)
  refine En_Ps 1 (pc' := 14) (lv' := [(0, .ref 159), (1, .int a)]) (st' := [.int ((Int32.ofInt (-1))), .int z10]) rfl ?_
  refine En_icEq _ rfl (by decide : (Int32.ofInt (-1)).toInt = -1) rfl (fun h13 => ?_) (fun h13 => ?_)
  · refine En_Ps 1 (pc' := 22) (lv' := [(0, .ref 159), (1, .int a)]) (st' := [.int ((Int32.ofInt 0))]) rfl ?_
    refine En_top (by decide : (Int32.ofInt 0).toInt = 0) (fun z14 h15 => ?_)
    exact En_ret (v := some (.int z14)) rfl rfl (retZ rfl rfl (by omega) (by omega)) ⟨hσ0, hF0, z14, rfl, ⟨by omega, by omega, (by have e1 := ci_at h9 (by omega : 13 + 4 * a.toInt = _); exact ⟨fun _ => by omega, fun _ => by omega⟩)⟩⟩
  · refine En_Ps 2 (pc' := 22) (lv' := [(0, .ref 159), (1, .int a)]) (st' := [.int ((Int32.ofInt 1))]) rfl ?_
    refine En_top (by decide : (Int32.ofInt 1).toInt = 1) (fun z16 h17 => ?_)
    exact En_ret (v := some (.int z16)) rfl rfl (retZ rfl rfl (by omega) (by omega)) ⟨hσ0, hF0, z16, rfl, ⟨by omega, by omega, (by have e1 := ci_at h9 (by omega : 13 + 4 * a.toInt = _); exact ⟨fun _ => by omega, fun _ => by omega⟩)⟩⟩

