/-- DoorSchoolModel.needs(Ljava/lang/String;)V -/
abbrev P_286s7x (σ0 : SG) (By : Int → Int) (Nb : Int) (Sp : PS) (f : Int32) (k : Int32) : PO := fun v σ => WT σ ∧ Fr [(35, 8), (35, 9), (35, 10), (35, 11), (35, 12), (35, 13)] σ0 σ ∧ ∃ f1 : Int32, (σ 159)[8]? = some (.int f1) ∧ ∃ k1 : Int32, (σ 159)[12]? = some (.int k1) ∧ v = none ∧ -f1.toInt ≤ 0 ∧ f1.toInt - 1600 ≤ 0 ∧ -f1.toInt + f.toInt ≤ 0 ∧ f1.toInt - f.toInt - 1600 ≤ 0 ∧ -f1.toInt + k.toInt - 3 ≤ 0 ∧ f1.toInt - k.toInt - 1600 ≤ 0 ∧ -k1.toInt ≤ 0 ∧ k1.toInt - 3 ≤ 0 ∧ -k1.toInt + f.toInt - 1600 ≤ 0 ∧ k1.toInt - f.toInt - 3 ≤ 0 ∧ -k1.toInt + k.toInt ≤ 0 ∧ k1.toInt - k.toInt - 3 ≤ 0 ∧ f.toInt - f1.toInt ≤ 0 ∧ Imp (k1.toInt ≤ 0) (k.toInt ≤ 0) ∧ ML By Nb σ (pss By Nb (iW By Nb 7 Sp) Sp)
set_option maxRecDepth 10000 in
set_option maxHeartbeats 4000000 in
theorem c_286s7x {By : Int → Int} {Nb : Int} {Sp : PS} (σ0 : SG) (hσ0 : WT σ0) (f : Int32) (h_f : (σ0 159)[8]? = some (.int f)) (k : Int32) (h_k : (σ0 159)[12]? = some (.int k)) (hM : ML By Nb σ0 Sp) : En 6 135 none mr_286 (P_286s7x σ0 By Nb Sp f k) 0 [(0, .ref 159), (1, .retAddr 15)] [] σ0 := by
  obtain ⟨hl_f, hu_f⟩ := WT_int hσ0 (g := 35) (by decide +kernel) (by decide +kernel) (l := 0) (u := 1600) (by decide +kernel) h_f
  obtain ⟨hl_k, hu_k⟩ := WT_int hσ0 (g := 35) (by decide +kernel) (by decide +kernel) (l := 0) (u := 3) (by decide +kernel) h_k
  have hF0 : Fr [(35, 8), (35, 9), (35, 10), (35, 11), (35, 12), (35, 13)] σ0 σ0 := Fr_rfl
  have h1 := ML_k hM h_k
  refine En_Ps 2 (pc' := 2) (lv' := [(0, .ref 159), (1, .retAddr 15)]) (st' := [.retAddr 15, .ref 159]) rfl ?_
  refine En_callV rfl rfl rfl rfl rfl rfl rfl rfl tgz_159 (by decide +kernel) rfl (c_318s7x σ0 hσ0 f h_f hM) (by decide) (by decide) (fun v3 σ4 h2 => ?_)
  obtain ⟨h5, h6, z8, h9, z10, rfl, h7⟩ := h2
  have h11 := h7.2.2.2.2.2.2.2
  have h12 := Fr_trans hF0 h6 (by decide +kernel)
  have h13 := h11.2.1
  refine En_iNe _ rfl rfl (fun h14 => ?_) (fun h14 => ?_)
  · have h15 : Sp.1 = 0 := iW_g (i := 7) (B := By) (n := Nb) (by omega)
    obtain ⟨S16, h17⟩ : ∃ q : PS, q = adv By Nb Sp := ⟨_, rfl⟩
    have h18 : ML By Nb σ4 S16 := by rw [h17]; exact h11.2.2 (by omega)
    have h19 := ML_k h18 ((h6 _ _ (inW tgz_159 (by decide +kernel))).trans h_k)
    have h20 : S16.2.2.2 = Sp.2.2.2 := by rw [h17]; exact adv_w
    have h21 : S16.1 = 0 := by rw [h17, adv_1]; exact h15
    exact En_ret (v := none) rfl rfl rfl ⟨h5, h12, z8, h9, k, ((h6 _ _ (inW tgz_159 (by decide +kernel))).trans h_k), rfl, ⟨by omega, by omega, by omega, by omega, by omega, by omega, by omega, by omega, by omega, by omega, by omega, by omega, by omega, fun _ => by omega, ML_eq h18 (by subst h17; unfold pss; first | done | rfl | ((repeat' split) <;> first | rfl | (exfalso; omega) | (exfalso; omega)))⟩⟩
  · obtain rfl : σ0 = σ4 := h11.1 (by omega)
    refine En_Ps 2 (pc' := 10) (lv' := [(0, .ref 159), (1, .retAddr 15)]) (st' := [.int ((Int32.ofInt 1)), .ref 159]) rfl ?_
    have := (by decide : ((Int32.ofInt 1)).toInt = 1)
    refine En_callV rfl rfl rfl rfl rfl rfl rfl rfl tgz_159 (by decide +kernel) rfl (c_223x σ0 hσ0 ((Int32.ofInt 1)) (geI (by decide : (Int32.ofInt 1).toInt = 1) (by omega)) (leI (by decide : (Int32.ofInt 1).toInt = 1) (by omega)) k h_k hM) (by decide) (by decide) (fun v23 σ24 h22 => ?_)
    obtain ⟨h25, h26, z28, h29, rfl, h27⟩ := h22
    have h30 := h27.2.2.2.2.2
    have h31 := Fr_trans hF0 h26 (by decide +kernel)
    obtain ⟨S32, h33⟩ : ∃ q : PS, q = err By Nb 1 Sp := ⟨_, rfl⟩
    have h34 : ML By Nb σ24 S32 := by rw [h33]; exact (ML_eq h30 (err_cg (by omega)))
    have h35 := ML_k h34 h29
    have h36 : S32.2.2.2 = Sp.2.2.2 := by rw [h33]; exact err_w
    exact En_ret (v := none) rfl rfl rfl ⟨h25, h31, f, ((h26 _ _ (inW tgz_159 (by decide +kernel))).trans h_f), z28, h29, rfl, ⟨by omega, by omega, by omega, by omega, by omega, by omega, by omega, by omega, by omega, by omega, by omega, by omega, by omega, fun _ => by omega, ML_eq h34 (by subst h33; unfold pss; first | done | rfl | ((repeat' split) <;> first | rfl | (exfalso; omega) | (exfalso; omega)))⟩⟩
/-- DoorSchoolModel.needs(Ljava/lang/String;)V -/
abbrev P_286s10x (σ0 : SG) (By : Int → Int) (Nb : Int) (Sp : PS) (f : Int32) (k : Int32) : PO := fun v σ => WT σ ∧ Fr [(35, 8), (35, 9), (35, 10), (35, 11), (35, 12), (35, 13)] σ0 σ ∧ ∃ f1 : Int32, (σ 159)[8]? = some (.int f1) ∧ ∃ k1 : Int32, (σ 159)[12]? = some (.int k1) ∧ v = none ∧ -f1.toInt ≤ 0 ∧ f1.toInt - 1600 ≤ 0 ∧ -f1.toInt + f.toInt ≤ 0 ∧ f1.toInt - f.toInt - 1600 ≤ 0 ∧ -f1.toInt + k.toInt - 3 ≤ 0 ∧ f1.toInt - k.toInt - 1600 ≤ 0 ∧ -k1.toInt ≤ 0 ∧ k1.toInt - 3 ≤ 0 ∧ -k1.toInt + f.toInt - 1600 ≤ 0 ∧ k1.toInt - f.toInt - 3 ≤ 0 ∧ -k1.toInt + k.toInt ≤ 0 ∧ k1.toInt - k.toInt - 3 ≤ 0 ∧ f.toInt - f1.toInt ≤ 0 ∧ Imp (k1.toInt ≤ 0) (k.toInt ≤ 0) ∧ ML By Nb σ (pss By Nb (iW By Nb 10 Sp) Sp)
set_option maxRecDepth 10000 in
set_option maxHeartbeats 4000000 in
theorem c_286s10x {By : Int → Int} {Nb : Int} {Sp : PS} (σ0 : SG) (hσ0 : WT σ0) (f : Int32) (h_f : (σ0 159)[8]? = some (.int f)) (k : Int32) (h_k : (σ0 159)[12]? = some (.int k)) (hM : ML By Nb σ0 Sp) : En 6 135 none mr_286 (P_286s10x σ0 By Nb Sp f k) 0 [(0, .ref 159), (1, .retAddr 21)] [] σ0 := by
  obtain ⟨hl_f, hu_f⟩ := WT_int hσ0 (g := 35) (by decide +kernel) (by decide +kernel) (l := 0) (u := 1600) (by decide +kernel) h_f
  obtain ⟨hl_k, hu_k⟩ := WT_int hσ0 (g := 35) (by decide +kernel) (by decide +kernel) (l := 0) (u := 3) (by decide +kernel) h_k
  have hF0 : Fr [(35, 8), (35, 9), (35, 10), (35, 11), (35, 12), (35, 13)] σ0 σ0 := Fr_rfl
  have h1 := ML_k hM h_k
  refine En_Ps 2 (pc' := 2) (lv' := [(0, .ref 159), (1, .retAddr 21)]) (st' := [.retAddr 21, .ref 159]) rfl ?_
  refine En_callV rfl rfl rfl rfl rfl rfl rfl rfl tgz_159 (by decide +kernel) rfl (c_318s10x σ0 hσ0 f h_f hM) (by decide) (by decide) (fun v3 σ4 h2 => ?_)
  obtain ⟨h5, h6, z8, h9, z10, rfl, h7⟩ := h2
  have h11 := h7.2.2.2.2.2.2.2
  have h12 := Fr_trans hF0 h6 (by decide +kernel)
  have h13 := h11.2.1
  refine En_iNe _ rfl rfl (fun h14 => ?_) (fun h14 => ?_)
  · have h15 : Sp.1 = 0 := iW_g (i := 10) (B := By) (n := Nb) (by omega)
    obtain ⟨S16, h17⟩ : ∃ q : PS, q = adv By Nb Sp := ⟨_, rfl⟩
    have h18 : ML By Nb σ4 S16 := by rw [h17]; exact h11.2.2 (by omega)
    have h19 := ML_k h18 ((h6 _ _ (inW tgz_159 (by decide +kernel))).trans h_k)
    have h20 : S16.2.2.2 = Sp.2.2.2 := by rw [h17]; exact adv_w
    have h21 : S16.1 = 0 := by rw [h17, adv_1]; exact h15
    exact En_ret (v := none) rfl rfl rfl ⟨h5, h12, z8, h9, k, ((h6 _ _ (inW tgz_159 (by decide +kernel))).trans h_k), rfl, ⟨by omega, by omega, by omega, by omega, by omega, by omega, by omega, by omega, by omega, by omega, by omega, by omega, by omega, fun _ => by omega, ML_eq h18 (by subst h17; unfold pss; first | done | rfl | ((repeat' split) <;> first | rfl | (exfalso; omega) | (exfalso; omega)))⟩⟩
  · obtain rfl : σ0 = σ4 := h11.1 (by omega)
    refine En_Ps 2 (pc' := 10) (lv' := [(0, .ref 159), (1, .retAddr 21)]) (st' := [.int ((Int32.ofInt 1)), .ref 159]) rfl ?_
    have := (by decide : ((Int32.ofInt 1)).toInt = 1)
    refine En_callV rfl rfl rfl rfl rfl rfl rfl rfl tgz_159 (by decide +kernel) rfl (c_223x σ0 hσ0 ((Int32.ofInt 1)) (geI (by decide : (Int32.ofInt 1).toInt = 1) (by omega)) (leI (by decide : (Int32.ofInt 1).toInt = 1) (by omega)) k h_k hM) (by decide) (by decide) (fun v23 σ24 h22 => ?_)
    obtain ⟨h25, h26, z28, h29, rfl, h27⟩ := h22
    have h30 := h27.2.2.2.2.2
    have h31 := Fr_trans hF0 h26 (by decide +kernel)
    obtain ⟨S32, h33⟩ : ∃ q : PS, q = err By Nb 1 Sp := ⟨_, rfl⟩
    have h34 : ML By Nb σ24 S32 := by rw [h33]; exact (ML_eq h30 (err_cg (by omega)))
    have h35 := ML_k h34 h29
    have h36 : S32.2.2.2 = Sp.2.2.2 := by rw [h33]; exact err_w
    exact En_ret (v := none) rfl rfl rfl ⟨h25, h31, f, ((h26 _ _ (inW tgz_159 (by decide +kernel))).trans h_f), z28, h29, rfl, ⟨by omega, by omega, by omega, by omega, by omega, by omega, by omega, by omega, by omega, by omega, by omega, by omega, by omega, fun _ => by omega, ML_eq h34 (by subst h33; unfold pss; first | done | rfl | ((repeat' split) <;> first | rfl | (exfalso; omega) | (exfalso; omega)))⟩⟩
/-- DoorSchoolModel.needs(Ljava/lang/String;)V -/
abbrev P_286s12x (σ0 : SG) (By : Int → Int) (Nb : Int) (Sp : PS) (f : Int32) (k : Int32) : PO := fun v σ => WT σ ∧ Fr [(35, 8), (35, 9), (35, 10), (35, 11), (35, 12), (35, 13)] σ0 σ ∧ ∃ f1 : Int32, (σ 159)[8]? = some (.int f1) ∧ ∃ k1 : Int32, (σ 159)[12]? = some (.int k1) ∧ v = none ∧ -f1.toInt ≤ 0 ∧ f1.toInt - 1600 ≤ 0 ∧ -f1.toInt + f.toInt ≤ 0 ∧ f1.toInt - f.toInt - 1600 ≤ 0 ∧ -f1.toInt + k.toInt - 3 ≤ 0 ∧ f1.toInt - k.toInt - 1600 ≤ 0 ∧ -k1.toInt ≤ 0 ∧ k1.toInt - 3 ≤ 0 ∧ -k1.toInt + f.toInt - 1600 ≤ 0 ∧ k1.toInt - f.toInt - 3 ≤ 0 ∧ -k1.toInt + k.toInt ≤ 0 ∧ k1.toInt - k.toInt - 3 ≤ 0 ∧ f.toInt - f1.toInt ≤ 0 ∧ Imp (k1.toInt ≤ 0) (k.toInt ≤ 0) ∧ ML By Nb σ (pss By Nb (iW By Nb 12 Sp) Sp)
set_option maxRecDepth 10000 in
set_option maxHeartbeats 4000000 in
theorem c_286s12x {By : Int → Int} {Nb : Int} {Sp : PS} (σ0 : SG) (hσ0 : WT σ0) (f : Int32) (h_f : (σ0 159)[8]? = some (.int f)) (k : Int32) (h_k : (σ0 159)[12]? = some (.int k)) (hM : ML By Nb σ0 Sp) : En 6 135 none mr_286 (P_286s12x σ0 By Nb Sp f k) 0 [(0, .ref 159), (1, .retAddr 25)] [] σ0 := by
  obtain ⟨hl_f, hu_f⟩ := WT_int hσ0 (g := 35) (by decide +kernel) (by decide +kernel) (l := 0) (u := 1600) (by decide +kernel) h_f
  obtain ⟨hl_k, hu_k⟩ := WT_int hσ0 (g := 35) (by decide +kernel) (by decide +kernel) (l := 0) (u := 3) (by decide +kernel) h_k
  have hF0 : Fr [(35, 8), (35, 9), (35, 10), (35, 11), (35, 12), (35, 13)] σ0 σ0 := Fr_rfl
  have h1 := ML_k hM h_k
  refine En_Ps 2 (pc' := 2) (lv' := [(0, .ref 159), (1, .retAddr 25)]) (st' := [.retAddr 25, .ref 159]) rfl ?_
  refine En_callV rfl rfl rfl rfl rfl rfl rfl rfl tgz_159 (by decide +kernel) rfl (c_318s12x σ0 hσ0 f h_f hM) (by decide) (by decide) (fun v3 σ4 h2 => ?_)
  obtain ⟨h5, h6, z8, h9, z10, rfl, h7⟩ := h2
  have h11 := h7.2.2.2.2.2.2.2
  have h12 := Fr_trans hF0 h6 (by decide +kernel)
  have h13 := h11.2.1
  refine En_iNe _ rfl rfl (fun h14 => ?_) (fun h14 => ?_)
  · have h15 : Sp.1 = 0 := iW_g (i := 12) (B := By) (n := Nb) (by omega)
    obtain ⟨S16, h17⟩ : ∃ q : PS, q = adv By Nb Sp := ⟨_, rfl⟩
    have h18 : ML By Nb σ4 S16 := by rw [h17]; exact h11.2.2 (by omega)
    have h19 := ML_k h18 ((h6 _ _ (inW tgz_159 (by decide +kernel))).trans h_k)
    have h20 : S16.2.2.2 = Sp.2.2.2 := by rw [h17]; exact adv_w
    have h21 : S16.1 = 0 := by rw [h17, adv_1]; exact h15
    exact En_ret (v := none) rfl rfl rfl ⟨h5, h12, z8, h9, k, ((h6 _ _ (inW tgz_159 (by decide +kernel))).trans h_k), rfl, ⟨by omega, by omega, by omega, by omega, by omega, by omega, by omega, by omega, by omega, by omega, by omega, by omega, by omega, fun _ => by omega, ML_eq h18 (by subst h17; unfold pss; first | done | rfl | ((repeat' split) <;> first | rfl | (exfalso; omega) | (exfalso; omega)))⟩⟩
  · obtain rfl : σ0 = σ4 := h11.1 (by omega)
    refine En_Ps 2 (pc' := 10) (lv' := [(0, .ref 159), (1, .retAddr 25)]) (st' := [.int ((Int32.ofInt 1)), .ref 159]) rfl ?_
    have := (by decide : ((Int32.ofInt 1)).toInt = 1)
    refine En_callV rfl rfl rfl rfl rfl rfl rfl rfl tgz_159 (by decide +kernel) rfl (c_223x σ0 hσ0 ((Int32.ofInt 1)) (geI (by decide : (Int32.ofInt 1).toInt = 1) (by omega)) (leI (by decide : (Int32.ofInt 1).toInt = 1) (by omega)) k h_k hM) (by decide) (by decide) (fun v23 σ24 h22 => ?_)
    obtain ⟨h25, h26, z28, h29, rfl, h27⟩ := h22
    have h30 := h27.2.2.2.2.2
    have h31 := Fr_trans hF0 h26 (by decide +kernel)
    obtain ⟨S32, h33⟩ : ∃ q : PS, q = err By Nb 1 Sp := ⟨_, rfl⟩
    have h34 : ML By Nb σ24 S32 := by rw [h33]; exact (ML_eq h30 (err_cg (by omega)))
    have h35 := ML_k h34 h29
    have h36 : S32.2.2.2 = Sp.2.2.2 := by rw [h33]; exact err_w
    exact En_ret (v := none) rfl rfl rfl ⟨h25, h31, f, ((h26 _ _ (inW tgz_159 (by decide +kernel))).trans h_f), z28, h29, rfl, ⟨by omega, by omega, by omega, by omega, by omega, by omega, by omega, by omega, by omega, by omega, by omega, by omega, by omega, fun _ => by omega, ML_eq h34 (by subst h33; unfold pss; first | done | rfl | ((repeat' split) <;> first | rfl | (exfalso; omega) | (exfalso; omega)))⟩⟩
/-- DoorSchoolModel.needs(Ljava/lang/String;)V -/
abbrev P_286s13x (σ0 : SG) (By : Int → Int) (Nb : Int) (Sp : PS) (f : Int32) (k : Int32) : PO := fun v σ => WT σ ∧ Fr [(35, 8), (35, 9), (35, 10), (35, 11), (35, 12), (35, 13)] σ0 σ ∧ ∃ f1 : Int32, (σ 159)[8]? = some (.int f1) ∧ ∃ k1 : Int32, (σ 159)[12]? = some (.int k1) ∧ v = none ∧ -f1.toInt ≤ 0 ∧ f1.toInt - 1600 ≤ 0 ∧ -f1.toInt + f.toInt ≤ 0 ∧ f1.toInt - f.toInt - 1600 ≤ 0 ∧ -f1.toInt + k.toInt - 3 ≤ 0 ∧ f1.toInt - k.toInt - 1600 ≤ 0 ∧ -k1.toInt ≤ 0 ∧ k1.toInt - 3 ≤ 0 ∧ -k1.toInt + f.toInt - 1600 ≤ 0 ∧ k1.toInt - f.toInt - 3 ≤ 0 ∧ -k1.toInt + k.toInt ≤ 0 ∧ k1.toInt - k.toInt - 3 ≤ 0 ∧ f.toInt - f1.toInt ≤ 0 ∧ Imp (k1.toInt ≤ 0) (k.toInt ≤ 0) ∧ ML By Nb σ (pss By Nb (iW By Nb 13 Sp) Sp)
set_option maxRecDepth 10000 in
set_option maxHeartbeats 4000000 in
theorem c_286s13x {By : Int → Int} {Nb : Int} {Sp : PS} (σ0 : SG) (hσ0 : WT σ0) (f : Int32) (h_f : (σ0 159)[8]? = some (.int f)) (k : Int32) (h_k : (σ0 159)[12]? = some (.int k)) (hM : ML By Nb σ0 Sp) : En 6 135 none mr_286 (P_286s13x σ0 By Nb Sp f k) 0 [(0, .ref 159), (1, .retAddr 27)] [] σ0 := by
  obtain ⟨hl_f, hu_f⟩ := WT_int hσ0 (g := 35) (by decide +kernel) (by decide +kernel) (l := 0) (u := 1600) (by decide +kernel) h_f
  obtain ⟨hl_k, hu_k⟩ := WT_int hσ0 (g := 35) (by decide +kernel) (by decide +kernel) (l := 0) (u := 3) (by decide +kernel) h_k
  have hF0 : Fr [(35, 8), (35, 9), (35, 10), (35, 11), (35, 12), (35, 13)] σ0 σ0 := Fr_rfl
  have h1 := ML_k hM h_k
  refine En_Ps 2 (pc' := 2) (lv' := [(0, .ref 159), (1, .retAddr 27)]) (st' := [.retAddr 27, .ref 159]) rfl ?_
  refine En_callV rfl rfl rfl rfl rfl rfl rfl rfl tgz_159 (by decide +kernel) rfl (c_318s13x σ0 hσ0 f h_f hM) (by decide) (by decide) (fun v3 σ4 h2 => ?_)
  obtain ⟨h5, h6, z8, h9, z10, rfl, h7⟩ := h2
  have h11 := h7.2.2.2.2.2.2.2
  have h12 := Fr_trans hF0 h6 (by decide +kernel)
  have h13 := h11.2.1
  refine En_iNe _ rfl rfl (fun h14 => ?_) (fun h14 => ?_)
  · have h15 : Sp.1 = 0 := iW_g (i := 13) (B := By) (n := Nb) (by omega)
    obtain ⟨S16, h17⟩ : ∃ q : PS, q = adv By Nb Sp := ⟨_, rfl⟩
    have h18 : ML By Nb σ4 S16 := by rw [h17]; exact h11.2.2 (by omega)
    have h19 := ML_k h18 ((h6 _ _ (inW tgz_159 (by decide +kernel))).trans h_k)
    have h20 : S16.2.2.2 = Sp.2.2.2 := by rw [h17]; exact adv_w
    have h21 : S16.1 = 0 := by rw [h17, adv_1]; exact h15
    exact En_ret (v := none) rfl rfl rfl ⟨h5, h12, z8, h9, k, ((h6 _ _ (inW tgz_159 (by decide +kernel))).trans h_k), rfl, ⟨by omega, by omega, by omega, by omega, by omega, by omega, by omega, by omega, by omega, by omega, by omega, by omega, by omega, fun _ => by omega, ML_eq h18 (by subst h17; unfold pss; first | done | rfl | ((repeat' split) <;> first | rfl | (exfalso; omega) | (exfalso; omega)))⟩⟩
  · obtain rfl : σ0 = σ4 := h11.1 (by omega)
    refine En_Ps 2 (pc' := 10) (lv' := [(0, .ref 159), (1, .retAddr 27)]) (st' := [.int ((Int32.ofInt 1)), .ref 159]) rfl ?_
    have := (by decide : ((Int32.ofInt 1)).toInt = 1)
    refine En_callV rfl rfl rfl rfl rfl rfl rfl rfl tgz_159 (by decide +kernel) rfl (c_223x σ0 hσ0 ((Int32.ofInt 1)) (geI (by decide : (Int32.ofInt 1).toInt = 1) (by omega)) (leI (by decide : (Int32.ofInt 1).toInt = 1) (by omega)) k h_k hM) (by decide) (by decide) (fun v23 σ24 h22 => ?_)
    obtain ⟨h25, h26, z28, h29, rfl, h27⟩ := h22
    have h30 := h27.2.2.2.2.2
    have h31 := Fr_trans hF0 h26 (by decide +kernel)
    obtain ⟨S32, h33⟩ : ∃ q : PS, q = err By Nb 1 Sp := ⟨_, rfl⟩
    have h34 : ML By Nb σ24 S32 := by rw [h33]; exact (ML_eq h30 (err_cg (by omega)))
    have h35 := ML_k h34 h29
    have h36 : S32.2.2.2 = Sp.2.2.2 := by rw [h33]; exact err_w
    exact En_ret (v := none) rfl rfl rfl ⟨h25, h31, f, ((h26 _ _ (inW tgz_159 (by decide +kernel))).trans h_f), z28, h29, rfl, ⟨by omega, by omega, by omega, by omega, by omega, by omega, by omega, by omega, by omega, by omega, by omega, by omega, by omega, fun _ => by omega, ML_eq h34 (by subst h33; unfold pss; first | done | rfl | ((repeat' split) <;> first | rfl | (exfalso; omega) | (exfalso; omega)))⟩⟩
/-- DoorSchoolModel.needs(Ljava/lang/String;)V -/
abbrev P_286s14x (σ0 : SG) (By : Int → Int) (Nb : Int) (Sp : PS) (f : Int32) (k : Int32) : PO := fun v σ => WT σ ∧ Fr [(35, 8), (35, 9), (35, 10), (35, 11), (35, 12), (35, 13)] σ0 σ ∧ ∃ f1 : Int32, (σ 159)[8]? = some (.int f1) ∧ ∃ k1 : Int32, (σ 159)[12]? = some (.int k1) ∧ v = none ∧ -f1.toInt ≤ 0 ∧ f1.toInt - 1600 ≤ 0 ∧ -f1.toInt + f.toInt ≤ 0 ∧ f1.toInt - f.toInt - 1600 ≤ 0 ∧ -f1.toInt + k.toInt - 3 ≤ 0 ∧ f1.toInt - k.toInt - 1600 ≤ 0 ∧ -k1.toInt ≤ 0 ∧ k1.toInt - 3 ≤ 0 ∧ -k1.toInt + f.toInt - 1600 ≤ 0 ∧ k1.toInt - f.toInt - 3 ≤ 0 ∧ -k1.toInt + k.toInt ≤ 0 ∧ k1.toInt - k.toInt - 3 ≤ 0 ∧ f.toInt - f1.toInt ≤ 0 ∧ Imp (k1.toInt ≤ 0) (k.toInt ≤ 0) ∧ ML By Nb σ (pss By Nb (iW By Nb 14 Sp) Sp)
set_option maxRecDepth 10000 in
set_option maxHeartbeats 4000000 in
theorem c_286s14x {By : Int → Int} {Nb : Int} {Sp : PS} (σ0 : SG) (hσ0 : WT σ0) (f : Int32) (h_f : (σ0 159)[8]? = some (.int f)) (k : Int32) (h_k : (σ0 159)[12]? = some (.int k)) (hM : ML By Nb σ0 Sp) : En 6 135 none mr_286 (P_286s14x σ0 By Nb Sp f k) 0 [(0, .ref 159), (1, .retAddr 29)] [] σ0 := by
  obtain ⟨hl_f, hu_f⟩ := WT_int hσ0 (g := 35) (by decide +kernel) (by decide +kernel) (l := 0) (u := 1600) (by decide +kernel) h_f
  obtain ⟨hl_k, hu_k⟩ := WT_int hσ0 (g := 35) (by decide +kernel) (by decide +kernel) (l := 0) (u := 3) (by decide +kernel) h_k
  have hF0 : Fr [(35, 8), (35, 9), (35, 10), (35, 11), (35, 12), (35, 13)] σ0 σ0 := Fr_rfl
  have h1 := ML_k hM h_k
  refine En_Ps 2 (pc' := 2) (lv' := [(0, .ref 159), (1, .retAddr 29)]) (st' := [.retAddr 29, .ref 159]) rfl ?_
  refine En_callV rfl rfl rfl rfl rfl rfl rfl rfl tgz_159 (by decide +kernel) rfl (c_318s14x σ0 hσ0 f h_f hM) (by decide) (by decide) (fun v3 σ4 h2 => ?_)
  obtain ⟨h5, h6, z8, h9, z10, rfl, h7⟩ := h2
  have h11 := h7.2.2.2.2.2.2.2
  have h12 := Fr_trans hF0 h6 (by decide +kernel)
  have h13 := h11.2.1
  refine En_iNe _ rfl rfl (fun h14 => ?_) (fun h14 => ?_)
  · have h15 : Sp.1 = 0 := iW_g (i := 14) (B := By) (n := Nb) (by omega)
    obtain ⟨S16, h17⟩ : ∃ q : PS, q = adv By Nb Sp := ⟨_, rfl⟩
    have h18 : ML By Nb σ4 S16 := by rw [h17]; exact h11.2.2 (by omega)
    have h19 := ML_k h18 ((h6 _ _ (inW tgz_159 (by decide +kernel))).trans h_k)
    have h20 : S16.2.2.2 = Sp.2.2.2 := by rw [h17]; exact adv_w
    have h21 : S16.1 = 0 := by rw [h17, adv_1]; exact h15
    exact En_ret (v := none) rfl rfl rfl ⟨h5, h12, z8, h9, k, ((h6 _ _ (inW tgz_159 (by decide +kernel))).trans h_k), rfl, ⟨by omega, by omega, by omega, by omega, by omega, by omega, by omega, by omega, by omega, by omega, by omega, by omega, by omega, fun _ => by omega, ML_eq h18 (by subst h17; unfold pss; first | done | rfl | ((repeat' split) <;> first | rfl | (exfalso; omega) | (exfalso; omega)))⟩⟩
  · obtain rfl : σ0 = σ4 := h11.1 (by omega)
    refine En_Ps 2 (pc' := 10) (lv' := [(0, .ref 159), (1, .retAddr 29)]) (st' := [.int ((Int32.ofInt 1)), .ref 159]) rfl ?_
    have := (by decide : ((Int32.ofInt 1)).toInt = 1)
    refine En_callV rfl rfl rfl rfl rfl rfl rfl rfl tgz_159 (by decide +kernel) rfl (c_223x σ0 hσ0 ((Int32.ofInt 1)) (geI (by decide : (Int32.ofInt 1).toInt = 1) (by omega)) (leI (by decide : (Int32.ofInt 1).toInt = 1) (by omega)) k h_k hM) (by decide) (by decide) (fun v23 σ24 h22 => ?_)
    obtain ⟨h25, h26, z28, h29, rfl, h27⟩ := h22
    have h30 := h27.2.2.2.2.2
    have h31 := Fr_trans hF0 h26 (by decide +kernel)
    obtain ⟨S32, h33⟩ : ∃ q : PS, q = err By Nb 1 Sp := ⟨_, rfl⟩
    have h34 : ML By Nb σ24 S32 := by rw [h33]; exact (ML_eq h30 (err_cg (by omega)))
    have h35 := ML_k h34 h29
    have h36 : S32.2.2.2 = Sp.2.2.2 := by rw [h33]; exact err_w
    exact En_ret (v := none) rfl rfl rfl ⟨h25, h31, f, ((h26 _ _ (inW tgz_159 (by decide +kernel))).trans h_f), z28, h29, rfl, ⟨by omega, by omega, by omega, by omega, by omega, by omega, by omega, by omega, by omega, by omega, by omega, by omega, by omega, fun _ => by omega, ML_eq h34 (by subst h33; unfold pss; first | done | rfl | ((repeat' split) <;> first | rfl | (exfalso; omega) | (exfalso; omega)))⟩⟩
/-- DoorSchoolModel.needs(Ljava/lang/String;)V -/
abbrev P_286s15x (σ0 : SG) (By : Int → Int) (Nb : Int) (Sp : PS) (f : Int32) (k : Int32) : PO := fun v σ => WT σ ∧ Fr [(35, 8), (35, 9), (35, 10), (35, 11), (35, 12), (35, 13)] σ0 σ ∧ ∃ f1 : Int32, (σ 159)[8]? = some (.int f1) ∧ ∃ k1 : Int32, (σ 159)[12]? = some (.int k1) ∧ v = none ∧ -f1.toInt ≤ 0 ∧ f1.toInt - 1600 ≤ 0 ∧ -f1.toInt + f.toInt ≤ 0 ∧ f1.toInt - f.toInt - 1600 ≤ 0 ∧ -f1.toInt + k.toInt - 3 ≤ 0 ∧ f1.toInt - k.toInt - 1600 ≤ 0 ∧ -k1.toInt ≤ 0 ∧ k1.toInt - 3 ≤ 0 ∧ -k1.toInt + f.toInt - 1600 ≤ 0 ∧ k1.toInt - f.toInt - 3 ≤ 0 ∧ -k1.toInt + k.toInt ≤ 0 ∧ k1.toInt - k.toInt - 3 ≤ 0 ∧ f.toInt - f1.toInt ≤ 0 ∧ Imp (k1.toInt ≤ 0) (k.toInt ≤ 0) ∧ ML By Nb σ (pss By Nb (iW By Nb 15 Sp) Sp)
set_option maxRecDepth 10000 in
set_option maxHeartbeats 4000000 in
theorem c_286s15x {By : Int → Int} {Nb : Int} {Sp : PS} (σ0 : SG) (hσ0 : WT σ0) (f : Int32) (h_f : (σ0 159)[8]? = some (.int f)) (k : Int32) (h_k : (σ0 159)[12]? = some (.int k)) (hM : ML By Nb σ0 Sp) : En 6 135 none mr_286 (P_286s15x σ0 By Nb Sp f k) 0 [(0, .ref 159), (1, .retAddr 31)] [] σ0 := by
  obtain ⟨hl_f, hu_f⟩ := WT_int hσ0 (g := 35) (by decide +kernel) (by decide +kernel) (l := 0) (u := 1600) (by decide +kernel) h_f
  obtain ⟨hl_k, hu_k⟩ := WT_int hσ0 (g := 35) (by decide +kernel) (by decide +kernel) (l := 0) (u := 3) (by decide +kernel) h_k
  have hF0 : Fr [(35, 8), (35, 9), (35, 10), (35, 11), (35, 12), (35, 13)] σ0 σ0 := Fr_rfl
  have h1 := ML_k hM h_k
  refine En_Ps 2 (pc' := 2) (lv' := [(0, .ref 159), (1, .retAddr 31)]) (st' := [.retAddr 31, .ref 159]) rfl ?_
  refine En_callV rfl rfl rfl rfl rfl rfl rfl rfl tgz_159 (by decide +kernel) rfl (c_318s15x σ0 hσ0 f h_f hM) (by decide) (by decide) (fun v3 σ4 h2 => ?_)
  obtain ⟨h5, h6, z8, h9, z10, rfl, h7⟩ := h2
  have h11 := h7.2.2.2.2.2.2.2
  have h12 := Fr_trans hF0 h6 (by decide +kernel)
  have h13 := h11.2.1
  refine En_iNe _ rfl rfl (fun h14 => ?_) (fun h14 => ?_)
  · have h15 : Sp.1 = 0 := iW_g (i := 15) (B := By) (n := Nb) (by omega)
    obtain ⟨S16, h17⟩ : ∃ q : PS, q = adv By Nb Sp := ⟨_, rfl⟩
    have h18 : ML By Nb σ4 S16 := by rw [h17]; exact h11.2.2 (by omega)
    have h19 := ML_k h18 ((h6 _ _ (inW tgz_159 (by decide +kernel))).trans h_k)
    have h20 : S16.2.2.2 = Sp.2.2.2 := by rw [h17]; exact adv_w
    have h21 : S16.1 = 0 := by rw [h17, adv_1]; exact h15
    exact En_ret (v := none) rfl rfl rfl ⟨h5, h12, z8, h9, k, ((h6 _ _ (inW tgz_159 (by decide +kernel))).trans h_k), rfl, ⟨by omega, by omega, by omega, by omega, by omega, by omega, by omega, by omega, by omega, by omega, by omega, by omega, by omega, fun _ => by omega, ML_eq h18 (by subst h17; unfold pss; first | done | rfl | ((repeat' split) <;> first | rfl | (exfalso; omega) | (exfalso; omega)))⟩⟩
  · obtain rfl : σ0 = σ4 := h11.1 (by omega)
    refine En_Ps 2 (pc' := 10) (lv' := [(0, .ref 159), (1, .retAddr 31)]) (st' := [.int ((Int32.ofInt 1)), .ref 159]) rfl ?_
    have := (by decide : ((Int32.ofInt 1)).toInt = 1)
    refine En_callV rfl rfl rfl rfl rfl rfl rfl rfl tgz_159 (by decide +kernel) rfl (c_223x σ0 hσ0 ((Int32.ofInt 1)) (geI (by decide : (Int32.ofInt 1).toInt = 1) (by omega)) (leI (by decide : (Int32.ofInt 1).toInt = 1) (by omega)) k h_k hM) (by decide) (by decide) (fun v23 σ24 h22 => ?_)
    obtain ⟨h25, h26, z28, h29, rfl, h27⟩ := h22
    have h30 := h27.2.2.2.2.2
    have h31 := Fr_trans hF0 h26 (by decide +kernel)
    obtain ⟨S32, h33⟩ : ∃ q : PS, q = err By Nb 1 Sp := ⟨_, rfl⟩
    have h34 : ML By Nb σ24 S32 := by rw [h33]; exact (ML_eq h30 (err_cg (by omega)))
    have h35 := ML_k h34 h29
    have h36 : S32.2.2.2 = Sp.2.2.2 := by rw [h33]; exact err_w
    exact En_ret (v := none) rfl rfl rfl ⟨h25, h31, f, ((h26 _ _ (inW tgz_159 (by decide +kernel))).trans h_f), z28, h29, rfl, ⟨by omega, by omega, by omega, by omega, by omega, by omega, by omega, by omega, by omega, by omega, by omega, by omega, by omega, fun _ => by omega, ML_eq h34 (by subst h33; unfold pss; first | done | rfl | ((repeat' split) <;> first | rfl | (exfalso; omega) | (exfalso; omega)))⟩⟩
/-- DoorSchoolModel.needs(Ljava/lang/String;)V -/
abbrev P_286s16x (σ0 : SG) (By : Int → Int) (Nb : Int) (Sp : PS) (f : Int32) (k : Int32) : PO := fun v σ => WT σ ∧ Fr [(35, 8), (35, 9), (35, 10), (35, 11), (35, 12), (35, 13)] σ0 σ ∧ ∃ f1 : Int32, (σ 159)[8]? = some (.int f1) ∧ ∃ k1 : Int32, (σ 159)[12]? = some (.int k1) ∧ v = none ∧ -f1.toInt ≤ 0 ∧ f1.toInt - 1600 ≤ 0 ∧ -f1.toInt + f.toInt ≤ 0 ∧ f1.toInt - f.toInt - 1600 ≤ 0 ∧ -f1.toInt + k.toInt - 3 ≤ 0 ∧ f1.toInt - k.toInt - 1600 ≤ 0 ∧ -k1.toInt ≤ 0 ∧ k1.toInt - 3 ≤ 0 ∧ -k1.toInt + f.toInt - 1600 ≤ 0 ∧ k1.toInt - f.toInt - 3 ≤ 0 ∧ -k1.toInt + k.toInt ≤ 0 ∧ k1.toInt - k.toInt - 3 ≤ 0 ∧ f.toInt - f1.toInt ≤ 0 ∧ Imp (k1.toInt ≤ 0) (k.toInt ≤ 0) ∧ ML By Nb σ (pss By Nb (iW By Nb 16 Sp) Sp)
set_option maxRecDepth 10000 in
set_option maxHeartbeats 4000000 in
theorem c_286s16x {By : Int → Int} {Nb : Int} {Sp : PS} (σ0 : SG) (hσ0 : WT σ0) (f : Int32) (h_f : (σ0 159)[8]? = some (.int f)) (k : Int32) (h_k : (σ0 159)[12]? = some (.int k)) (hM : ML By Nb σ0 Sp) : En 6 135 none mr_286 (P_286s16x σ0 By Nb Sp f k) 0 [(0, .ref 159), (1, .retAddr 33)] [] σ0 := by
  obtain ⟨hl_f, hu_f⟩ := WT_int hσ0 (g := 35) (by decide +kernel) (by decide +kernel) (l := 0) (u := 1600) (by decide +kernel) h_f
  obtain ⟨hl_k, hu_k⟩ := WT_int hσ0 (g := 35) (by decide +kernel) (by decide +kernel) (l := 0) (u := 3) (by decide +kernel) h_k
  have hF0 : Fr [(35, 8), (35, 9), (35, 10), (35, 11), (35, 12), (35, 13)] σ0 σ0 := Fr_rfl
  have h1 := ML_k hM h_k
  refine En_Ps 2 (pc' := 2) (lv' := [(0, .ref 159), (1, .retAddr 33)]) (st' := [.retAddr 33, .ref 159]) rfl ?_
  refine En_callV rfl rfl rfl rfl rfl rfl rfl rfl tgz_159 (by decide +kernel) rfl (c_318s16x σ0 hσ0 f h_f hM) (by decide) (by decide) (fun v3 σ4 h2 => ?_)
  obtain ⟨h5, h6, z8, h9, z10, rfl, h7⟩ := h2
  have h11 := h7.2.2.2.2.2.2.2
  have h12 := Fr_trans hF0 h6 (by decide +kernel)
  have h13 := h11.2.1
  refine En_iNe _ rfl rfl (fun h14 => ?_) (fun h14 => ?_)
  · have h15 : Sp.1 = 0 := iW_g (i := 16) (B := By) (n := Nb) (by omega)
    obtain ⟨S16, h17⟩ : ∃ q : PS, q = adv By Nb Sp := ⟨_, rfl⟩
    have h18 : ML By Nb σ4 S16 := by rw [h17]; exact h11.2.2 (by omega)
    have h19 := ML_k h18 ((h6 _ _ (inW tgz_159 (by decide +kernel))).trans h_k)
    have h20 : S16.2.2.2 = Sp.2.2.2 := by rw [h17]; exact adv_w
    have h21 : S16.1 = 0 := by rw [h17, adv_1]; exact h15
    exact En_ret (v := none) rfl rfl rfl ⟨h5, h12, z8, h9, k, ((h6 _ _ (inW tgz_159 (by decide +kernel))).trans h_k), rfl, ⟨by omega, by omega, by omega, by omega, by omega, by omega, by omega, by omega, by omega, by omega, by omega, by omega, by omega, fun _ => by omega, ML_eq h18 (by subst h17; unfold pss; first | done | rfl | ((repeat' split) <;> first | rfl | (exfalso; omega) | (exfalso; omega)))⟩⟩
  · obtain rfl : σ0 = σ4 := h11.1 (by omega)
    refine En_Ps 2 (pc' := 10) (lv' := [(0, .ref 159), (1, .retAddr 33)]) (st' := [.int ((Int32.ofInt 1)), .ref 159]) rfl ?_
    have := (by decide : ((Int32.ofInt 1)).toInt = 1)
    refine En_callV rfl rfl rfl rfl rfl rfl rfl rfl tgz_159 (by decide +kernel) rfl (c_223x σ0 hσ0 ((Int32.ofInt 1)) (geI (by decide : (Int32.ofInt 1).toInt = 1) (by omega)) (leI (by decide : (Int32.ofInt 1).toInt = 1) (by omega)) k h_k hM) (by decide) (by decide) (fun v23 σ24 h22 => ?_)
    obtain ⟨h25, h26, z28, h29, rfl, h27⟩ := h22
    have h30 := h27.2.2.2.2.2
    have h31 := Fr_trans hF0 h26 (by decide +kernel)
    obtain ⟨S32, h33⟩ : ∃ q : PS, q = err By Nb 1 Sp := ⟨_, rfl⟩
    have h34 : ML By Nb σ24 S32 := by rw [h33]; exact (ML_eq h30 (err_cg (by omega)))
    have h35 := ML_k h34 h29
    have h36 : S32.2.2.2 = Sp.2.2.2 := by rw [h33]; exact err_w
    exact En_ret (v := none) rfl rfl rfl ⟨h25, h31, f, ((h26 _ _ (inW tgz_159 (by decide +kernel))).trans h_f), z28, h29, rfl, ⟨by omega, by omega, by omega, by omega, by omega, by omega, by omega, by omega, by omega, by omega, by omega, by omega, by omega, fun _ => by omega, ML_eq h34 (by subst h33; unfold pss; first | done | rfl | ((repeat' split) <;> first | rfl | (exfalso; omega) | (exfalso; omega)))⟩⟩
/-- DoorSchoolModel.deed()I -/
abbrev P_209x (σ0 : SG) (By : Int → Int) (Nb : Int) (Sp : PS) (f : Int32) (k : Int32) : PO := fun v σ => WT σ ∧ Fr [(35, 8), (35, 9), (35, 10), (35, 11), (35, 12), (35, 13)] σ0 σ ∧ ∃ f1 : Int32, (σ 159)[8]? = some (.int f1) ∧ ∃ k1 : Int32, (σ 159)[12]? = some (.int k1) ∧ ∃ ret : Int32, v = some (.int ret) ∧ -ret.toInt ≤ 0 ∧ ret.toInt - 1 ≤ 0 ∧ -f1.toInt ≤ 0 ∧ f1.toInt - 1600 ≤ 0 ∧ -f1.toInt + f.toInt ≤ 0 ∧ f1.toInt - f.toInt - 1600 ≤ 0 ∧ -f1.toInt + k.toInt - 3 ≤ 0 ∧ f1.toInt - k.toInt - 1600 ≤ 0 ∧ -k1.toInt ≤ 0 ∧ k1.toInt - 3 ≤ 0 ∧ -k1.toInt + f.toInt - 1600 ≤ 0 ∧ k1.toInt - f.toInt - 3 ≤ 0 ∧ -k1.toInt + k.toInt ≤ 0 ∧ k1.toInt - k.toInt - 3 ≤ 0 ∧ f.toInt - f1.toInt ≤ 0 ∧ Imp (k1.toInt ≤ 0) (k.toInt ≤ 0) ∧ (ML By Nb σ (gDeed By Nb Sp) ∧ ret.toInt = iW By Nb 8 Sp)
set_option maxRecDepth 10000 in
set_option maxHeartbeats 4000000 in
theorem c_209x {By : Int → Int} {Nb : Int} {Sp : PS} (σ0 : SG) (hσ0 : WT σ0) (f : Int32) (h_f : (σ0 159)[8]? = some (.int f)) (k : Int32) (h_k : (σ0 159)[12]? = some (.int k)) (hM : ML By Nb σ0 Sp) : En 7 156 none mr_209 (P_209x σ0 By Nb Sp f k) 0 [(0, .ref 159)] [] σ0 := by
  obtain ⟨hl_f, hu_f⟩ := WT_int hσ0 (g := 35) (by decide +kernel) (by decide +kernel) (l := 0) (u := 1600) (by decide +kernel) h_f
  obtain ⟨hl_k, hu_k⟩ := WT_int hσ0 (g := 35) (by decide +kernel) (by decide +kernel) (l := 0) (u := 3) (by decide +kernel) h_k
  have hF0 : Fr [(35, 8), (35, 9), (35, 10), (35, 11), (35, 12), (35, 13)] σ0 σ0 := Fr_rfl
  have h1 := ML_k hM h_k
  refine En_Ps 1 (pc' := 1) (lv' := [(0, .ref 159)]) (st' := [.ref 159]) rfl ?_
  refine En_ldcS (i := 8) rfl rfl rfl ?_
  refine En_callV rfl rfl rfl rfl rfl rfl rfl rfl tgz_159 (by decide +kernel) rfl (c_318s8x σ0 hσ0 f h_f hM) (by decide) (by decide) (fun v3 σ4 h2 => ?_)
  obtain ⟨h5, h6, z8, h9, z10, rfl, h7⟩ := h2
  have h11 := h7.2.2.2.2.2.2.2
  have h12 := Fr_trans hF0 h6 (by decide +kernel)
  have h13 := h11.2.1
  refine En_iEq _ rfl rfl (fun h14 => ?_) (fun h14 => ?_)
  · obtain rfl : σ0 = σ4 := h11.1 (by omega)
    refine En_Ps 1 (pc' := 12) (lv' := [(0, .ref 159)]) (st' := [.ref 159]) rfl ?_
    refine En_ldcS (i := 12) rfl rfl rfl ?_
    refine En_callV rfl rfl rfl rfl rfl rfl rfl rfl tgz_159 (by decide +kernel) rfl (c_286s12x σ0 hσ0 f h_f k h_k hM) (by decide) (by decide) (fun v16 σ17 h15 => ?_)
    obtain ⟨h18, h19, z21, h22, z23, h24, rfl, h20⟩ := h15
    have h25 := h20.2.2.2.2.2.2.2.2.2.2.2.2.2.2
    have h26 := Fr_trans hF0 h19 (by decide +kernel)
    obtain ⟨S27, h28⟩ : ∃ q : PS, q = pss By Nb (iW By Nb 12 Sp) Sp := ⟨_, rfl⟩
    have h29 : ML By Nb σ17 S27 := by rw [h28]; exact h25
    have h30 := ML_k h29 h24
    refine En_Ps 1 (pc' := 18) (lv' := [(0, .ref 159)]) (st' := [.int ((Int32.ofInt 0))]) rfl ?_
    refine En_top (by decide : (Int32.ofInt 0).toInt = 0) (fun z31 h32 => ?_)
    exact En_ret (v := some (.int z31)) rfl rfl rfl ⟨h18, h26, z21, h22, z23, h24, z31, rfl, ⟨by omega, by omega, by omega, by omega, by omega, by omega, by omega, by omega, by omega, by omega, by omega, by omega, by omega, by omega, by omega, fun _ => by omega, ⟨ML_eq h29 (by subst h28; unfold gDeed; first | done | rfl | ((repeat' split) <;> first | rfl | (exfalso; omega) | ((try have i0 := Imp_m h20.2.2.2.2.2.2.2.2.2.2.2.2.2.1 (by omega)); exfalso; omega))), by omega⟩⟩⟩
  · have h33 : Sp.1 = 0 := iW_g (i := 8) (B := By) (n := Nb) (by omega)
    obtain ⟨S34, h35⟩ : ∃ q : PS, q = adv By Nb Sp := ⟨_, rfl⟩
    have h36 : ML By Nb σ4 S34 := by rw [h35]; exact h11.2.2 (by omega)
    have h37 := ML_k h36 ((h6 _ _ (inW tgz_159 (by decide +kernel))).trans h_k)
    have h38 : S34.2.2.2 = Sp.2.2.2 := by rw [h35]; exact adv_w
    have h39 : S34.1 = 0 := by rw [h35, adv_1]; exact h33
    refine En_Ps 1 (pc' := 10) (lv' := [(0, .ref 159)]) (st' := [.int ((Int32.ofInt 1))]) rfl ?_
    refine En_top (by decide : (Int32.ofInt 1).toInt = 1) (fun z40 h41 => ?_)
    exact En_ret (v := some (.int z40)) rfl rfl rfl ⟨h5, h12, z8, h9, k, ((h6 _ _ (inW tgz_159 (by decide +kernel))).trans h_k), z40, rfl, ⟨by omega, by omega, by omega, by omega, by omega, by omega, by omega, by omega, by omega, by omega, by omega, by omega, by omega, by omega, by omega, fun _ => by omega, ⟨ML_eq h36 (by subst h35; unfold gDeed; first | done | rfl | ((repeat' split) <;> first | rfl | (exfalso; omega) | (exfalso; omega))), by omega⟩⟩⟩
/-- DoorSchoolModel.deeds(I)I -/
abbrev P_210x (σ0 : SG) (a : Int32) : PO := fun v σ => WT σ ∧ Fr [(35, 18), (35, 21), (42, 0), (43, 0), (44, 0), (45, 0), (46, 0)] σ0 σ ∧ ∃ ret : Int32, v = some (.int ret) ∧ -ret.toInt - 2 ≤ 0 ∧ ret.toInt - 65535 ≤ 0 ∧ ret.toInt = dsR (wf σ0) a.toInt
set_option maxRecDepth 10000 in
set_option maxHeartbeats 4000000 in
theorem c_210x (σ0 : SG) (hσ0 : WT σ0) (a : Int32) (hq : QX (wf σ0)) : En 5 112 none mr_210 (P_210x σ0 a) 0 [(0, .ref 159), (1, .int a)] [] σ0 := by
  have hF0 : Fr [(35, 18), (35, 21), (42, 0), (43, 0), (44, 0), (45, 0), (46, 0)] σ0 σ0 := Fr_rfl
  refine En_Ps 2 (pc' := 2) (lv' := [(0, .ref 159), (1, .int a)]) (st' := [.int a, .ref 159]) rfl ?_
  obtain ⟨z2, h1, h3, h4⟩ := WT_peekI hσ0 tgz_160 (by decide +kernel : FT 36 (2 : Int).toNat = (0, 0, 4)) (by decide +kernel)
  refine En_callV rfl rfl rfl rfl rfl rfl rfl rfl tgz_159 (by decide +kernel) rfl (c_254 σ0 hσ0 a z2 h1) (by decide) (by decide) (fun v6 σ7 h5 => ?_)
  obtain ⟨h8, h9, z11, rfl, h10⟩ := h5
  obtain rfl : σ0 = σ7 := Fr_nil h9
  have w12 : wf σ0 (2) = z2.toInt := ci_at h1 (by omega)
  refine En_iEq _ rfl rfl (fun h13 => ?_) (fun h13 => ?_)
  · refine En_Ps 1 (pc' := 18) (lv' := [(0, .ref 159), (1, .int a)]) (st' := [.int (((Int8.ofInt (-2)).toInt32))]) rfl ?_
    refine En_top (by decide : ((Int8.ofInt (-2)).toInt32).toInt = -2) (fun z14 h15 => ?_)
    exact En_ret (v := some (.int z14)) rfl rfl rfl ⟨hσ0, hF0, z14, rfl, ⟨by omega, by omega, dsR_n (by omega) (by omega)⟩⟩
  · obtain ⟨z17, h16, h18, h19⟩ := WT_peekI hσ0 tgz_160 (by decide +kernel : FT 36 (7 : Int).toNat = (0, 0, 1600)) (by decide +kernel)
    have w20 : wf σ0 (7) = z17.toInt := ci_at h16 (by omega)
    have h21 : 1 ≤ z17.toInt := by have e9 := hq (by omega); omega
    refine En_Ps 1 (pc' := 9) (lv' := [(0, .ref 159), (1, .int a)]) (st' := [.ref 159]) rfl ?_
    have h22 : 1 ≤ z17.toInt := by have e9 := hq (by omega); omega
    refine En_Ps 1 (pc' := 10) (lv' := [(0, .ref 159), (1, .int a)]) (st' := [.int a, .ref 159]) rfl ?_
    obtain ⟨z24, h23, h25, h26⟩ := WT_peekI hσ0 tgz_160 (by decide +kernel : FT 36 (0 : Int).toNat = (0, 0, 4)) (by decide +kernel)
    refine En_callV rfl rfl rfl rfl rfl rfl rfl rfl tgz_159 (by decide +kernel) rfl (c_213x σ0 hσ0 a (geI rfl (by omega)) (leI rfl (by omega)) z24 h23 z17 h16 (by omega)) (by decide) (by decide) (fun v28 σ29 h27 => ?_)
    obtain ⟨h30, h31, z33, h34, z35, rfl, h32⟩ := h27
    have h36 := h32.2.2.2.2.2.2.2.2
    have h37 := Fr_trans hF0 h31 (by decide +kernel)
    refine En_Ps 1 (pc' := 18) (lv' := [(0, .ref 159), (1, .int a)]) (st' := [.int z35]) rfl ?_
    exact En_ret (v := some (.int z35)) rfl rfl rfl ⟨h30, h37, z35, rfl, ⟨by omega, by omega, dsR_y (by omega) (by omega) h36⟩⟩
/-- DoorSchoolModel.isRule(II)Z -/
abbrev P_263x (σ0 : SG) (a : Int32) (b : Int32) (s : Int32) (sc : Int32) : PO := fun v σ => WT σ ∧ Fr [] σ0 σ ∧ ∃ ret : Int32, v = some (.int ret) ∧ -ret.toInt ≤ 0 ∧ ret.toInt - 1 ≤ 0 ∧ Imp (ret.toInt - 1 ≤ 0 ∧ -ret.toInt + 1 ≤ 0) (-a.toInt ≤ 0 ∧ a.toInt - 15 ≤ 0 ∧ -b.toInt ≤ 0 ∧ b.toInt - 15 ≤ 0) ∧ ((ret.toInt = 1 ∧ 0 < sc.toInt ∧ 0 ≤ a.toInt ∧ a.toInt < pI s.toInt ∧ 0 ≤ b.toInt ∧ b.toInt ≤ 15 ∧ sbI b.toInt a.toInt = 1) ∨ (ret.toInt = 0 ∧ (sc.toInt ≤ 0 ∨ a.toInt < 0 ∨ pI s.toInt ≤ a.toInt ∨ b.toInt < 0 ∨ 15 < b.toInt ∨ sbI b.toInt a.toInt ≠ 1)))
set_option maxRecDepth 10000 in
set_option maxHeartbeats 4000000 in
theorem c_263x (σ0 : SG) (hσ0 : WT σ0) (a : Int32) (b : Int32) (s : Int32) (h_s : (σ0 160)[(0 : Int).toNat]? = some (.int s)) (sc : Int32) (h_sc : (σ0 160)[(7 : Int).toNat]? = some (.int sc)) : En 3 62 none mr_263 (P_263x σ0 a b s sc) 0 [(0, .ref 159), (1, .int a), (2, .int b)] [] σ0 := by
  obtain ⟨hl_s, hu_s⟩ := WT_int hσ0 (g := 36) (by decide +kernel) (by decide +kernel) (l := 0) (u := 4) (by decide +kernel) h_s
  obtain ⟨hl_sc, hu_sc⟩ := WT_int hσ0 (g := 36) (by decide +kernel) (by decide +kernel) (l := 0) (u := 1600) (by decide +kernel) h_sc
  have hF0 : Fr [] σ0 σ0 := Fr_rfl
  refine En_Ps 3 (pc' := 3) (lv' := [(0, .ref 159), (1, .int a), (2, .int b)]) (st' := [.long a.toInt64, .ref 159]) rfl ?_
  have : a.toInt64.toInt = a.toInt := (i2lI rfl)
  refine En_callV rfl rfl rfl rfl rfl rfl rfl rfl tgz_159 (by decide +kernel) rfl (c_259x σ0 hσ0 a.toInt64 s h_s sc h_sc) (by decide) (by decide) (fun v2 σ3 h1 => ?_)
  obtain ⟨h4, h5, z7, rfl, h6⟩ := h1
  have h8 := h6.2.2.2
  obtain rfl : σ0 = σ3 := Fr_nil h5
  have h9 := h8
  have w10 : wf σ0 (0) = s.toInt := ci_at h_s (by omega)
  have w11 : wf σ0 (7) = sc.toInt := ci_at h_sc (by omega)
  refine En_iEq _ rfl rfl (fun h12 => ?_) (fun h12 => ?_)
  · refine En_Ps 1 (pc' := 31) (lv' := [(0, .ref 159), (1, .int a), (2, .int b)]) (st' := [.int ((Int32.ofInt 0))]) rfl ?_
    refine En_top (by decide : (Int32.ofInt 0).toInt = 0) (fun z13 h14 => ?_)
    exact En_ret (v := some (.int z13)) rfl rfl (retZ rfl rfl (by omega) (by omega)) ⟨hσ0, hF0, z13, rfl, ⟨by omega, by omega, fun _ => by omega, (by first | omega | (by_cases q0 : 0 ≤ b.toInt ∧ b.toInt ≤ 15 ∧ 0 ≤ a.toInt ∧ sbI b.toInt a.toInt = 1; (have q1 := sbI_le q0.1 q0.2.2.1 q0.2.2.2; omega); omega))⟩⟩
  · have h15 := Imp_m h6.2.2.1 (by omega)
    refine En_Ps 3 (pc' := 12) (lv' := [(0, .ref 159), (1, .int a), (2, .int b)]) (st' := [.long b.toInt64, .ref 159]) rfl ?_
    have : b.toInt64.toInt = b.toInt := (i2lI rfl)
    refine En_callV rfl rfl rfl rfl rfl rfl rfl rfl tgz_159 (by decide +kernel) rfl (c_259x σ0 hσ0 b.toInt64 s h_s sc h_sc) (by decide) (by decide) (fun v17 σ18 h16 => ?_)
    obtain ⟨h19, h20, z22, rfl, h21⟩ := h16
    have h23 := h21.2.2.2
    obtain rfl : σ0 = σ18 := Fr_nil h20
    have h24 := h23
    refine En_iEq _ rfl rfl (fun h25 => ?_) (fun h25 => ?_)
    · refine En_Ps 1 (pc' := 31) (lv' := [(0, .ref 159), (1, .int a), (2, .int b)]) (st' := [.int ((Int32.ofInt 0))]) rfl ?_
      refine En_top (by decide : (Int32.ofInt 0).toInt = 0) (fun z26 h27 => ?_)
      exact En_ret (v := some (.int z26)) rfl rfl (retZ rfl rfl (by omega) (by omega)) ⟨hσ0, hF0, z26, rfl, ⟨by omega, by omega, fun _ => by omega, (by first | omega | (by_cases q0 : 0 ≤ b.toInt ∧ b.toInt ≤ 15 ∧ 0 ≤ a.toInt ∧ sbI b.toInt a.toInt = 1; (have q1 := sbI_le q0.1 q0.2.2.1 q0.2.2.2; omega); omega))⟩⟩
    · have h28 := Imp_m h21.2.2.1 (by omega)
      refine En_Ps 4 (pc' := 22) (lv' := [(0, .ref 159), (1, .int a), (2, .int b)]) (st' := [.int ((a ^^^ ((Int32.ofInt (-1))))), .int b]) rfl ?_
      refine En_nam (fun z29 h30 => ?_)
      refine En_Ps 1 (pc' := 23) (lv' := [(0, .ref 159), (1, .int a), (2, .int b)]) (st' := [.int ((b &&& z29))]) rfl ?_
      refine En_nam (fun z31 h32 => ?_)
      obtain ⟨h33, h34⟩ := andn_rng h32 rfl (by omega) (by omega : _ ≤ (15 : Int))
      refine En_iNe _ rfl rfl (fun h35 => ?_) (fun h35 => ?_)
      · have := sub_sbw h32 h30 rfl rfl (by omega) (by omega) (by omega)
        refine En_Ps 1 (pc' := 31) (lv' := [(0, .ref 159), (1, .int a), (2, .int b)]) (st' := [.int ((Int32.ofInt 0))]) rfl ?_
        refine En_top (by decide : (Int32.ofInt 0).toInt = 0) (fun z36 h37 => ?_)
        exact En_ret (v := some (.int z36)) rfl rfl (retZ rfl rfl (by omega) (by omega)) ⟨hσ0, hF0, z36, rfl, ⟨by omega, by omega, fun _ => by omega, (by first | omega | (by_cases q0 : 0 ≤ b.toInt ∧ b.toInt ≤ 15 ∧ 0 ≤ a.toInt ∧ sbI b.toInt a.toInt = 1; (have q1 := sbI_le q0.1 q0.2.2.1 q0.2.2.2; omega); omega))⟩⟩
      · obtain ⟨h38, h39⟩ := andn_zero h32 h30 h35 rfl rfl (by omega)
        have := sub_sbw h32 h30 rfl rfl (by omega) (by omega) (by omega)
        refine En_Ps 2 (pc' := 31) (lv' := [(0, .ref 159), (1, .int a), (2, .int b)]) (st' := [.int ((Int32.ofInt 1))]) rfl ?_
        refine En_top (by decide : (Int32.ofInt 1).toInt = 1) (fun z40 h41 => ?_)
        exact En_ret (v := some (.int z40)) rfl rfl (retZ rfl rfl (by omega) (by omega)) ⟨hσ0, hF0, z40, rfl, ⟨by omega, by omega, fun _ => by omega, (by first | omega | (by_cases q0 : 0 ≤ b.toInt ∧ b.toInt ≤ 15 ∧ 0 ≤ a.toInt ∧ sbI b.toInt a.toInt = 1; (have q1 := sbI_le q0.1 q0.2.2.1 q0.2.2.2; omega); omega))⟩⟩
/-- DoorSchoolModel.doesFreshCopy(I)Z -/
abbrev P_217x (σ0 : SG) (a : Int32) : PO := fun v σ => WT σ ∧ Fr [] σ0 σ ∧ ∃ ret : Int32, v = some (.int ret) ∧ -ret.toInt ≤ 0 ∧ ret.toInt - 1 ≤ 0 ∧ ((ret.toInt = 1 → ci σ0 165 (13 + 4 * a.toInt) ≠ -1) ∧ (ret.toInt = 0 → ci σ0 165 (13 + 4 * a.toInt) = -1))
set_option maxRecDepth 10000 in
set_option maxHeartbeats 4000000 in
theorem c_217x (σ0 : SG) (hσ0 : WT σ0) (a : Int32) (hl_a : 0 ≤ a.toInt) (hu_a : a.toInt ≤ 3) : En 0 0 none mr_217 (P_217x σ0 a) 0 [(0, .ref 159), (1, .int a)] [] σ0 := by
  have hF0 : Fr [] σ0 σ0 := Fr_rfl
  refine En_Ps 1 (pc' := 1) (lv' := [(0, .ref 159), (1, .int a)]) (st' := [.ref 159]) rfl ?_
  refine En_getU (j := 14) (u := 165) (g' := 41) (q := 0) rfl rfl rfl tgz_159 (by decide +kernel) hσ0 (by decide +kernel) (by decide +kernel) (fun h1 => ?_)
  refine En_Ps 4 (pc' := 9) (lv' := [(0, .ref 159), (1, .int a)]) (st' := [.int ((((Int32.ofInt 4)) * a)), .int (((Int8.ofInt 10).toInt32)), .ref 165]) rfl ?_
  refine En_top (mulI (by decide : (Int32.ofInt 4).toInt = 4) rfl (Z := 4 * a.toInt) (by omega) (by omega) (by omega)) (fun z3 h4 => ?_)
  refine En_Ps 1 (pc' := 10) (lv' := [(0, .ref 159), (1, .int a)]) (st' := [.int (((((Int8.ofInt 10).toInt32)) + z3)), .ref 165]) rfl ?_
  refine En_top (addI (by decide : ((Int8.ofInt 10).toInt32).toInt = 10) rfl (by omega) (by omega)) (fun z5 h6 => ?_)
  refine En_Ps 2 (pc' := 12) (lv' := [(0, .ref 159), (1, .int a)]) (st' := [.int ((z5 + ((Int32.ofInt 3)))), .ref 165]) rfl ?_
  refine En_top (addI rfl (by decide : (Int32.ofInt 3).toInt = 3) (by omega) (by omega)) (fun z7 h8 => ?_)
  refine En_iald (l := (-1)) (u := 3) rfl rfl tgz_165 (by decide +kernel) hσ0 (by omega) (lnI (by decide +kernel : LN _ = 226) (by omega)) (FTrow 41 13 4 4 (by decide +kernel) (by omega) (by omega) (by omega)) (fun z10 h9 h11 h12 => ?_)
  refine En_Ps 1 (pc' := 14) (lv' := [(0, .ref 159), (1, .int a)]) (st' := [.int ((Int32.ofInt (-1))), .int z10]) rfl ?_
  refine En_icEq _ rfl (by decide : (Int32.ofInt (-1)).toInt = -1) rfl (fun h13 => ?_) (fun h13 => ?_)
  · refine En_Ps 1 (pc' := 22) (lv' := [(0, .ref 159), (1, .int a)]) (st' := [.int ((Int32.ofInt 0))]) rfl ?_
    refine En_top (by decide : (Int32.ofInt 0).toInt = 0) (fun z14 h15 => ?_)
    exact En_ret (v := some (.int z14)) rfl rfl (retZ rfl rfl (by omega) (by omega)) ⟨hσ0, hF0, z14, rfl, ⟨by omega, by omega, (by have e1 := ci_at h9 (by omega : 13 + 4 * a.toInt = _); exact ⟨fun _ => by omega, fun _ => by omega⟩)⟩⟩
  · refine En_Ps 2 (pc' := 22) (lv' := [(0, .ref 159), (1, .int a)]) (st' := [.int ((Int32.ofInt 1))]) rfl ?_
    refine En_top (by decide : (Int32.ofInt 1).toInt = 1) (fun z16 h17 => ?_)
    exact En_ret (v := some (.int z16)) rfl rfl (retZ rfl rfl (by omega) (by omega)) ⟨hσ0, hF0, z16, rfl, ⟨by omega, by omega, (by have e1 := ci_at h9 (by omega : 13 + 4 * a.toInt = _); exact ⟨fun _ => by omega, fun _ => by omega⟩)⟩⟩
/-- DoorSchoolModel.end(I)I -/
abbrev P_221x (σ0 : SG) (a : Int32) (m : Int32) : PO := fun v σ => WT σ ∧ Fr [(35, 5)] σ0 σ ∧ ∃ m1 : Int32, (σ 159)[5]? = some (.int m1) ∧ ∃ ret : Int32, v = some (.int ret) ∧ -ret.toInt - 1 ≤ 0 ∧ ret.toInt - 1600 ≤ 0 ∧ -m1.toInt ≤ 0 ∧ m1.toInt - 1600 ≤ 0 ∧ -m1.toInt + m.toInt - 1600 ≤ 0 ∧ m1.toInt - m.toInt ≤ 0 ∧ Imp (-a.toInt ≤ 0 ∧ a.toInt - m.toInt ≤ 0) (m1.toInt - a.toInt ≤ 0 ∧ -m1.toInt + a.toInt ≤ 0 ∧ ret.toInt - a.toInt ≤ 0 ∧ -ret.toInt + a.toInt ≤ 0) ∧ Imp (a.toInt + 1 ≤ 0) (m1.toInt - m.toInt ≤ 0 ∧ -m1.toInt + m.toInt ≤ 0 ∧ ret.toInt + 1 ≤ 0 ∧ -ret.toInt - 1 ≤ 0) ∧ Imp (m.toInt - a.toInt + 1 ≤ 0) (m1.toInt - m.toInt ≤ 0 ∧ -m1.toInt + m.toInt ≤ 0 ∧ ret.toInt + 1 ≤ 0 ∧ -ret.toInt - 1 ≤ 0)
set_option maxRecDepth 10000 in
set_option maxHeartbeats 4000000 in
theorem c_221x (σ0 : SG) (hσ0 : WT σ0) (a : Int32) (m : Int32) (h_m : (σ0 159)[5]? = some (.int m)) : En 1 25 none mr_221 (P_221x σ0 a m) 0 [(0, .ref 159), (1, .int a)] [] σ0 := by
  obtain ⟨hl_m, hu_m⟩ := WT_int hσ0 (g := 35) (by decide +kernel) (by decide +kernel) (l := 0) (u := 1600) (by decide +kernel) h_m
  have hF0 : Fr [(35, 5)] σ0 σ0 := Fr_rfl
  refine En_Ps 4 (pc' := 4) (lv' := [(0, .ref 159), (1, .int a)]) (st' := [.ref 159, .long ((Int64.ofNat 0)), .long a.toInt64]) rfl ?_
  refine En_getK (j := 5) h_m rfl rfl rfl tgz_159 (by decide +kernel) ?_
  refine En_Ps 1 (pc' := 8) (lv' := [(0, .ref 159), (1, .int a)]) (st' := [.long m.toInt64, .long ((Int64.ofNat 0)), .long a.toInt64]) rfl ?_
  have : a.toInt64.toInt = a.toInt := (i2lI rfl)
  have := (by decide : ((Int64.ofNat 0)).toInt = 0)
  have : m.toInt64.toInt = m.toInt := (i2lI rfl)
  refine En_callS rfl rfl rfl rfl rfl rfl rfl rfl rfl (c_249 σ0 hσ0 a.toInt64 ((Int64.ofNat 0)) m.toInt64) (by decide) (by decide) (fun v2 σ3 h1 => ?_)
  obtain ⟨h4, h5, z7, rfl, h6⟩ := h1
  have h8 := Fr_trans hF0 h5 (by decide +kernel)
  refine En_iNe _ rfl rfl (fun h9 => ?_) (fun h9 => ?_)
  · refine En_Ps 2 (pc' := 18) (lv' := [(0, .ref 159), (1, .int a)]) (st' := [.int a, .ref 159]) rfl ?_
    refine En_put (j := 5) rfl rfl rfl tgz_159 (by decide +kernel) rfl (vI (l := 0) (u := 1600) (by decide +kernel) rfl (by omega) (by omega)) h4 h8 (by decide +kernel) (fun σ10 h11 h12 h13 h14 => ?_)
    refine En_Ps 1 (pc' := 22) (lv' := [(0, .ref 159), (1, .int a)]) (st' := [.int a]) rfl ?_
    exact En_ret (v := some (.int a)) rfl rfl rfl ⟨h11, h12, a, h13, a, rfl, ⟨by omega, by omega, by omega, by omega, by omega, by omega, fun _ => by omega, fun _ => by omega, fun _ => by omega⟩⟩
  · refine En_Ps 1 (pc' := 15) (lv' := [(0, .ref 159), (1, .int a)]) (st' := [.int ((Int32.ofInt (-1)))]) rfl ?_
    refine En_top (by decide : (Int32.ofInt (-1)).toInt = -1) (fun z15 h16 => ?_)
    exact En_ret (v := some (.int z15)) rfl rfl rfl ⟨h4, h8, m, ((h5 _ _ (inW tgz_159 (by decide +kernel))).trans h_m), z15, rfl, ⟨by omega, by omega, by omega, by omega, by omega, by omega, fun _ => by omega, fun _ => by omega, fun _ => by omega⟩⟩
/-- DoorSchoolModel.fault(I)I -/
abbrev P_225x (σ0 : SG) (a : Int32) (fk : Int32) (fp : Int32) : PO := fun v σ => WT σ ∧ Fr [] σ0 σ ∧ ∃ ret : Int32, v = some (.int ret) ∧ -ret.toInt - 1 ≤ 0 ∧ ret.toInt - 1600 ≤ 0 ∧ Imp (a.toInt ≤ 0 ∧ -a.toInt ≤ 0) (ret.toInt - fk.toInt ≤ 0 ∧ -ret.toInt + fk.toInt ≤ 0) ∧ Imp (a.toInt - 1 ≤ 0 ∧ -a.toInt + 1 ≤ 0) (ret.toInt - fp.toInt ≤ 0 ∧ -ret.toInt + fp.toInt ≤ 0) ∧ Imp (a.toInt + 1 ≤ 0) (ret.toInt + 1 ≤ 0 ∧ -ret.toInt - 1 ≤ 0) ∧ Imp (-a.toInt + 2 ≤ 0) (ret.toInt + 1 ≤ 0 ∧ -ret.toInt - 1 ≤ 0)
set_option maxRecDepth 10000 in
set_option maxHeartbeats 4000000 in
theorem c_225x (σ0 : SG) (hσ0 : WT σ0) (a : Int32) (fk : Int32) (h_fk : (σ0 159)[12]? = some (.int fk)) (fp : Int32) (h_fp : (σ0 159)[13]? = some (.int fp)) : En 0 0 none mr_225 (P_225x σ0 a fk fp) 0 [(0, .ref 159), (1, .int a)] [] σ0 := by
  obtain ⟨hl_fk, hu_fk⟩ := WT_int hσ0 (g := 35) (by decide +kernel) (by decide +kernel) (l := 0) (u := 3) (by decide +kernel) h_fk
  obtain ⟨hl_fp, hu_fp⟩ := WT_int hσ0 (g := 35) (by decide +kernel) (by decide +kernel) (l := (-1)) (u := 1600) (by decide +kernel) h_fp
  have hF0 : Fr [] σ0 σ0 := Fr_rfl
  refine En_Ps 1 (pc' := 1) (lv' := [(0, .ref 159), (1, .int a)]) (st' := [.int a]) rfl ?_
  refine En_iNe _ rfl rfl (fun h1 => ?_) (fun h1 => ?_)
  · refine En_Ps 2 (pc' := 13) (lv' := [(0, .ref 159), (1, .int a)]) (st' := [.int ((Int32.ofInt 1)), .int a]) rfl ?_
    refine En_icNe _ rfl (by decide : (Int32.ofInt 1).toInt = 1) rfl (fun h2 => ?_) (fun h2 => ?_)
    · refine En_Ps 1 (pc' := 24) (lv' := [(0, .ref 159), (1, .int a)]) (st' := [.int ((Int32.ofInt (-1)))]) rfl ?_
      refine En_top (by decide : (Int32.ofInt (-1)).toInt = -1) (fun z3 h4 => ?_)
      exact En_ret (v := some (.int z3)) rfl rfl rfl ⟨hσ0, hF0, z3, rfl, ⟨by omega, by omega, fun _ => by omega, fun _ => by omega, fun _ => by omega, fun _ => by omega⟩⟩
    · refine En_Ps 1 (pc' := 17) (lv' := [(0, .ref 159), (1, .int a)]) (st' := [.ref 159]) rfl ?_
      refine En_getK (j := 13) h_fp rfl rfl rfl tgz_159 (by decide +kernel) ?_
      refine En_Ps 1 (pc' := 24) (lv' := [(0, .ref 159), (1, .int a)]) (st' := [.int fp]) rfl ?_
      exact En_ret (v := some (.int fp)) rfl rfl rfl ⟨hσ0, hF0, fp, rfl, ⟨by omega, by omega, fun _ => by omega, fun _ => by omega, fun _ => by omega, fun _ => by omega⟩⟩
  · refine En_Ps 1 (pc' := 5) (lv' := [(0, .ref 159), (1, .int a)]) (st' := [.ref 159]) rfl ?_
    refine En_getK (j := 12) h_fk rfl rfl rfl tgz_159 (by decide +kernel) ?_
    refine En_Ps 1 (pc' := 24) (lv' := [(0, .ref 159), (1, .int a)]) (st' := [.int fk]) rfl ?_
    exact En_ret (v := some (.int fk)) rfl rfl rfl ⟨hσ0, hF0, fk, rfl, ⟨by omega, by omega, fun _ => by omega, fun _ => by omega, fun _ => by omega, fun _ => by omega⟩⟩
/-- DoorSchoolModel.feed(IIIII)I -/
abbrev P_226x (σ0 : SG) (a : Int32) (b : Int32) (c : Int32) (d : Int32) (e : Int32) (m : Int32) : PO := fun v σ => WT σ ∧ Fr [(35, 5), (39, 0), (40, 0)] σ0 σ ∧ ∃ m1 : Int32, (σ 159)[5]? = some (.int m1) ∧ ∃ ret : Int32, v = some (.int ret) ∧ -ret.toInt - 1 ≤ 0 ∧ ret.toInt - 1600 ≤ 0 ∧ -m1.toInt + 20 ≤ 0 ∧ m1.toInt - 1600 ≤ 0 ∧ -m1.toInt + m.toInt ≤ 0 ∧ m1.toInt - m.toInt - 20 ≤ 0 ∧ Imp (m.toInt - 1580 ≤ 0) (m1.toInt - m.toInt - 20 ≤ 0 ∧ -m1.toInt + m.toInt + 20 ≤ 0 ∧ ret.toInt - m1.toInt ≤ 0 ∧ -ret.toInt + m1.toInt ≤ 0) ∧ Imp (-m.toInt + 1581 ≤ 0) (m1.toInt - m.toInt ≤ 0 ∧ -m1.toInt + m.toInt ≤ 0 ∧ ret.toInt + 1 ≤ 0 ∧ -ret.toInt - 1 ≤ 0) ∧ ((m.toInt ≤ 1580 → FDP σ0 σ 163 m.toInt 20 a b c d e) ∧ (1580 < m.toInt → ∀ i : Int, ci σ 163 i = ci σ0 163 i))
set_option maxRecDepth 10000 in
set_option maxHeartbeats 4000000 in
theorem c_226x (σ0 : SG) (hσ0 : WT σ0) (a : Int32) (b : Int32) (c : Int32) (d : Int32) (e : Int32) (m : Int32) (h_m : (σ0 159)[5]? = some (.int m)) : En 0 0 none mr_226 (P_226x σ0 a b c d e m) 0 [(0, .ref 159), (1, .int a), (2, .int b), (3, .int c), (4, .int d), (5, .int e)] [] σ0 := by
  obtain ⟨hl_m, hu_m⟩ := WT_int hσ0 (g := 35) (by decide +kernel) (by decide +kernel) (l := 0) (u := 1600) (by decide +kernel) h_m
  have hF0 : Fr [(35, 5), (39, 0), (40, 0)] σ0 σ0 := Fr_rfl
  refine En_Ps 1 (pc' := 1) (lv' := [(0, .ref 159), (1, .int a), (2, .int b), (3, .int c), (4, .int d), (5, .int e)]) (st' := [.ref 159]) rfl ?_
  refine En_getK (j := 5) h_m rfl rfl rfl tgz_159 (by decide +kernel) ?_
  refine En_Ps 2 (pc' := 7) (lv' := [(0, .ref 159), (1, .int a), (2, .int b), (3, .int c), (4, .int d), (5, .int e)]) (st' := [.int ((m + (((Int8.ofInt 20).toInt32))))]) rfl ?_
  refine En_top (addI rfl (by decide : ((Int8.ofInt 20).toInt32).toInt = 20) (by omega) (by omega)) (fun z1 h2 => ?_)
  refine En_Ps 1 (pc' := 10) (lv' := [(0, .ref 159), (1, .int a), (2, .int b), (3, .int c), (4, .int d), (5, .int e)]) (st' := [.int (((Int16.ofInt 1600).toInt32)), .int z1]) rfl ?_
  refine En_icLe _ rfl (by decide : ((Int16.ofInt 1600).toInt32).toInt = 1600) rfl (fun h3 => ?_) (fun h3 => ?_)
  · refine En_Ps 1 (pc' := 16) (lv' := [(0, .ref 159), (1, .int a), (2, .int b), (3, .int c), (4, .int d), (5, .int e)]) (st' := [.ref 159]) rfl ?_
    refine En_getU (j := 6) (u := 164) (g' := 40) (q := 0) rfl rfl rfl tgz_159 (by decide +kernel) hσ0 (by decide +kernel) (by decide +kernel) (fun h4 => ?_)
    refine En_Ps 2 (pc' := 21) (lv' := [(0, .ref 159), (1, .int a), (2, .int b), (3, .int c), (4, .int d), (5, .int e)]) (st' := [.int a, .int ((Int32.ofInt 0)), .ref 164]) rfl ?_
    refine En_iast (l := (-2147483648)) (u := 2147483647) rfl (by decide : (Int32.ofInt 0).toInt = 0) tgz_164 (by decide +kernel) (by omega) (lnI (by decide +kernel : LN _ = 5) (by omega)) (FTsgl (by decide +kernel)) (fullI _) hσ0 hF0 (by decide +kernel) (fun σ6 h7 h8 h9 h10 => ?_)
    have h11 : ∀ i : Int, ci σ6 163 i = ci σ0 163 i := fun i => (ci_ne h10 (by decide) i)
    refine En_Ps 1 (pc' := 23) (lv' := [(0, .ref 159), (1, .int a), (2, .int b), (3, .int c), (4, .int d), (5, .int e)]) (st' := [.ref 159]) rfl ?_
    refine En_getK (j := 6) ((h10 _ _ (Or.inl (neTG tgz_159 tgz_164 (by decide)))).trans h4) rfl rfl rfl tgz_159 (by decide +kernel) ?_
    refine En_Ps 2 (pc' := 28) (lv' := [(0, .ref 159), (1, .int a), (2, .int b), (3, .int c), (4, .int d), (5, .int e)]) (st' := [.int b, .int ((Int32.ofInt 1)), .ref 164]) rfl ?_
    refine En_iast (l := (-2147483648)) (u := 2147483647) rfl (by decide : (Int32.ofInt 1).toInt = 1) tgz_164 (by decide +kernel) (by omega) (lnI (by decide +kernel : LN _ = 5) (by omega)) (FTsgl (by decide +kernel)) (fullI _) h7 h8 (by decide +kernel) (fun σ12 h13 h14 h15 h16 => ?_)
    have h17 : ∀ i : Int, ci σ12 163 i = ci σ0 163 i := fun i => (ci_ne h16 (by decide) i).trans (h11 i)
    refine En_Ps 1 (pc' := 30) (lv' := [(0, .ref 159), (1, .int a), (2, .int b), (3, .int c), (4, .int d), (5, .int e)]) (st' := [.ref 159]) rfl ?_
    refine En_getK (j := 6) ((h16 _ _ (Or.inl (neTG tgz_159 tgz_164 (by decide)))).trans ((h10 _ _ (Or.inl (neTG tgz_159 tgz_164 (by decide)))).trans h4)) rfl rfl rfl tgz_159 (by decide +kernel) ?_
    refine En_Ps 2 (pc' := 35) (lv' := [(0, .ref 159), (1, .int a), (2, .int b), (3, .int c), (4, .int d), (5, .int e)]) (st' := [.int c, .int ((Int32.ofInt 2)), .ref 164]) rfl ?_
    refine En_iast (l := (-2147483648)) (u := 2147483647) rfl (by decide : (Int32.ofInt 2).toInt = 2) tgz_164 (by decide +kernel) (by omega) (lnI (by decide +kernel : LN _ = 5) (by omega)) (FTsgl (by decide +kernel)) (fullI _) h13 h14 (by decide +kernel) (fun σ18 h19 h20 h21 h22 => ?_)
    have h23 : ∀ i : Int, ci σ18 163 i = ci σ0 163 i := fun i => (ci_ne h22 (by decide) i).trans (h17 i)
    refine En_Ps 1 (pc' := 37) (lv' := [(0, .ref 159), (1, .int a), (2, .int b), (3, .int c), (4, .int d), (5, .int e)]) (st' := [.ref 159]) rfl ?_
    refine En_getK (j := 6) ((h22 _ _ (Or.inl (neTG tgz_159 tgz_164 (by decide)))).trans ((h16 _ _ (Or.inl (neTG tgz_159 tgz_164 (by decide)))).trans ((h10 _ _ (Or.inl (neTG tgz_159 tgz_164 (by decide)))).trans h4))) rfl rfl rfl tgz_159 (by decide +kernel) ?_
    refine En_Ps 2 (pc' := 43) (lv' := [(0, .ref 159), (1, .int a), (2, .int b), (3, .int c), (4, .int d), (5, .int e)]) (st' := [.int d, .int ((Int32.ofInt 3)), .ref 164]) rfl ?_
    refine En_iast (l := (-2147483648)) (u := 2147483647) rfl (by decide : (Int32.ofInt 3).toInt = 3) tgz_164 (by decide +kernel) (by omega) (lnI (by decide +kernel : LN _ = 5) (by omega)) (FTsgl (by decide +kernel)) (fullI _) h19 h20 (by decide +kernel) (fun σ24 h25 h26 h27 h28 => ?_)
    have h29 : ∀ i : Int, ci σ24 163 i = ci σ0 163 i := fun i => (ci_ne h28 (by decide) i).trans (h23 i)
    refine En_Ps 1 (pc' := 45) (lv' := [(0, .ref 159), (1, .int a), (2, .int b), (3, .int c), (4, .int d), (5, .int e)]) (st' := [.ref 159]) rfl ?_
    refine En_getK (j := 6) ((h28 _ _ (Or.inl (neTG tgz_159 tgz_164 (by decide)))).trans ((h22 _ _ (Or.inl (neTG tgz_159 tgz_164 (by decide)))).trans ((h16 _ _ (Or.inl (neTG tgz_159 tgz_164 (by decide)))).trans ((h10 _ _ (Or.inl (neTG tgz_159 tgz_164 (by decide)))).trans h4)))) rfl rfl rfl tgz_159 (by decide +kernel) ?_
    refine En_Ps 2 (pc' := 51) (lv' := [(0, .ref 159), (1, .int a), (2, .int b), (3, .int c), (4, .int d), (5, .int e)]) (st' := [.int e, .int ((Int32.ofInt 4)), .ref 164]) rfl ?_
    refine En_iast (l := (-2147483648)) (u := 2147483647) rfl (by decide : (Int32.ofInt 4).toInt = 4) tgz_164 (by decide +kernel) (by omega) (lnI (by decide +kernel : LN _ = 5) (by omega)) (FTsgl (by decide +kernel)) (fullI _) h25 h26 (by decide +kernel) (fun σ30 h31 h32 h33 h34 => ?_)
    have h35 : ∀ i : Int, ci σ30 163 i = ci σ0 163 i := fun i => (ci_ne h34 (by decide) i).trans (h29 i)
    refine En_Ps 2 (pc' := 55) (lv' := [(6, .int ((Int32.ofInt 0))), (0, .ref 159), (1, .int a), (2, .int b), (3, .int c), (4, .int d), (5, .int e)]) (st' := []) rfl ?_
    have key55 : ∀ (n55 : Nat) (σ37 : SG) (y36 : Int32), WT σ37 → Fr [(35, 5), (39, 0), (40, 0)] σ0 σ37 → (σ37 159)[5]? = some (.int m) → (σ37 159)[6]? = some (.ref 164) → (σ37 164)[(0 : Int).toNat]? = some (.int a) → (σ37 164)[(1 : Int).toNat]? = some (.int b) → (σ37 164)[(2 : Int).toNat]? = some (.int c) → (σ37 164)[(3 : Int).toNat]? = some (.int d) → (σ37 164)[(4 : Int).toNat]? = some (.int e) → 0 ≤ y36.toInt → y36.toInt ≤ 20 → -y36.toInt + 20 < (n55 : Int) → FDP σ0 σ37 163 m.toInt y36.toInt a b c d e → En 0 0 none mr_226 (P_226x σ0 a b c d e m) 55 [(0, .ref 159), (1, .int a), (2, .int b), (3, .int c), (4, .int d), (5, .int e), (6, .int y36)] [] σ37 := by
      intro n55
      induction n55 with
      | zero =>
        intro σ37 y36 h38 h39 h40 h41 h42 h43 h44 h45 h46 h47 h48 h49 h50
        exfalso; omega
      | succ n55 ih55 =>
        intro σ37 y36 h38 h39 h40 h41 h42 h43 h44 h45 h46 h47 h48 h49 h50
        refine En_Ps 2 (pc' := 59) (lv' := [(0, .ref 159), (1, .int a), (2, .int b), (3, .int c), (4, .int d), (5, .int e), (6, .int y36)]) (st' := [.int (((Int8.ofInt 20).toInt32)), .int y36]) rfl ?_
        refine En_icGe _ rfl (by decide : ((Int8.ofInt 20).toInt32).toInt = 20) rfl (fun h51 => ?_) (fun h51 => ?_)
        · refine En_Ps 2 (pc' := 103) (lv' := [(0, .ref 159), (1, .int a), (2, .int b), (3, .int c), (4, .int d), (5, .int e), (6, .int y36)]) (st' := [.ref 159, .ref 159]) rfl ?_
          refine En_getK (j := 5) h40 rfl rfl rfl tgz_159 (by decide +kernel) ?_
          refine En_Ps 2 (pc' := 109) (lv' := [(0, .ref 159), (1, .int a), (2, .int b), (3, .int c), (4, .int d), (5, .int e), (6, .int y36)]) (st' := [.int ((m + (((Int8.ofInt 20).toInt32)))), .ref 159]) rfl ?_
          refine En_top (addI rfl (by decide : ((Int8.ofInt 20).toInt32).toInt = 20) (by omega) (by omega)) (fun z52 h53 => ?_)
          refine En_put (j := 5) rfl rfl rfl tgz_159 (by decide +kernel) rfl (vI (l := 0) (u := 1600) (by decide +kernel) rfl (by omega) (by omega)) h38 h39 (by decide +kernel) (fun σ54 h55 h56 h57 h58 => ?_)
          have h59 := FDP_ne h50 h58 (by decide)
          refine En_Ps 1 (pc' := 113) (lv' := [(0, .ref 159), (1, .int a), (2, .int b), (3, .int c), (4, .int d), (5, .int e), (6, .int y36)]) (st' := [.ref 159]) rfl ?_
          refine En_getK (j := 5) h57 rfl rfl rfl tgz_159 (by decide +kernel) ?_
          exact En_ret (v := some (.int z52)) rfl rfl rfl ⟨h55, h56, z52, h57, z52, rfl, ⟨by omega, by omega, by omega, by omega, by omega, by omega, fun _ => by omega, fun _ => by omega, ⟨fun _ => FDP_c h59 (by omega), fun h => absurd h (by omega)⟩⟩⟩
        · refine En_Ps 1 (pc' := 63) (lv' := [(0, .ref 159), (1, .int a), (2, .int b), (3, .int c), (4, .int d), (5, .int e), (6, .int y36)]) (st' := [.ref 159]) rfl ?_
          refine En_getU (j := 4) (u := 163) (g' := 39) (q := 0) rfl rfl rfl tgz_159 (by decide +kernel) h38 (by decide +kernel) (by decide +kernel) (fun h60 => ?_)
          refine En_Ps 1 (pc' := 67) (lv' := [(0, .ref 159), (1, .int a), (2, .int b), (3, .int c), (4, .int d), (5, .int e), (6, .int y36)]) (st' := [.ref 159, .ref 163]) rfl ?_
          refine En_getK (j := 5) h40 rfl rfl rfl tgz_159 (by decide +kernel) ?_
          refine En_Ps 2 (pc' := 73) (lv' := [(0, .ref 159), (1, .int a), (2, .int b), (3, .int c), (4, .int d), (5, .int e), (6, .int y36)]) (st' := [.int ((m + y36)), .ref 163]) rfl ?_
          refine En_top (addI rfl rfl (by omega) (by omega)) (fun z62 h63 => ?_)
          refine En_Ps 1 (pc' := 74) (lv' := [(0, .ref 159), (1, .int a), (2, .int b), (3, .int c), (4, .int d), (5, .int e), (6, .int y36)]) (st' := [.ref 159, .int z62, .ref 163]) rfl ?_
          refine En_getK (j := 6) h41 rfl rfl rfl tgz_159 (by decide +kernel) ?_
          refine En_Ps 2 (pc' := 80) (lv' := [(0, .ref 159), (1, .int a), (2, .int b), (3, .int c), (4, .int d), (5, .int e), (6, .int y36)]) (st' := [.int ((Int32.ofInt 4)), .int y36, .ref 164, .int z62, .ref 163]) rfl ?_
          refine En_idiv (c := 4) rfl rfl (by decide : (Int32.ofInt 4).toInt = 4) (by omega) (by decide) (fun z64 h65 => ?_)
          refine En_iald (l := (-2147483648)) (u := 2147483647) rfl rfl tgz_164 (by decide +kernel) h38 (by omega) (lnI (by decide +kernel : LN _ = 5) (by omega)) (FTsgl (by decide +kernel)) (fun z67 h66 h68 h69 => ?_)
          have h70 := FV_sel h42 h43 h44 h45 h46 h66 (by omega) (by omega)
          refine En_Ps 4 (pc' := 89) (lv' := [(0, .ref 159), (1, .int a), (2, .int b), (3, .int c), (4, .int d), (5, .int e), (6, .int y36)]) (st' := [.int ((Int32.ofInt 4)), .int y36, .int (((Int8.ofInt 8).toInt32)), .int (((Int8.ofInt 24).toInt32)), .int z67, .int z62, .ref 163]) rfl ?_
          refine En_irem (c := 4) rfl rfl (by decide : (Int32.ofInt 4).toInt = 4) (by omega) (by decide) (fun z71 h72 => ?_)
          refine En_Ps 1 (pc' := 91) (lv' := [(0, .ref 159), (1, .int a), (2, .int b), (3, .int c), (4, .int d), (5, .int e), (6, .int y36)]) (st' := [.int (((((Int8.ofInt 8).toInt32)) * z71)), .int (((Int8.ofInt 24).toInt32)), .int z67, .int z62, .ref 163]) rfl ?_
          refine En_top (mulI (by decide : ((Int8.ofInt 8).toInt32).toInt = 8) rfl (Z := 8 * z71.toInt) (by omega) (by omega) (by omega)) (fun z73 h74 => ?_)
          refine En_Ps 1 (pc' := 92) (lv' := [(0, .ref 159), (1, .int a), (2, .int b), (3, .int c), (4, .int d), (5, .int e), (6, .int y36)]) (st' := [.int (((((Int8.ofInt 24).toInt32)) - z73)), .int z67, .int z62, .ref 163]) rfl ?_
          refine En_top (subI (by decide : ((Int8.ofInt 24).toInt32).toInt = 24) rfl (by omega) (by omega)) (fun z75 h76 => ?_)
          refine En_Ps 2 (pc' := 94) (lv' := [(0, .ref 159), (1, .int a), (2, .int b), (3, .int c), (4, .int d), (5, .int e), (6, .int y36)]) (st' := [.int (((z67 >>> (z75 &&& 31)).toInt8.toInt32)), .int z62, .ref 163]) rfl ?_
          refine En_nam (fun z77 h78 => ?_)
          have h79 := b4_s (j := y36.toInt % 4) h78 (by omega)
          have h80 := b4_rng z67 (y36.toInt % 4)
          refine En_bast (l := (-128)) (u := 127) rfl rfl tgz_163 (by decide +kernel) (narB rfl (by omega) (by omega)) (by omega) (lnI (by decide +kernel : LN _ = 1600) (by omega)) (FTsgl (by decide +kernel)) (rngI rfl (by omega) (by omega)) h38 h39 (by decide +kernel) (fun σ81 h82 h83 h84 h85 => ?_)
          have h86 := FDP_s (J := z62.toInt) (y := y36.toInt) (y' := y36.toInt + 1) h50 h84 h85 (by omega) (by omega) (by omega) h70 h79 (by omega) (by omega) rfl
          refine En_Ps 1 (pc' := 98) (lv' := [(6, .int ((y36 + Int32.ofInt 1))), (0, .ref 159), (1, .int a), (2, .int b), (3, .int c), (4, .int d), (5, .int e)]) (st' := []) rfl ?_
          refine En_lv1 (addI rfl (by decide : (Int32.ofInt 1).toInt = 1) (by omega) (by omega)) (fun z87 h88 => ?_)
          refine En_Ps 1 (pc' := 55) (lv' := [(6, .int z87), (0, .ref 159), (1, .int a), (2, .int b), (3, .int c), (4, .int d), (5, .int e)]) (st' := []) rfl ?_
          refine En_lv (lv := [(0, .ref 159), (1, .int a), (2, .int b), (3, .int c), (4, .int d), (5, .int e), (6, .int z87)]) ⟨rfl, rfl, rfl, rfl, rfl, rfl, rfl, trivial⟩ ?_
          exact ih55 σ81 z87 h82 h83 ((h85 _ _ (Or.inl (neTG tgz_159 tgz_163 (by decide)))).trans h40) ((h85 _ _ (Or.inl (neTG tgz_159 tgz_163 (by decide)))).trans h41) ((h85 _ _ (Or.inl (neTG tgz_164 tgz_163 (by decide)))).trans h42) ((h85 _ _ (Or.inl (neTG tgz_164 tgz_163 (by decide)))).trans h43) ((h85 _ _ (Or.inl (neTG tgz_164 tgz_163 (by decide)))).trans h44) ((h85 _ _ (Or.inl (neTG tgz_164 tgz_163 (by decide)))).trans h45) ((h85 _ _ (Or.inl (neTG tgz_164 tgz_163 (by decide)))).trans h46) (by omega) (by omega) (by omega) (FDP_c h86 (by omega))
    have := (by decide : (Int32.ofInt 0).toInt = 0)
    refine En_lv (lv := [(0, .ref 159), (1, .int a), (2, .int b), (3, .int c), (4, .int d), (5, .int e), (6, .int ((Int32.ofInt 0)))]) ⟨rfl, rfl, rfl, rfl, rfl, rfl, rfl, trivial⟩ ?_
    exact key55 (Int.toNat (20) + 1) σ30 ((Int32.ofInt 0)) h31 h32 ((h34 _ _ (Or.inl (neTG tgz_159 tgz_164 (by decide)))).trans ((h28 _ _ (Or.inl (neTG tgz_159 tgz_164 (by decide)))).trans ((h22 _ _ (Or.inl (neTG tgz_159 tgz_164 (by decide)))).trans ((h16 _ _ (Or.inl (neTG tgz_159 tgz_164 (by decide)))).trans ((h10 _ _ (Or.inl (neTG tgz_159 tgz_164 (by decide)))).trans h_m))))) ((h34 _ _ (Or.inl (neTG tgz_159 tgz_164 (by decide)))).trans ((h28 _ _ (Or.inl (neTG tgz_159 tgz_164 (by decide)))).trans ((h22 _ _ (Or.inl (neTG tgz_159 tgz_164 (by decide)))).trans ((h16 _ _ (Or.inl (neTG tgz_159 tgz_164 (by decide)))).trans ((h10 _ _ (Or.inl (neTG tgz_159 tgz_164 (by decide)))).trans h4))))) ((h34 _ _ (Or.inr (by omega))).trans ((h28 _ _ (Or.inr (by omega))).trans ((h22 _ _ (Or.inr (by omega))).trans ((h16 _ _ (Or.inr (by omega))).trans h9)))) ((h34 _ _ (Or.inr (by omega))).trans ((h28 _ _ (Or.inr (by omega))).trans ((h22 _ _ (Or.inr (by omega))).trans h15))) ((h34 _ _ (Or.inr (by omega))).trans ((h28 _ _ (Or.inr (by omega))).trans h21)) ((h34 _ _ (Or.inr (by omega))).trans h27) h33 (by omega) (by omega) (by omega) (FDP_0 (by decide) h35)
  · refine En_Ps 1 (pc' := 14) (lv' := [(0, .ref 159), (1, .int a), (2, .int b), (3, .int c), (4, .int d), (5, .int e)]) (st' := [.int ((Int32.ofInt (-1)))]) rfl ?_
    refine En_top (by decide : (Int32.ofInt (-1)).toInt = -1) (fun z89 h90 => ?_)
    exact En_ret (v := some (.int z89)) rfl rfl rfl ⟨hσ0, hF0, m, h_m, z89, rfl, ⟨by omega, by omega, by omega, by omega, by omega, by omega, fun _ => by omega, fun _ => by omega, ⟨fun h => absurd h (by omega), fun _ _ => rfl⟩⟩⟩

