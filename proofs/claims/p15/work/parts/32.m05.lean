/-- DoorSchoolModel.takes(Ljava/lang/String;)Z -/
abbrev P_318s1x (σ0 : SG) (By : Int → Int) (Nb : Int) (Sp : PS) (f : Int32) : PO := fun v σ => WT σ ∧ Fr [(35, 8), (35, 9), (35, 10), (35, 11)] σ0 σ ∧ ∃ f1 : Int32, (σ 159)[8]? = some (.int f1) ∧ ∃ ret : Int32, v = some (.int ret) ∧ -ret.toInt ≤ 0 ∧ ret.toInt - 1 ≤ 0 ∧ -f1.toInt ≤ 0 ∧ f1.toInt - 1600 ≤ 0 ∧ -f1.toInt + f.toInt ≤ 0 ∧ f1.toInt - f.toInt - 1600 ≤ 0 ∧ f.toInt - f1.toInt ≤ 0 ∧ ((ret.toInt = 0 → σ0 = σ) ∧ ret.toInt = iW By Nb 1 Sp ∧ (ret.toInt = 1 → ML By Nb σ (adv By Nb Sp)))
set_option maxRecDepth 10000 in
set_option maxHeartbeats 4000000 in
theorem c_318s1x {By : Int → Int} {Nb : Int} {Sp : PS} (σ0 : SG) (hσ0 : WT σ0) (f : Int32) (h_f : (σ0 159)[8]? = some (.int f)) (hM : ML By Nb σ0 Sp) : En 5 113 none mr_318 (P_318s1x σ0 By Nb Sp f) 0 [(0, .ref 159), (1, .retAddr 3)] [] σ0 := by
  obtain ⟨hl_f, hu_f⟩ := WT_int hσ0 (g := 35) (by decide +kernel) (by decide +kernel) (l := 0) (u := 1600) (by decide +kernel) h_f
  have hF0 : Fr [(35, 8), (35, 9), (35, 10), (35, 11)] σ0 σ0 := Fr_rfl
  obtain ⟨z2, h1, h3, h4⟩ := WT_peekI hσ0 tgz_159 (by decide +kernel : FT 35 12 = (0, 0, 3)) (by decide +kernel)
  have h5 := ML_k hM h1
  refine En_Ps 2 (pc' := 2) (lv' := [(0, .ref 159), (1, .retAddr 3)]) (st' := [.retAddr 3, .ref 159]) rfl ?_
  refine En_callV rfl rfl rfl rfl rfl rfl rfl rfl tgz_159 (by decide +kernel) rfl (c_251s1x σ0 hσ0 hM) (by decide) (by decide) (fun v7 σ8 h6 => ?_)
  obtain ⟨h9, h10, z12, rfl, h11⟩ := h6
  have h13 := h11.2.2
  obtain rfl : σ0 = σ8 := Fr_nil h10
  refine En_Ps 2 (pc' := 7) (lv' := [(2, .int z12), (0, .ref 159), (1, .retAddr 3)]) (st' := [.int z12]) rfl ?_
  refine En_iEq _ rfl rfl (fun h14 => ?_) (fun h14 => ?_)
  · refine En_Ps 1 (pc' := 15) (lv' := [(2, .int z12), (0, .ref 159), (1, .retAddr 3)]) (st' := [.int z12]) rfl ?_
    exact En_ret (v := some (.int z12)) rfl rfl (retZ rfl rfl (by omega) (by omega)) ⟨hσ0, hF0, f, h_f, z12, rfl, ⟨by omega, by omega, by omega, by omega, by omega, by omega, by omega, ⟨fun hz => rfl, by omega, fun hz => absurd hz (by omega)⟩⟩⟩
  · have h15 : Sp.1 = 0 := iW_g (i := 1) (B := By) (n := Nb) (by omega)
    refine En_Ps 1 (pc' := 11) (lv' := [(2, .int z12), (0, .ref 159), (1, .retAddr 3)]) (st' := [.ref 159]) rfl ?_
    refine En_callV rfl rfl rfl rfl rfl rfl rfl rfl tgz_159 (by decide +kernel) rfl (c_189x σ0 hσ0 f h_f hM.1 (ML_at hM (by omega) h_f)) (by decide) (by decide) (fun v17 σ18 h16 => ?_)
    obtain ⟨h19, h20, z22, h23, z24, h25, rfl, h21⟩ := h16
    have h26 := h21.2.2.2.2.2.2.2.2.2.2
    have h27 := Fr_trans hF0 h20 (by decide +kernel)
    obtain ⟨S28, h29⟩ : ∃ q : PS, q = adv By Nb Sp := ⟨_, rfl⟩
    have h30 : ML By Nb σ18 S28 := by rw [h29]; exact (ML_adv hM (by omega) h_f h20 (by decide +kernel) h26.2)
    have h31 := ML_k h30 ((h20 _ _ (inW tgz_159 (by decide +kernel))).trans h1)
    have h32 : Imp (S28.1 = 0) (tK By Nb S28.2.2.1 = z24.toInt) := ML_t h30 h25
    have h33 : S28.2.2.2 = Sp.2.2.2 := by rw [h29]; exact adv_w
    refine En_Ps 1 (pc' := 15) (lv' := [(2, .int z12), (0, .ref 159), (1, .retAddr 3)]) (st' := [.int z12]) rfl ?_
    exact En_ret (v := some (.int z12)) rfl rfl (retZ rfl rfl (by omega) (by omega)) ⟨h19, h27, z22, h23, z12, rfl, ⟨by omega, by omega, by omega, by omega, by omega, by omega, by omega, ⟨fun hz => absurd hz (by omega), by omega, fun hz => ML_eq h30 h29⟩⟩⟩
/-- DoorSchoolModel.takes(Ljava/lang/String;)Z -/
abbrev P_318s2x (σ0 : SG) (By : Int → Int) (Nb : Int) (Sp : PS) (f : Int32) : PO := fun v σ => WT σ ∧ Fr [(35, 8), (35, 9), (35, 10), (35, 11)] σ0 σ ∧ ∃ f1 : Int32, (σ 159)[8]? = some (.int f1) ∧ ∃ ret : Int32, v = some (.int ret) ∧ -ret.toInt ≤ 0 ∧ ret.toInt - 1 ≤ 0 ∧ -f1.toInt ≤ 0 ∧ f1.toInt - 1600 ≤ 0 ∧ -f1.toInt + f.toInt ≤ 0 ∧ f1.toInt - f.toInt - 1600 ≤ 0 ∧ f.toInt - f1.toInt ≤ 0 ∧ ((ret.toInt = 0 → σ0 = σ) ∧ ret.toInt = iW By Nb 2 Sp ∧ (ret.toInt = 1 → ML By Nb σ (adv By Nb Sp)))
set_option maxRecDepth 10000 in
set_option maxHeartbeats 4000000 in
theorem c_318s2x {By : Int → Int} {Nb : Int} {Sp : PS} (σ0 : SG) (hσ0 : WT σ0) (f : Int32) (h_f : (σ0 159)[8]? = some (.int f)) (hM : ML By Nb σ0 Sp) : En 5 113 none mr_318 (P_318s2x σ0 By Nb Sp f) 0 [(0, .ref 159), (1, .retAddr 5)] [] σ0 := by
  obtain ⟨hl_f, hu_f⟩ := WT_int hσ0 (g := 35) (by decide +kernel) (by decide +kernel) (l := 0) (u := 1600) (by decide +kernel) h_f
  have hF0 : Fr [(35, 8), (35, 9), (35, 10), (35, 11)] σ0 σ0 := Fr_rfl
  obtain ⟨z2, h1, h3, h4⟩ := WT_peekI hσ0 tgz_159 (by decide +kernel : FT 35 12 = (0, 0, 3)) (by decide +kernel)
  have h5 := ML_k hM h1
  refine En_Ps 2 (pc' := 2) (lv' := [(0, .ref 159), (1, .retAddr 5)]) (st' := [.retAddr 5, .ref 159]) rfl ?_
  refine En_callV rfl rfl rfl rfl rfl rfl rfl rfl tgz_159 (by decide +kernel) rfl (c_251s2x σ0 hσ0 hM) (by decide) (by decide) (fun v7 σ8 h6 => ?_)
  obtain ⟨h9, h10, z12, rfl, h11⟩ := h6
  have h13 := h11.2.2
  obtain rfl : σ0 = σ8 := Fr_nil h10
  refine En_Ps 2 (pc' := 7) (lv' := [(2, .int z12), (0, .ref 159), (1, .retAddr 5)]) (st' := [.int z12]) rfl ?_
  refine En_iEq _ rfl rfl (fun h14 => ?_) (fun h14 => ?_)
  · refine En_Ps 1 (pc' := 15) (lv' := [(2, .int z12), (0, .ref 159), (1, .retAddr 5)]) (st' := [.int z12]) rfl ?_
    exact En_ret (v := some (.int z12)) rfl rfl (retZ rfl rfl (by omega) (by omega)) ⟨hσ0, hF0, f, h_f, z12, rfl, ⟨by omega, by omega, by omega, by omega, by omega, by omega, by omega, ⟨fun hz => rfl, by omega, fun hz => absurd hz (by omega)⟩⟩⟩
  · have h15 : Sp.1 = 0 := iW_g (i := 2) (B := By) (n := Nb) (by omega)
    refine En_Ps 1 (pc' := 11) (lv' := [(2, .int z12), (0, .ref 159), (1, .retAddr 5)]) (st' := [.ref 159]) rfl ?_
    refine En_callV rfl rfl rfl rfl rfl rfl rfl rfl tgz_159 (by decide +kernel) rfl (c_189x σ0 hσ0 f h_f hM.1 (ML_at hM (by omega) h_f)) (by decide) (by decide) (fun v17 σ18 h16 => ?_)
    obtain ⟨h19, h20, z22, h23, z24, h25, rfl, h21⟩ := h16
    have h26 := h21.2.2.2.2.2.2.2.2.2.2
    have h27 := Fr_trans hF0 h20 (by decide +kernel)
    obtain ⟨S28, h29⟩ : ∃ q : PS, q = adv By Nb Sp := ⟨_, rfl⟩
    have h30 : ML By Nb σ18 S28 := by rw [h29]; exact (ML_adv hM (by omega) h_f h20 (by decide +kernel) h26.2)
    have h31 := ML_k h30 ((h20 _ _ (inW tgz_159 (by decide +kernel))).trans h1)
    have h32 : Imp (S28.1 = 0) (tK By Nb S28.2.2.1 = z24.toInt) := ML_t h30 h25
    have h33 : S28.2.2.2 = Sp.2.2.2 := by rw [h29]; exact adv_w
    refine En_Ps 1 (pc' := 15) (lv' := [(2, .int z12), (0, .ref 159), (1, .retAddr 5)]) (st' := [.int z12]) rfl ?_
    exact En_ret (v := some (.int z12)) rfl rfl (retZ rfl rfl (by omega) (by omega)) ⟨h19, h27, z22, h23, z12, rfl, ⟨by omega, by omega, by omega, by omega, by omega, by omega, by omega, ⟨fun hz => absurd hz (by omega), by omega, fun hz => ML_eq h30 h29⟩⟩⟩
/-- DoorSchoolModel.takes(Ljava/lang/String;)Z -/
abbrev P_318s3x (σ0 : SG) (By : Int → Int) (Nb : Int) (Sp : PS) (f : Int32) : PO := fun v σ => WT σ ∧ Fr [(35, 8), (35, 9), (35, 10), (35, 11)] σ0 σ ∧ ∃ f1 : Int32, (σ 159)[8]? = some (.int f1) ∧ ∃ ret : Int32, v = some (.int ret) ∧ -ret.toInt ≤ 0 ∧ ret.toInt - 1 ≤ 0 ∧ -f1.toInt ≤ 0 ∧ f1.toInt - 1600 ≤ 0 ∧ -f1.toInt + f.toInt ≤ 0 ∧ f1.toInt - f.toInt - 1600 ≤ 0 ∧ f.toInt - f1.toInt ≤ 0 ∧ ((ret.toInt = 0 → σ0 = σ) ∧ ret.toInt = iW By Nb 3 Sp ∧ (ret.toInt = 1 → ML By Nb σ (adv By Nb Sp)))
set_option maxRecDepth 10000 in
set_option maxHeartbeats 4000000 in
theorem c_318s3x {By : Int → Int} {Nb : Int} {Sp : PS} (σ0 : SG) (hσ0 : WT σ0) (f : Int32) (h_f : (σ0 159)[8]? = some (.int f)) (hM : ML By Nb σ0 Sp) : En 5 113 none mr_318 (P_318s3x σ0 By Nb Sp f) 0 [(0, .ref 159), (1, .retAddr 7)] [] σ0 := by
  obtain ⟨hl_f, hu_f⟩ := WT_int hσ0 (g := 35) (by decide +kernel) (by decide +kernel) (l := 0) (u := 1600) (by decide +kernel) h_f
  have hF0 : Fr [(35, 8), (35, 9), (35, 10), (35, 11)] σ0 σ0 := Fr_rfl
  obtain ⟨z2, h1, h3, h4⟩ := WT_peekI hσ0 tgz_159 (by decide +kernel : FT 35 12 = (0, 0, 3)) (by decide +kernel)
  have h5 := ML_k hM h1
  refine En_Ps 2 (pc' := 2) (lv' := [(0, .ref 159), (1, .retAddr 7)]) (st' := [.retAddr 7, .ref 159]) rfl ?_
  refine En_callV rfl rfl rfl rfl rfl rfl rfl rfl tgz_159 (by decide +kernel) rfl (c_251s3x σ0 hσ0 hM) (by decide) (by decide) (fun v7 σ8 h6 => ?_)
  obtain ⟨h9, h10, z12, rfl, h11⟩ := h6
  have h13 := h11.2.2
  obtain rfl : σ0 = σ8 := Fr_nil h10
  refine En_Ps 2 (pc' := 7) (lv' := [(2, .int z12), (0, .ref 159), (1, .retAddr 7)]) (st' := [.int z12]) rfl ?_
  refine En_iEq _ rfl rfl (fun h14 => ?_) (fun h14 => ?_)
  · refine En_Ps 1 (pc' := 15) (lv' := [(2, .int z12), (0, .ref 159), (1, .retAddr 7)]) (st' := [.int z12]) rfl ?_
    exact En_ret (v := some (.int z12)) rfl rfl (retZ rfl rfl (by omega) (by omega)) ⟨hσ0, hF0, f, h_f, z12, rfl, ⟨by omega, by omega, by omega, by omega, by omega, by omega, by omega, ⟨fun hz => rfl, by omega, fun hz => absurd hz (by omega)⟩⟩⟩
  · have h15 : Sp.1 = 0 := iW_g (i := 3) (B := By) (n := Nb) (by omega)
    refine En_Ps 1 (pc' := 11) (lv' := [(2, .int z12), (0, .ref 159), (1, .retAddr 7)]) (st' := [.ref 159]) rfl ?_
    refine En_callV rfl rfl rfl rfl rfl rfl rfl rfl tgz_159 (by decide +kernel) rfl (c_189x σ0 hσ0 f h_f hM.1 (ML_at hM (by omega) h_f)) (by decide) (by decide) (fun v17 σ18 h16 => ?_)
    obtain ⟨h19, h20, z22, h23, z24, h25, rfl, h21⟩ := h16
    have h26 := h21.2.2.2.2.2.2.2.2.2.2
    have h27 := Fr_trans hF0 h20 (by decide +kernel)
    obtain ⟨S28, h29⟩ : ∃ q : PS, q = adv By Nb Sp := ⟨_, rfl⟩
    have h30 : ML By Nb σ18 S28 := by rw [h29]; exact (ML_adv hM (by omega) h_f h20 (by decide +kernel) h26.2)
    have h31 := ML_k h30 ((h20 _ _ (inW tgz_159 (by decide +kernel))).trans h1)
    have h32 : Imp (S28.1 = 0) (tK By Nb S28.2.2.1 = z24.toInt) := ML_t h30 h25
    have h33 : S28.2.2.2 = Sp.2.2.2 := by rw [h29]; exact adv_w
    refine En_Ps 1 (pc' := 15) (lv' := [(2, .int z12), (0, .ref 159), (1, .retAddr 7)]) (st' := [.int z12]) rfl ?_
    exact En_ret (v := some (.int z12)) rfl rfl (retZ rfl rfl (by omega) (by omega)) ⟨h19, h27, z22, h23, z12, rfl, ⟨by omega, by omega, by omega, by omega, by omega, by omega, by omega, ⟨fun hz => absurd hz (by omega), by omega, fun hz => ML_eq h30 h29⟩⟩⟩
/-- DoorSchoolModel.takes(Ljava/lang/String;)Z -/
abbrev P_318s4x (σ0 : SG) (By : Int → Int) (Nb : Int) (Sp : PS) (f : Int32) : PO := fun v σ => WT σ ∧ Fr [(35, 8), (35, 9), (35, 10), (35, 11)] σ0 σ ∧ ∃ f1 : Int32, (σ 159)[8]? = some (.int f1) ∧ ∃ ret : Int32, v = some (.int ret) ∧ -ret.toInt ≤ 0 ∧ ret.toInt - 1 ≤ 0 ∧ -f1.toInt ≤ 0 ∧ f1.toInt - 1600 ≤ 0 ∧ -f1.toInt + f.toInt ≤ 0 ∧ f1.toInt - f.toInt - 1600 ≤ 0 ∧ f.toInt - f1.toInt ≤ 0 ∧ ((ret.toInt = 0 → σ0 = σ) ∧ ret.toInt = iW By Nb 4 Sp ∧ (ret.toInt = 1 → ML By Nb σ (adv By Nb Sp)))
set_option maxRecDepth 10000 in
set_option maxHeartbeats 4000000 in
theorem c_318s4x {By : Int → Int} {Nb : Int} {Sp : PS} (σ0 : SG) (hσ0 : WT σ0) (f : Int32) (h_f : (σ0 159)[8]? = some (.int f)) (hM : ML By Nb σ0 Sp) : En 5 113 none mr_318 (P_318s4x σ0 By Nb Sp f) 0 [(0, .ref 159), (1, .retAddr 9)] [] σ0 := by
  obtain ⟨hl_f, hu_f⟩ := WT_int hσ0 (g := 35) (by decide +kernel) (by decide +kernel) (l := 0) (u := 1600) (by decide +kernel) h_f
  have hF0 : Fr [(35, 8), (35, 9), (35, 10), (35, 11)] σ0 σ0 := Fr_rfl
  obtain ⟨z2, h1, h3, h4⟩ := WT_peekI hσ0 tgz_159 (by decide +kernel : FT 35 12 = (0, 0, 3)) (by decide +kernel)
  have h5 := ML_k hM h1
  refine En_Ps 2 (pc' := 2) (lv' := [(0, .ref 159), (1, .retAddr 9)]) (st' := [.retAddr 9, .ref 159]) rfl ?_
  refine En_callV rfl rfl rfl rfl rfl rfl rfl rfl tgz_159 (by decide +kernel) rfl (c_251s4x σ0 hσ0 hM) (by decide) (by decide) (fun v7 σ8 h6 => ?_)
  obtain ⟨h9, h10, z12, rfl, h11⟩ := h6
  have h13 := h11.2.2
  obtain rfl : σ0 = σ8 := Fr_nil h10
  refine En_Ps 2 (pc' := 7) (lv' := [(2, .int z12), (0, .ref 159), (1, .retAddr 9)]) (st' := [.int z12]) rfl ?_
  refine En_iEq _ rfl rfl (fun h14 => ?_) (fun h14 => ?_)
  · refine En_Ps 1 (pc' := 15) (lv' := [(2, .int z12), (0, .ref 159), (1, .retAddr 9)]) (st' := [.int z12]) rfl ?_
    exact En_ret (v := some (.int z12)) rfl rfl (retZ rfl rfl (by omega) (by omega)) ⟨hσ0, hF0, f, h_f, z12, rfl, ⟨by omega, by omega, by omega, by omega, by omega, by omega, by omega, ⟨fun hz => rfl, by omega, fun hz => absurd hz (by omega)⟩⟩⟩
  · have h15 : Sp.1 = 0 := iW_g (i := 4) (B := By) (n := Nb) (by omega)
    refine En_Ps 1 (pc' := 11) (lv' := [(2, .int z12), (0, .ref 159), (1, .retAddr 9)]) (st' := [.ref 159]) rfl ?_
    refine En_callV rfl rfl rfl rfl rfl rfl rfl rfl tgz_159 (by decide +kernel) rfl (c_189x σ0 hσ0 f h_f hM.1 (ML_at hM (by omega) h_f)) (by decide) (by decide) (fun v17 σ18 h16 => ?_)
    obtain ⟨h19, h20, z22, h23, z24, h25, rfl, h21⟩ := h16
    have h26 := h21.2.2.2.2.2.2.2.2.2.2
    have h27 := Fr_trans hF0 h20 (by decide +kernel)
    obtain ⟨S28, h29⟩ : ∃ q : PS, q = adv By Nb Sp := ⟨_, rfl⟩
    have h30 : ML By Nb σ18 S28 := by rw [h29]; exact (ML_adv hM (by omega) h_f h20 (by decide +kernel) h26.2)
    have h31 := ML_k h30 ((h20 _ _ (inW tgz_159 (by decide +kernel))).trans h1)
    have h32 : Imp (S28.1 = 0) (tK By Nb S28.2.2.1 = z24.toInt) := ML_t h30 h25
    have h33 : S28.2.2.2 = Sp.2.2.2 := by rw [h29]; exact adv_w
    refine En_Ps 1 (pc' := 15) (lv' := [(2, .int z12), (0, .ref 159), (1, .retAddr 9)]) (st' := [.int z12]) rfl ?_
    exact En_ret (v := some (.int z12)) rfl rfl (retZ rfl rfl (by omega) (by omega)) ⟨h19, h27, z22, h23, z12, rfl, ⟨by omega, by omega, by omega, by omega, by omega, by omega, by omega, ⟨fun hz => absurd hz (by omega), by omega, fun hz => ML_eq h30 h29⟩⟩⟩
/-- DoorSchoolModel.takes(Ljava/lang/String;)Z -/
abbrev P_318s5x (σ0 : SG) (By : Int → Int) (Nb : Int) (Sp : PS) (f : Int32) : PO := fun v σ => WT σ ∧ Fr [(35, 8), (35, 9), (35, 10), (35, 11)] σ0 σ ∧ ∃ f1 : Int32, (σ 159)[8]? = some (.int f1) ∧ ∃ ret : Int32, v = some (.int ret) ∧ -ret.toInt ≤ 0 ∧ ret.toInt - 1 ≤ 0 ∧ -f1.toInt ≤ 0 ∧ f1.toInt - 1600 ≤ 0 ∧ -f1.toInt + f.toInt ≤ 0 ∧ f1.toInt - f.toInt - 1600 ≤ 0 ∧ f.toInt - f1.toInt ≤ 0 ∧ ((ret.toInt = 0 → σ0 = σ) ∧ ret.toInt = iW By Nb 5 Sp ∧ (ret.toInt = 1 → ML By Nb σ (adv By Nb Sp)))
set_option maxRecDepth 10000 in
set_option maxHeartbeats 4000000 in
theorem c_318s5x {By : Int → Int} {Nb : Int} {Sp : PS} (σ0 : SG) (hσ0 : WT σ0) (f : Int32) (h_f : (σ0 159)[8]? = some (.int f)) (hM : ML By Nb σ0 Sp) : En 5 113 none mr_318 (P_318s5x σ0 By Nb Sp f) 0 [(0, .ref 159), (1, .retAddr 11)] [] σ0 := by
  obtain ⟨hl_f, hu_f⟩ := WT_int hσ0 (g := 35) (by decide +kernel) (by decide +kernel) (l := 0) (u := 1600) (by decide +kernel) h_f
  have hF0 : Fr [(35, 8), (35, 9), (35, 10), (35, 11)] σ0 σ0 := Fr_rfl
  obtain ⟨z2, h1, h3, h4⟩ := WT_peekI hσ0 tgz_159 (by decide +kernel : FT 35 12 = (0, 0, 3)) (by decide +kernel)
  have h5 := ML_k hM h1
  refine En_Ps 2 (pc' := 2) (lv' := [(0, .ref 159), (1, .retAddr 11)]) (st' := [.retAddr 11, .ref 159]) rfl ?_
  refine En_callV rfl rfl rfl rfl rfl rfl rfl rfl tgz_159 (by decide +kernel) rfl (c_251s5x σ0 hσ0 hM) (by decide) (by decide) (fun v7 σ8 h6 => ?_)
  obtain ⟨h9, h10, z12, rfl, h11⟩ := h6
  have h13 := h11.2.2
  obtain rfl : σ0 = σ8 := Fr_nil h10
  refine En_Ps 2 (pc' := 7) (lv' := [(2, .int z12), (0, .ref 159), (1, .retAddr 11)]) (st' := [.int z12]) rfl ?_
  refine En_iEq _ rfl rfl (fun h14 => ?_) (fun h14 => ?_)
  · refine En_Ps 1 (pc' := 15) (lv' := [(2, .int z12), (0, .ref 159), (1, .retAddr 11)]) (st' := [.int z12]) rfl ?_
    exact En_ret (v := some (.int z12)) rfl rfl (retZ rfl rfl (by omega) (by omega)) ⟨hσ0, hF0, f, h_f, z12, rfl, ⟨by omega, by omega, by omega, by omega, by omega, by omega, by omega, ⟨fun hz => rfl, by omega, fun hz => absurd hz (by omega)⟩⟩⟩
  · have h15 : Sp.1 = 0 := iW_g (i := 5) (B := By) (n := Nb) (by omega)
    refine En_Ps 1 (pc' := 11) (lv' := [(2, .int z12), (0, .ref 159), (1, .retAddr 11)]) (st' := [.ref 159]) rfl ?_
    refine En_callV rfl rfl rfl rfl rfl rfl rfl rfl tgz_159 (by decide +kernel) rfl (c_189x σ0 hσ0 f h_f hM.1 (ML_at hM (by omega) h_f)) (by decide) (by decide) (fun v17 σ18 h16 => ?_)
    obtain ⟨h19, h20, z22, h23, z24, h25, rfl, h21⟩ := h16
    have h26 := h21.2.2.2.2.2.2.2.2.2.2
    have h27 := Fr_trans hF0 h20 (by decide +kernel)
    obtain ⟨S28, h29⟩ : ∃ q : PS, q = adv By Nb Sp := ⟨_, rfl⟩
    have h30 : ML By Nb σ18 S28 := by rw [h29]; exact (ML_adv hM (by omega) h_f h20 (by decide +kernel) h26.2)
    have h31 := ML_k h30 ((h20 _ _ (inW tgz_159 (by decide +kernel))).trans h1)
    have h32 : Imp (S28.1 = 0) (tK By Nb S28.2.2.1 = z24.toInt) := ML_t h30 h25
    have h33 : S28.2.2.2 = Sp.2.2.2 := by rw [h29]; exact adv_w
    refine En_Ps 1 (pc' := 15) (lv' := [(2, .int z12), (0, .ref 159), (1, .retAddr 11)]) (st' := [.int z12]) rfl ?_
    exact En_ret (v := some (.int z12)) rfl rfl (retZ rfl rfl (by omega) (by omega)) ⟨h19, h27, z22, h23, z12, rfl, ⟨by omega, by omega, by omega, by omega, by omega, by omega, by omega, ⟨fun hz => absurd hz (by omega), by omega, fun hz => ML_eq h30 h29⟩⟩⟩
/-- DoorSchoolModel.takes(Ljava/lang/String;)Z -/
abbrev P_318s6x (σ0 : SG) (By : Int → Int) (Nb : Int) (Sp : PS) (f : Int32) : PO := fun v σ => WT σ ∧ Fr [(35, 8), (35, 9), (35, 10), (35, 11)] σ0 σ ∧ ∃ f1 : Int32, (σ 159)[8]? = some (.int f1) ∧ ∃ ret : Int32, v = some (.int ret) ∧ -ret.toInt ≤ 0 ∧ ret.toInt - 1 ≤ 0 ∧ -f1.toInt ≤ 0 ∧ f1.toInt - 1600 ≤ 0 ∧ -f1.toInt + f.toInt ≤ 0 ∧ f1.toInt - f.toInt - 1600 ≤ 0 ∧ f.toInt - f1.toInt ≤ 0 ∧ ((ret.toInt = 0 → σ0 = σ) ∧ ret.toInt = iW By Nb 6 Sp ∧ (ret.toInt = 1 → ML By Nb σ (adv By Nb Sp)))
set_option maxRecDepth 10000 in
set_option maxHeartbeats 4000000 in
theorem c_318s6x {By : Int → Int} {Nb : Int} {Sp : PS} (σ0 : SG) (hσ0 : WT σ0) (f : Int32) (h_f : (σ0 159)[8]? = some (.int f)) (hM : ML By Nb σ0 Sp) : En 5 113 none mr_318 (P_318s6x σ0 By Nb Sp f) 0 [(0, .ref 159), (1, .retAddr 13)] [] σ0 := by
  obtain ⟨hl_f, hu_f⟩ := WT_int hσ0 (g := 35) (by decide +kernel) (by decide +kernel) (l := 0) (u := 1600) (by decide +kernel) h_f
  have hF0 : Fr [(35, 8), (35, 9), (35, 10), (35, 11)] σ0 σ0 := Fr_rfl
  obtain ⟨z2, h1, h3, h4⟩ := WT_peekI hσ0 tgz_159 (by decide +kernel : FT 35 12 = (0, 0, 3)) (by decide +kernel)
  have h5 := ML_k hM h1
  refine En_Ps 2 (pc' := 2) (lv' := [(0, .ref 159), (1, .retAddr 13)]) (st' := [.retAddr 13, .ref 159]) rfl ?_
  refine En_callV rfl rfl rfl rfl rfl rfl rfl rfl tgz_159 (by decide +kernel) rfl (c_251s6x σ0 hσ0 hM) (by decide) (by decide) (fun v7 σ8 h6 => ?_)
  obtain ⟨h9, h10, z12, rfl, h11⟩ := h6
  have h13 := h11.2.2
  obtain rfl : σ0 = σ8 := Fr_nil h10
  refine En_Ps 2 (pc' := 7) (lv' := [(2, .int z12), (0, .ref 159), (1, .retAddr 13)]) (st' := [.int z12]) rfl ?_
  refine En_iEq _ rfl rfl (fun h14 => ?_) (fun h14 => ?_)
  · refine En_Ps 1 (pc' := 15) (lv' := [(2, .int z12), (0, .ref 159), (1, .retAddr 13)]) (st' := [.int z12]) rfl ?_
    exact En_ret (v := some (.int z12)) rfl rfl (retZ rfl rfl (by omega) (by omega)) ⟨hσ0, hF0, f, h_f, z12, rfl, ⟨by omega, by omega, by omega, by omega, by omega, by omega, by omega, ⟨fun hz => rfl, by omega, fun hz => absurd hz (by omega)⟩⟩⟩
  · have h15 : Sp.1 = 0 := iW_g (i := 6) (B := By) (n := Nb) (by omega)
    refine En_Ps 1 (pc' := 11) (lv' := [(2, .int z12), (0, .ref 159), (1, .retAddr 13)]) (st' := [.ref 159]) rfl ?_
    refine En_callV rfl rfl rfl rfl rfl rfl rfl rfl tgz_159 (by decide +kernel) rfl (c_189x σ0 hσ0 f h_f hM.1 (ML_at hM (by omega) h_f)) (by decide) (by decide) (fun v17 σ18 h16 => ?_)
    obtain ⟨h19, h20, z22, h23, z24, h25, rfl, h21⟩ := h16
    have h26 := h21.2.2.2.2.2.2.2.2.2.2
    have h27 := Fr_trans hF0 h20 (by decide +kernel)
    obtain ⟨S28, h29⟩ : ∃ q : PS, q = adv By Nb Sp := ⟨_, rfl⟩
    have h30 : ML By Nb σ18 S28 := by rw [h29]; exact (ML_adv hM (by omega) h_f h20 (by decide +kernel) h26.2)
    have h31 := ML_k h30 ((h20 _ _ (inW tgz_159 (by decide +kernel))).trans h1)
    have h32 : Imp (S28.1 = 0) (tK By Nb S28.2.2.1 = z24.toInt) := ML_t h30 h25
    have h33 : S28.2.2.2 = Sp.2.2.2 := by rw [h29]; exact adv_w
    refine En_Ps 1 (pc' := 15) (lv' := [(2, .int z12), (0, .ref 159), (1, .retAddr 13)]) (st' := [.int z12]) rfl ?_
    exact En_ret (v := some (.int z12)) rfl rfl (retZ rfl rfl (by omega) (by omega)) ⟨h19, h27, z22, h23, z12, rfl, ⟨by omega, by omega, by omega, by omega, by omega, by omega, by omega, ⟨fun hz => absurd hz (by omega), by omega, fun hz => ML_eq h30 h29⟩⟩⟩
/-- DoorSchoolModel.takes(Ljava/lang/String;)Z -/
abbrev P_318s7x (σ0 : SG) (By : Int → Int) (Nb : Int) (Sp : PS) (f : Int32) : PO := fun v σ => WT σ ∧ Fr [(35, 8), (35, 9), (35, 10), (35, 11)] σ0 σ ∧ ∃ f1 : Int32, (σ 159)[8]? = some (.int f1) ∧ ∃ ret : Int32, v = some (.int ret) ∧ -ret.toInt ≤ 0 ∧ ret.toInt - 1 ≤ 0 ∧ -f1.toInt ≤ 0 ∧ f1.toInt - 1600 ≤ 0 ∧ -f1.toInt + f.toInt ≤ 0 ∧ f1.toInt - f.toInt - 1600 ≤ 0 ∧ f.toInt - f1.toInt ≤ 0 ∧ ((ret.toInt = 0 → σ0 = σ) ∧ ret.toInt = iW By Nb 7 Sp ∧ (ret.toInt = 1 → ML By Nb σ (adv By Nb Sp)))
set_option maxRecDepth 10000 in
set_option maxHeartbeats 4000000 in
theorem c_318s7x {By : Int → Int} {Nb : Int} {Sp : PS} (σ0 : SG) (hσ0 : WT σ0) (f : Int32) (h_f : (σ0 159)[8]? = some (.int f)) (hM : ML By Nb σ0 Sp) : En 5 113 none mr_318 (P_318s7x σ0 By Nb Sp f) 0 [(0, .ref 159), (1, .retAddr 15)] [] σ0 := by
  obtain ⟨hl_f, hu_f⟩ := WT_int hσ0 (g := 35) (by decide +kernel) (by decide +kernel) (l := 0) (u := 1600) (by decide +kernel) h_f
  have hF0 : Fr [(35, 8), (35, 9), (35, 10), (35, 11)] σ0 σ0 := Fr_rfl
  obtain ⟨z2, h1, h3, h4⟩ := WT_peekI hσ0 tgz_159 (by decide +kernel : FT 35 12 = (0, 0, 3)) (by decide +kernel)
  have h5 := ML_k hM h1
  refine En_Ps 2 (pc' := 2) (lv' := [(0, .ref 159), (1, .retAddr 15)]) (st' := [.retAddr 15, .ref 159]) rfl ?_
  refine En_callV rfl rfl rfl rfl rfl rfl rfl rfl tgz_159 (by decide +kernel) rfl (c_251s7x σ0 hσ0 hM) (by decide) (by decide) (fun v7 σ8 h6 => ?_)
  obtain ⟨h9, h10, z12, rfl, h11⟩ := h6
  have h13 := h11.2.2
  obtain rfl : σ0 = σ8 := Fr_nil h10
  refine En_Ps 2 (pc' := 7) (lv' := [(2, .int z12), (0, .ref 159), (1, .retAddr 15)]) (st' := [.int z12]) rfl ?_
  refine En_iEq _ rfl rfl (fun h14 => ?_) (fun h14 => ?_)
  · refine En_Ps 1 (pc' := 15) (lv' := [(2, .int z12), (0, .ref 159), (1, .retAddr 15)]) (st' := [.int z12]) rfl ?_
    exact En_ret (v := some (.int z12)) rfl rfl (retZ rfl rfl (by omega) (by omega)) ⟨hσ0, hF0, f, h_f, z12, rfl, ⟨by omega, by omega, by omega, by omega, by omega, by omega, by omega, ⟨fun hz => rfl, by omega, fun hz => absurd hz (by omega)⟩⟩⟩
  · have h15 : Sp.1 = 0 := iW_g (i := 7) (B := By) (n := Nb) (by omega)
    refine En_Ps 1 (pc' := 11) (lv' := [(2, .int z12), (0, .ref 159), (1, .retAddr 15)]) (st' := [.ref 159]) rfl ?_
    refine En_callV rfl rfl rfl rfl rfl rfl rfl rfl tgz_159 (by decide +kernel) rfl (c_189x σ0 hσ0 f h_f hM.1 (ML_at hM (by omega) h_f)) (by decide) (by decide) (fun v17 σ18 h16 => ?_)
    obtain ⟨h19, h20, z22, h23, z24, h25, rfl, h21⟩ := h16
    have h26 := h21.2.2.2.2.2.2.2.2.2.2
    have h27 := Fr_trans hF0 h20 (by decide +kernel)
    obtain ⟨S28, h29⟩ : ∃ q : PS, q = adv By Nb Sp := ⟨_, rfl⟩
    have h30 : ML By Nb σ18 S28 := by rw [h29]; exact (ML_adv hM (by omega) h_f h20 (by decide +kernel) h26.2)
    have h31 := ML_k h30 ((h20 _ _ (inW tgz_159 (by decide +kernel))).trans h1)
    have h32 : Imp (S28.1 = 0) (tK By Nb S28.2.2.1 = z24.toInt) := ML_t h30 h25
    have h33 : S28.2.2.2 = Sp.2.2.2 := by rw [h29]; exact adv_w
    refine En_Ps 1 (pc' := 15) (lv' := [(2, .int z12), (0, .ref 159), (1, .retAddr 15)]) (st' := [.int z12]) rfl ?_
    exact En_ret (v := some (.int z12)) rfl rfl (retZ rfl rfl (by omega) (by omega)) ⟨h19, h27, z22, h23, z12, rfl, ⟨by omega, by omega, by omega, by omega, by omega, by omega, by omega, ⟨fun hz => absurd hz (by omega), by omega, fun hz => ML_eq h30 h29⟩⟩⟩
/-- DoorSchoolModel.takes(Ljava/lang/String;)Z -/
abbrev P_318s8x (σ0 : SG) (By : Int → Int) (Nb : Int) (Sp : PS) (f : Int32) : PO := fun v σ => WT σ ∧ Fr [(35, 8), (35, 9), (35, 10), (35, 11)] σ0 σ ∧ ∃ f1 : Int32, (σ 159)[8]? = some (.int f1) ∧ ∃ ret : Int32, v = some (.int ret) ∧ -ret.toInt ≤ 0 ∧ ret.toInt - 1 ≤ 0 ∧ -f1.toInt ≤ 0 ∧ f1.toInt - 1600 ≤ 0 ∧ -f1.toInt + f.toInt ≤ 0 ∧ f1.toInt - f.toInt - 1600 ≤ 0 ∧ f.toInt - f1.toInt ≤ 0 ∧ ((ret.toInt = 0 → σ0 = σ) ∧ ret.toInt = iW By Nb 8 Sp ∧ (ret.toInt = 1 → ML By Nb σ (adv By Nb Sp)))
set_option maxRecDepth 10000 in
set_option maxHeartbeats 4000000 in
theorem c_318s8x {By : Int → Int} {Nb : Int} {Sp : PS} (σ0 : SG) (hσ0 : WT σ0) (f : Int32) (h_f : (σ0 159)[8]? = some (.int f)) (hM : ML By Nb σ0 Sp) : En 5 113 none mr_318 (P_318s8x σ0 By Nb Sp f) 0 [(0, .ref 159), (1, .retAddr 17)] [] σ0 := by
  obtain ⟨hl_f, hu_f⟩ := WT_int hσ0 (g := 35) (by decide +kernel) (by decide +kernel) (l := 0) (u := 1600) (by decide +kernel) h_f
  have hF0 : Fr [(35, 8), (35, 9), (35, 10), (35, 11)] σ0 σ0 := Fr_rfl
  obtain ⟨z2, h1, h3, h4⟩ := WT_peekI hσ0 tgz_159 (by decide +kernel : FT 35 12 = (0, 0, 3)) (by decide +kernel)
  have h5 := ML_k hM h1
  refine En_Ps 2 (pc' := 2) (lv' := [(0, .ref 159), (1, .retAddr 17)]) (st' := [.retAddr 17, .ref 159]) rfl ?_
  refine En_callV rfl rfl rfl rfl rfl rfl rfl rfl tgz_159 (by decide +kernel) rfl (c_251s8x σ0 hσ0 hM) (by decide) (by decide) (fun v7 σ8 h6 => ?_)
  obtain ⟨h9, h10, z12, rfl, h11⟩ := h6
  have h13 := h11.2.2
  obtain rfl : σ0 = σ8 := Fr_nil h10
  refine En_Ps 2 (pc' := 7) (lv' := [(2, .int z12), (0, .ref 159), (1, .retAddr 17)]) (st' := [.int z12]) rfl ?_
  refine En_iEq _ rfl rfl (fun h14 => ?_) (fun h14 => ?_)
  · refine En_Ps 1 (pc' := 15) (lv' := [(2, .int z12), (0, .ref 159), (1, .retAddr 17)]) (st' := [.int z12]) rfl ?_
    exact En_ret (v := some (.int z12)) rfl rfl (retZ rfl rfl (by omega) (by omega)) ⟨hσ0, hF0, f, h_f, z12, rfl, ⟨by omega, by omega, by omega, by omega, by omega, by omega, by omega, ⟨fun hz => rfl, by omega, fun hz => absurd hz (by omega)⟩⟩⟩
  · have h15 : Sp.1 = 0 := iW_g (i := 8) (B := By) (n := Nb) (by omega)
    refine En_Ps 1 (pc' := 11) (lv' := [(2, .int z12), (0, .ref 159), (1, .retAddr 17)]) (st' := [.ref 159]) rfl ?_
    refine En_callV rfl rfl rfl rfl rfl rfl rfl rfl tgz_159 (by decide +kernel) rfl (c_189x σ0 hσ0 f h_f hM.1 (ML_at hM (by omega) h_f)) (by decide) (by decide) (fun v17 σ18 h16 => ?_)
    obtain ⟨h19, h20, z22, h23, z24, h25, rfl, h21⟩ := h16
    have h26 := h21.2.2.2.2.2.2.2.2.2.2
    have h27 := Fr_trans hF0 h20 (by decide +kernel)
    obtain ⟨S28, h29⟩ : ∃ q : PS, q = adv By Nb Sp := ⟨_, rfl⟩
    have h30 : ML By Nb σ18 S28 := by rw [h29]; exact (ML_adv hM (by omega) h_f h20 (by decide +kernel) h26.2)
    have h31 := ML_k h30 ((h20 _ _ (inW tgz_159 (by decide +kernel))).trans h1)
    have h32 : Imp (S28.1 = 0) (tK By Nb S28.2.2.1 = z24.toInt) := ML_t h30 h25
    have h33 : S28.2.2.2 = Sp.2.2.2 := by rw [h29]; exact adv_w
    refine En_Ps 1 (pc' := 15) (lv' := [(2, .int z12), (0, .ref 159), (1, .retAddr 17)]) (st' := [.int z12]) rfl ?_
    exact En_ret (v := some (.int z12)) rfl rfl (retZ rfl rfl (by omega) (by omega)) ⟨h19, h27, z22, h23, z12, rfl, ⟨by omega, by omega, by omega, by omega, by omega, by omega, by omega, ⟨fun hz => absurd hz (by omega), by omega, fun hz => ML_eq h30 h29⟩⟩⟩
/-- DoorSchoolModel.takes(Ljava/lang/String;)Z -/
abbrev P_318s9x (σ0 : SG) (By : Int → Int) (Nb : Int) (Sp : PS) (f : Int32) : PO := fun v σ => WT σ ∧ Fr [(35, 8), (35, 9), (35, 10), (35, 11)] σ0 σ ∧ ∃ f1 : Int32, (σ 159)[8]? = some (.int f1) ∧ ∃ ret : Int32, v = some (.int ret) ∧ -ret.toInt ≤ 0 ∧ ret.toInt - 1 ≤ 0 ∧ -f1.toInt ≤ 0 ∧ f1.toInt - 1600 ≤ 0 ∧ -f1.toInt + f.toInt ≤ 0 ∧ f1.toInt - f.toInt - 1600 ≤ 0 ∧ f.toInt - f1.toInt ≤ 0 ∧ ((ret.toInt = 0 → σ0 = σ) ∧ ret.toInt = iW By Nb 9 Sp ∧ (ret.toInt = 1 → ML By Nb σ (adv By Nb Sp)))
set_option maxRecDepth 10000 in
set_option maxHeartbeats 4000000 in
theorem c_318s9x {By : Int → Int} {Nb : Int} {Sp : PS} (σ0 : SG) (hσ0 : WT σ0) (f : Int32) (h_f : (σ0 159)[8]? = some (.int f)) (hM : ML By Nb σ0 Sp) : En 5 113 none mr_318 (P_318s9x σ0 By Nb Sp f) 0 [(0, .ref 159), (1, .retAddr 19)] [] σ0 := by
  obtain ⟨hl_f, hu_f⟩ := WT_int hσ0 (g := 35) (by decide +kernel) (by decide +kernel) (l := 0) (u := 1600) (by decide +kernel) h_f
  have hF0 : Fr [(35, 8), (35, 9), (35, 10), (35, 11)] σ0 σ0 := Fr_rfl
  obtain ⟨z2, h1, h3, h4⟩ := WT_peekI hσ0 tgz_159 (by decide +kernel : FT 35 12 = (0, 0, 3)) (by decide +kernel)
  have h5 := ML_k hM h1
  refine En_Ps 2 (pc' := 2) (lv' := [(0, .ref 159), (1, .retAddr 19)]) (st' := [.retAddr 19, .ref 159]) rfl ?_
  refine En_callV rfl rfl rfl rfl rfl rfl rfl rfl tgz_159 (by decide +kernel) rfl (c_251s9x σ0 hσ0 hM) (by decide) (by decide) (fun v7 σ8 h6 => ?_)
  obtain ⟨h9, h10, z12, rfl, h11⟩ := h6
  have h13 := h11.2.2
  obtain rfl : σ0 = σ8 := Fr_nil h10
  refine En_Ps 2 (pc' := 7) (lv' := [(2, .int z12), (0, .ref 159), (1, .retAddr 19)]) (st' := [.int z12]) rfl ?_
  refine En_iEq _ rfl rfl (fun h14 => ?_) (fun h14 => ?_)
  · refine En_Ps 1 (pc' := 15) (lv' := [(2, .int z12), (0, .ref 159), (1, .retAddr 19)]) (st' := [.int z12]) rfl ?_
    exact En_ret (v := some (.int z12)) rfl rfl (retZ rfl rfl (by omega) (by omega)) ⟨hσ0, hF0, f, h_f, z12, rfl, ⟨by omega, by omega, by omega, by omega, by omega, by omega, by omega, ⟨fun hz => rfl, by omega, fun hz => absurd hz (by omega)⟩⟩⟩
  · have h15 : Sp.1 = 0 := iW_g (i := 9) (B := By) (n := Nb) (by omega)
    refine En_Ps 1 (pc' := 11) (lv' := [(2, .int z12), (0, .ref 159), (1, .retAddr 19)]) (st' := [.ref 159]) rfl ?_
    refine En_callV rfl rfl rfl rfl rfl rfl rfl rfl tgz_159 (by decide +kernel) rfl (c_189x σ0 hσ0 f h_f hM.1 (ML_at hM (by omega) h_f)) (by decide) (by decide) (fun v17 σ18 h16 => ?_)
    obtain ⟨h19, h20, z22, h23, z24, h25, rfl, h21⟩ := h16
    have h26 := h21.2.2.2.2.2.2.2.2.2.2
    have h27 := Fr_trans hF0 h20 (by decide +kernel)
    obtain ⟨S28, h29⟩ : ∃ q : PS, q = adv By Nb Sp := ⟨_, rfl⟩
    have h30 : ML By Nb σ18 S28 := by rw [h29]; exact (ML_adv hM (by omega) h_f h20 (by decide +kernel) h26.2)
    have h31 := ML_k h30 ((h20 _ _ (inW tgz_159 (by decide +kernel))).trans h1)
    have h32 : Imp (S28.1 = 0) (tK By Nb S28.2.2.1 = z24.toInt) := ML_t h30 h25
    have h33 : S28.2.2.2 = Sp.2.2.2 := by rw [h29]; exact adv_w
    refine En_Ps 1 (pc' := 15) (lv' := [(2, .int z12), (0, .ref 159), (1, .retAddr 19)]) (st' := [.int z12]) rfl ?_
    exact En_ret (v := some (.int z12)) rfl rfl (retZ rfl rfl (by omega) (by omega)) ⟨h19, h27, z22, h23, z12, rfl, ⟨by omega, by omega, by omega, by omega, by omega, by omega, by omega, ⟨fun hz => absurd hz (by omega), by omega, fun hz => ML_eq h30 h29⟩⟩⟩
/-- DoorSchoolModel.takes(Ljava/lang/String;)Z -/
abbrev P_318s10x (σ0 : SG) (By : Int → Int) (Nb : Int) (Sp : PS) (f : Int32) : PO := fun v σ => WT σ ∧ Fr [(35, 8), (35, 9), (35, 10), (35, 11)] σ0 σ ∧ ∃ f1 : Int32, (σ 159)[8]? = some (.int f1) ∧ ∃ ret : Int32, v = some (.int ret) ∧ -ret.toInt ≤ 0 ∧ ret.toInt - 1 ≤ 0 ∧ -f1.toInt ≤ 0 ∧ f1.toInt - 1600 ≤ 0 ∧ -f1.toInt + f.toInt ≤ 0 ∧ f1.toInt - f.toInt - 1600 ≤ 0 ∧ f.toInt - f1.toInt ≤ 0 ∧ ((ret.toInt = 0 → σ0 = σ) ∧ ret.toInt = iW By Nb 10 Sp ∧ (ret.toInt = 1 → ML By Nb σ (adv By Nb Sp)))
set_option maxRecDepth 10000 in
set_option maxHeartbeats 4000000 in
theorem c_318s10x {By : Int → Int} {Nb : Int} {Sp : PS} (σ0 : SG) (hσ0 : WT σ0) (f : Int32) (h_f : (σ0 159)[8]? = some (.int f)) (hM : ML By Nb σ0 Sp) : En 5 113 none mr_318 (P_318s10x σ0 By Nb Sp f) 0 [(0, .ref 159), (1, .retAddr 21)] [] σ0 := by
  obtain ⟨hl_f, hu_f⟩ := WT_int hσ0 (g := 35) (by decide +kernel) (by decide +kernel) (l := 0) (u := 1600) (by decide +kernel) h_f
  have hF0 : Fr [(35, 8), (35, 9), (35, 10), (35, 11)] σ0 σ0 := Fr_rfl
  obtain ⟨z2, h1, h3, h4⟩ := WT_peekI hσ0 tgz_159 (by decide +kernel : FT 35 12 = (0, 0, 3)) (by decide +kernel)
  have h5 := ML_k hM h1
  refine En_Ps 2 (pc' := 2) (lv' := [(0, .ref 159), (1, .retAddr 21)]) (st' := [.retAddr 21, .ref 159]) rfl ?_
  refine En_callV rfl rfl rfl rfl rfl rfl rfl rfl tgz_159 (by decide +kernel) rfl (c_251s10x σ0 hσ0 hM) (by decide) (by decide) (fun v7 σ8 h6 => ?_)
  obtain ⟨h9, h10, z12, rfl, h11⟩ := h6
  have h13 := h11.2.2
  obtain rfl : σ0 = σ8 := Fr_nil h10
  refine En_Ps 2 (pc' := 7) (lv' := [(2, .int z12), (0, .ref 159), (1, .retAddr 21)]) (st' := [.int z12]) rfl ?_
  refine En_iEq _ rfl rfl (fun h14 => ?_) (fun h14 => ?_)
  · refine En_Ps 1 (pc' := 15) (lv' := [(2, .int z12), (0, .ref 159), (1, .retAddr 21)]) (st' := [.int z12]) rfl ?_
    exact En_ret (v := some (.int z12)) rfl rfl (retZ rfl rfl (by omega) (by omega)) ⟨hσ0, hF0, f, h_f, z12, rfl, ⟨by omega, by omega, by omega, by omega, by omega, by omega, by omega, ⟨fun hz => rfl, by omega, fun hz => absurd hz (by omega)⟩⟩⟩
  · have h15 : Sp.1 = 0 := iW_g (i := 10) (B := By) (n := Nb) (by omega)
    refine En_Ps 1 (pc' := 11) (lv' := [(2, .int z12), (0, .ref 159), (1, .retAddr 21)]) (st' := [.ref 159]) rfl ?_
    refine En_callV rfl rfl rfl rfl rfl rfl rfl rfl tgz_159 (by decide +kernel) rfl (c_189x σ0 hσ0 f h_f hM.1 (ML_at hM (by omega) h_f)) (by decide) (by decide) (fun v17 σ18 h16 => ?_)
    obtain ⟨h19, h20, z22, h23, z24, h25, rfl, h21⟩ := h16
    have h26 := h21.2.2.2.2.2.2.2.2.2.2
    have h27 := Fr_trans hF0 h20 (by decide +kernel)
    obtain ⟨S28, h29⟩ : ∃ q : PS, q = adv By Nb Sp := ⟨_, rfl⟩
    have h30 : ML By Nb σ18 S28 := by rw [h29]; exact (ML_adv hM (by omega) h_f h20 (by decide +kernel) h26.2)
    have h31 := ML_k h30 ((h20 _ _ (inW tgz_159 (by decide +kernel))).trans h1)
    have h32 : Imp (S28.1 = 0) (tK By Nb S28.2.2.1 = z24.toInt) := ML_t h30 h25
    have h33 : S28.2.2.2 = Sp.2.2.2 := by rw [h29]; exact adv_w
    refine En_Ps 1 (pc' := 15) (lv' := [(2, .int z12), (0, .ref 159), (1, .retAddr 21)]) (st' := [.int z12]) rfl ?_
    exact En_ret (v := some (.int z12)) rfl rfl (retZ rfl rfl (by omega) (by omega)) ⟨h19, h27, z22, h23, z12, rfl, ⟨by omega, by omega, by omega, by omega, by omega, by omega, by omega, ⟨fun hz => absurd hz (by omega), by omega, fun hz => ML_eq h30 h29⟩⟩⟩
/-- DoorSchoolModel.takes(Ljava/lang/String;)Z -/
abbrev P_318s11x (σ0 : SG) (By : Int → Int) (Nb : Int) (Sp : PS) (f : Int32) : PO := fun v σ => WT σ ∧ Fr [(35, 8), (35, 9), (35, 10), (35, 11)] σ0 σ ∧ ∃ f1 : Int32, (σ 159)[8]? = some (.int f1) ∧ ∃ ret : Int32, v = some (.int ret) ∧ -ret.toInt ≤ 0 ∧ ret.toInt - 1 ≤ 0 ∧ -f1.toInt ≤ 0 ∧ f1.toInt - 1600 ≤ 0 ∧ -f1.toInt + f.toInt ≤ 0 ∧ f1.toInt - f.toInt - 1600 ≤ 0 ∧ f.toInt - f1.toInt ≤ 0 ∧ ((ret.toInt = 0 → σ0 = σ) ∧ ret.toInt = iW By Nb 11 Sp ∧ (ret.toInt = 1 → ML By Nb σ (adv By Nb Sp)))
set_option maxRecDepth 10000 in
set_option maxHeartbeats 4000000 in
theorem c_318s11x {By : Int → Int} {Nb : Int} {Sp : PS} (σ0 : SG) (hσ0 : WT σ0) (f : Int32) (h_f : (σ0 159)[8]? = some (.int f)) (hM : ML By Nb σ0 Sp) : En 5 113 none mr_318 (P_318s11x σ0 By Nb Sp f) 0 [(0, .ref 159), (1, .retAddr 23)] [] σ0 := by
  obtain ⟨hl_f, hu_f⟩ := WT_int hσ0 (g := 35) (by decide +kernel) (by decide +kernel) (l := 0) (u := 1600) (by decide +kernel) h_f
  have hF0 : Fr [(35, 8), (35, 9), (35, 10), (35, 11)] σ0 σ0 := Fr_rfl
  obtain ⟨z2, h1, h3, h4⟩ := WT_peekI hσ0 tgz_159 (by decide +kernel : FT 35 12 = (0, 0, 3)) (by decide +kernel)
  have h5 := ML_k hM h1
  refine En_Ps 2 (pc' := 2) (lv' := [(0, .ref 159), (1, .retAddr 23)]) (st' := [.retAddr 23, .ref 159]) rfl ?_
  refine En_callV rfl rfl rfl rfl rfl rfl rfl rfl tgz_159 (by decide +kernel) rfl (c_251s11x σ0 hσ0 hM) (by decide) (by decide) (fun v7 σ8 h6 => ?_)
  obtain ⟨h9, h10, z12, rfl, h11⟩ := h6
  have h13 := h11.2.2
  obtain rfl : σ0 = σ8 := Fr_nil h10
  refine En_Ps 2 (pc' := 7) (lv' := [(2, .int z12), (0, .ref 159), (1, .retAddr 23)]) (st' := [.int z12]) rfl ?_
  refine En_iEq _ rfl rfl (fun h14 => ?_) (fun h14 => ?_)
  · refine En_Ps 1 (pc' := 15) (lv' := [(2, .int z12), (0, .ref 159), (1, .retAddr 23)]) (st' := [.int z12]) rfl ?_
    exact En_ret (v := some (.int z12)) rfl rfl (retZ rfl rfl (by omega) (by omega)) ⟨hσ0, hF0, f, h_f, z12, rfl, ⟨by omega, by omega, by omega, by omega, by omega, by omega, by omega, ⟨fun hz => rfl, by omega, fun hz => absurd hz (by omega)⟩⟩⟩
  · have h15 : Sp.1 = 0 := iW_g (i := 11) (B := By) (n := Nb) (by omega)
    refine En_Ps 1 (pc' := 11) (lv' := [(2, .int z12), (0, .ref 159), (1, .retAddr 23)]) (st' := [.ref 159]) rfl ?_
    refine En_callV rfl rfl rfl rfl rfl rfl rfl rfl tgz_159 (by decide +kernel) rfl (c_189x σ0 hσ0 f h_f hM.1 (ML_at hM (by omega) h_f)) (by decide) (by decide) (fun v17 σ18 h16 => ?_)
    obtain ⟨h19, h20, z22, h23, z24, h25, rfl, h21⟩ := h16
    have h26 := h21.2.2.2.2.2.2.2.2.2.2
    have h27 := Fr_trans hF0 h20 (by decide +kernel)
    obtain ⟨S28, h29⟩ : ∃ q : PS, q = adv By Nb Sp := ⟨_, rfl⟩
    have h30 : ML By Nb σ18 S28 := by rw [h29]; exact (ML_adv hM (by omega) h_f h20 (by decide +kernel) h26.2)
    have h31 := ML_k h30 ((h20 _ _ (inW tgz_159 (by decide +kernel))).trans h1)
    have h32 : Imp (S28.1 = 0) (tK By Nb S28.2.2.1 = z24.toInt) := ML_t h30 h25
    have h33 : S28.2.2.2 = Sp.2.2.2 := by rw [h29]; exact adv_w
    refine En_Ps 1 (pc' := 15) (lv' := [(2, .int z12), (0, .ref 159), (1, .retAddr 23)]) (st' := [.int z12]) rfl ?_
    exact En_ret (v := some (.int z12)) rfl rfl (retZ rfl rfl (by omega) (by omega)) ⟨h19, h27, z22, h23, z12, rfl, ⟨by omega, by omega, by omega, by omega, by omega, by omega, by omega, ⟨fun hz => absurd hz (by omega), by omega, fun hz => ML_eq h30 h29⟩⟩⟩
/-- DoorSchoolModel.takes(Ljava/lang/String;)Z -/
abbrev P_318s12x (σ0 : SG) (By : Int → Int) (Nb : Int) (Sp : PS) (f : Int32) : PO := fun v σ => WT σ ∧ Fr [(35, 8), (35, 9), (35, 10), (35, 11)] σ0 σ ∧ ∃ f1 : Int32, (σ 159)[8]? = some (.int f1) ∧ ∃ ret : Int32, v = some (.int ret) ∧ -ret.toInt ≤ 0 ∧ ret.toInt - 1 ≤ 0 ∧ -f1.toInt ≤ 0 ∧ f1.toInt - 1600 ≤ 0 ∧ -f1.toInt + f.toInt ≤ 0 ∧ f1.toInt - f.toInt - 1600 ≤ 0 ∧ f.toInt - f1.toInt ≤ 0 ∧ ((ret.toInt = 0 → σ0 = σ) ∧ ret.toInt = iW By Nb 12 Sp ∧ (ret.toInt = 1 → ML By Nb σ (adv By Nb Sp)))
set_option maxRecDepth 10000 in
set_option maxHeartbeats 4000000 in
theorem c_318s12x {By : Int → Int} {Nb : Int} {Sp : PS} (σ0 : SG) (hσ0 : WT σ0) (f : Int32) (h_f : (σ0 159)[8]? = some (.int f)) (hM : ML By Nb σ0 Sp) : En 5 113 none mr_318 (P_318s12x σ0 By Nb Sp f) 0 [(0, .ref 159), (1, .retAddr 25)] [] σ0 := by
  obtain ⟨hl_f, hu_f⟩ := WT_int hσ0 (g := 35) (by decide +kernel) (by decide +kernel) (l := 0) (u := 1600) (by decide +kernel) h_f
  have hF0 : Fr [(35, 8), (35, 9), (35, 10), (35, 11)] σ0 σ0 := Fr_rfl
  obtain ⟨z2, h1, h3, h4⟩ := WT_peekI hσ0 tgz_159 (by decide +kernel : FT 35 12 = (0, 0, 3)) (by decide +kernel)
  have h5 := ML_k hM h1
  refine En_Ps 2 (pc' := 2) (lv' := [(0, .ref 159), (1, .retAddr 25)]) (st' := [.retAddr 25, .ref 159]) rfl ?_
  refine En_callV rfl rfl rfl rfl rfl rfl rfl rfl tgz_159 (by decide +kernel) rfl (c_251s12x σ0 hσ0 hM) (by decide) (by decide) (fun v7 σ8 h6 => ?_)
  obtain ⟨h9, h10, z12, rfl, h11⟩ := h6
  have h13 := h11.2.2
  obtain rfl : σ0 = σ8 := Fr_nil h10
  refine En_Ps 2 (pc' := 7) (lv' := [(2, .int z12), (0, .ref 159), (1, .retAddr 25)]) (st' := [.int z12]) rfl ?_
  refine En_iEq _ rfl rfl (fun h14 => ?_) (fun h14 => ?_)
  · refine En_Ps 1 (pc' := 15) (lv' := [(2, .int z12), (0, .ref 159), (1, .retAddr 25)]) (st' := [.int z12]) rfl ?_
    exact En_ret (v := some (.int z12)) rfl rfl (retZ rfl rfl (by omega) (by omega)) ⟨hσ0, hF0, f, h_f, z12, rfl, ⟨by omega, by omega, by omega, by omega, by omega, by omega, by omega, ⟨fun hz => rfl, by omega, fun hz => absurd hz (by omega)⟩⟩⟩
  · have h15 : Sp.1 = 0 := iW_g (i := 12) (B := By) (n := Nb) (by omega)
    refine En_Ps 1 (pc' := 11) (lv' := [(2, .int z12), (0, .ref 159), (1, .retAddr 25)]) (st' := [.ref 159]) rfl ?_
    refine En_callV rfl rfl rfl rfl rfl rfl rfl rfl tgz_159 (by decide +kernel) rfl (c_189x σ0 hσ0 f h_f hM.1 (ML_at hM (by omega) h_f)) (by decide) (by decide) (fun v17 σ18 h16 => ?_)
    obtain ⟨h19, h20, z22, h23, z24, h25, rfl, h21⟩ := h16
    have h26 := h21.2.2.2.2.2.2.2.2.2.2
    have h27 := Fr_trans hF0 h20 (by decide +kernel)
    obtain ⟨S28, h29⟩ : ∃ q : PS, q = adv By Nb Sp := ⟨_, rfl⟩
    have h30 : ML By Nb σ18 S28 := by rw [h29]; exact (ML_adv hM (by omega) h_f h20 (by decide +kernel) h26.2)
    have h31 := ML_k h30 ((h20 _ _ (inW tgz_159 (by decide +kernel))).trans h1)
    have h32 : Imp (S28.1 = 0) (tK By Nb S28.2.2.1 = z24.toInt) := ML_t h30 h25
    have h33 : S28.2.2.2 = Sp.2.2.2 := by rw [h29]; exact adv_w
    refine En_Ps 1 (pc' := 15) (lv' := [(2, .int z12), (0, .ref 159), (1, .retAddr 25)]) (st' := [.int z12]) rfl ?_
    exact En_ret (v := some (.int z12)) rfl rfl (retZ rfl rfl (by omega) (by omega)) ⟨h19, h27, z22, h23, z12, rfl, ⟨by omega, by omega, by omega, by omega, by omega, by omega, by omega, ⟨fun hz => absurd hz (by omega), by omega, fun hz => ML_eq h30 h29⟩⟩⟩
/-- DoorSchoolModel.takes(Ljava/lang/String;)Z -/
abbrev P_318s13x (σ0 : SG) (By : Int → Int) (Nb : Int) (Sp : PS) (f : Int32) : PO := fun v σ => WT σ ∧ Fr [(35, 8), (35, 9), (35, 10), (35, 11)] σ0 σ ∧ ∃ f1 : Int32, (σ 159)[8]? = some (.int f1) ∧ ∃ ret : Int32, v = some (.int ret) ∧ -ret.toInt ≤ 0 ∧ ret.toInt - 1 ≤ 0 ∧ -f1.toInt ≤ 0 ∧ f1.toInt - 1600 ≤ 0 ∧ -f1.toInt + f.toInt ≤ 0 ∧ f1.toInt - f.toInt - 1600 ≤ 0 ∧ f.toInt - f1.toInt ≤ 0 ∧ ((ret.toInt = 0 → σ0 = σ) ∧ ret.toInt = iW By Nb 13 Sp ∧ (ret.toInt = 1 → ML By Nb σ (adv By Nb Sp)))
set_option maxRecDepth 10000 in
set_option maxHeartbeats 4000000 in
theorem c_318s13x {By : Int → Int} {Nb : Int} {Sp : PS} (σ0 : SG) (hσ0 : WT σ0) (f : Int32) (h_f : (σ0 159)[8]? = some (.int f)) (hM : ML By Nb σ0 Sp) : En 5 113 none mr_318 (P_318s13x σ0 By Nb Sp f) 0 [(0, .ref 159), (1, .retAddr 27)] [] σ0 := by
  obtain ⟨hl_f, hu_f⟩ := WT_int hσ0 (g := 35) (by decide +kernel) (by decide +kernel) (l := 0) (u := 1600) (by decide +kernel) h_f
  have hF0 : Fr [(35, 8), (35, 9), (35, 10), (35, 11)] σ0 σ0 := Fr_rfl
  obtain ⟨z2, h1, h3, h4⟩ := WT_peekI hσ0 tgz_159 (by decide +kernel : FT 35 12 = (0, 0, 3)) (by decide +kernel)
  have h5 := ML_k hM h1
  refine En_Ps 2 (pc' := 2) (lv' := [(0, .ref 159), (1, .retAddr 27)]) (st' := [.retAddr 27, .ref 159]) rfl ?_
  refine En_callV rfl rfl rfl rfl rfl rfl rfl rfl tgz_159 (by decide +kernel) rfl (c_251s13x σ0 hσ0 hM) (by decide) (by decide) (fun v7 σ8 h6 => ?_)
  obtain ⟨h9, h10, z12, rfl, h11⟩ := h6
  have h13 := h11.2.2
  obtain rfl : σ0 = σ8 := Fr_nil h10
  refine En_Ps 2 (pc' := 7) (lv' := [(2, .int z12), (0, .ref 159), (1, .retAddr 27)]) (st' := [.int z12]) rfl ?_
  refine En_iEq _ rfl rfl (fun h14 => ?_) (fun h14 => ?_)
  · refine En_Ps 1 (pc' := 15) (lv' := [(2, .int z12), (0, .ref 159), (1, .retAddr 27)]) (st' := [.int z12]) rfl ?_
    exact En_ret (v := some (.int z12)) rfl rfl (retZ rfl rfl (by omega) (by omega)) ⟨hσ0, hF0, f, h_f, z12, rfl, ⟨by omega, by omega, by omega, by omega, by omega, by omega, by omega, ⟨fun hz => rfl, by omega, fun hz => absurd hz (by omega)⟩⟩⟩
  · have h15 : Sp.1 = 0 := iW_g (i := 13) (B := By) (n := Nb) (by omega)
    refine En_Ps 1 (pc' := 11) (lv' := [(2, .int z12), (0, .ref 159), (1, .retAddr 27)]) (st' := [.ref 159]) rfl ?_
    refine En_callV rfl rfl rfl rfl rfl rfl rfl rfl tgz_159 (by decide +kernel) rfl (c_189x σ0 hσ0 f h_f hM.1 (ML_at hM (by omega) h_f)) (by decide) (by decide) (fun v17 σ18 h16 => ?_)
    obtain ⟨h19, h20, z22, h23, z24, h25, rfl, h21⟩ := h16
    have h26 := h21.2.2.2.2.2.2.2.2.2.2
    have h27 := Fr_trans hF0 h20 (by decide +kernel)
    obtain ⟨S28, h29⟩ : ∃ q : PS, q = adv By Nb Sp := ⟨_, rfl⟩
    have h30 : ML By Nb σ18 S28 := by rw [h29]; exact (ML_adv hM (by omega) h_f h20 (by decide +kernel) h26.2)
    have h31 := ML_k h30 ((h20 _ _ (inW tgz_159 (by decide +kernel))).trans h1)
    have h32 : Imp (S28.1 = 0) (tK By Nb S28.2.2.1 = z24.toInt) := ML_t h30 h25
    have h33 : S28.2.2.2 = Sp.2.2.2 := by rw [h29]; exact adv_w
    refine En_Ps 1 (pc' := 15) (lv' := [(2, .int z12), (0, .ref 159), (1, .retAddr 27)]) (st' := [.int z12]) rfl ?_
    exact En_ret (v := some (.int z12)) rfl rfl (retZ rfl rfl (by omega) (by omega)) ⟨h19, h27, z22, h23, z12, rfl, ⟨by omega, by omega, by omega, by omega, by omega, by omega, by omega, ⟨fun hz => absurd hz (by omega), by omega, fun hz => ML_eq h30 h29⟩⟩⟩
/-- DoorSchoolModel.takes(Ljava/lang/String;)Z -/
abbrev P_318s14x (σ0 : SG) (By : Int → Int) (Nb : Int) (Sp : PS) (f : Int32) : PO := fun v σ => WT σ ∧ Fr [(35, 8), (35, 9), (35, 10), (35, 11)] σ0 σ ∧ ∃ f1 : Int32, (σ 159)[8]? = some (.int f1) ∧ ∃ ret : Int32, v = some (.int ret) ∧ -ret.toInt ≤ 0 ∧ ret.toInt - 1 ≤ 0 ∧ -f1.toInt ≤ 0 ∧ f1.toInt - 1600 ≤ 0 ∧ -f1.toInt + f.toInt ≤ 0 ∧ f1.toInt - f.toInt - 1600 ≤ 0 ∧ f.toInt - f1.toInt ≤ 0 ∧ ((ret.toInt = 0 → σ0 = σ) ∧ ret.toInt = iW By Nb 14 Sp ∧ (ret.toInt = 1 → ML By Nb σ (adv By Nb Sp)))
set_option maxRecDepth 10000 in
set_option maxHeartbeats 4000000 in
theorem c_318s14x {By : Int → Int} {Nb : Int} {Sp : PS} (σ0 : SG) (hσ0 : WT σ0) (f : Int32) (h_f : (σ0 159)[8]? = some (.int f)) (hM : ML By Nb σ0 Sp) : En 5 113 none mr_318 (P_318s14x σ0 By Nb Sp f) 0 [(0, .ref 159), (1, .retAddr 29)] [] σ0 := by
  obtain ⟨hl_f, hu_f⟩ := WT_int hσ0 (g := 35) (by decide +kernel) (by decide +kernel) (l := 0) (u := 1600) (by decide +kernel) h_f
  have hF0 : Fr [(35, 8), (35, 9), (35, 10), (35, 11)] σ0 σ0 := Fr_rfl
  obtain ⟨z2, h1, h3, h4⟩ := WT_peekI hσ0 tgz_159 (by decide +kernel : FT 35 12 = (0, 0, 3)) (by decide +kernel)
  have h5 := ML_k hM h1
  refine En_Ps 2 (pc' := 2) (lv' := [(0, .ref 159), (1, .retAddr 29)]) (st' := [.retAddr 29, .ref 159]) rfl ?_
  refine En_callV rfl rfl rfl rfl rfl rfl rfl rfl tgz_159 (by decide +kernel) rfl (c_251s14x σ0 hσ0 hM) (by decide) (by decide) (fun v7 σ8 h6 => ?_)
  obtain ⟨h9, h10, z12, rfl, h11⟩ := h6
  have h13 := h11.2.2
  obtain rfl : σ0 = σ8 := Fr_nil h10
  refine En_Ps 2 (pc' := 7) (lv' := [(2, .int z12), (0, .ref 159), (1, .retAddr 29)]) (st' := [.int z12]) rfl ?_
  refine En_iEq _ rfl rfl (fun h14 => ?_) (fun h14 => ?_)
  · refine En_Ps 1 (pc' := 15) (lv' := [(2, .int z12), (0, .ref 159), (1, .retAddr 29)]) (st' := [.int z12]) rfl ?_
    exact En_ret (v := some (.int z12)) rfl rfl (retZ rfl rfl (by omega) (by omega)) ⟨hσ0, hF0, f, h_f, z12, rfl, ⟨by omega, by omega, by omega, by omega, by omega, by omega, by omega, ⟨fun hz => rfl, by omega, fun hz => absurd hz (by omega)⟩⟩⟩
  · have h15 : Sp.1 = 0 := iW_g (i := 14) (B := By) (n := Nb) (by omega)
    refine En_Ps 1 (pc' := 11) (lv' := [(2, .int z12), (0, .ref 159), (1, .retAddr 29)]) (st' := [.ref 159]) rfl ?_
    refine En_callV rfl rfl rfl rfl rfl rfl rfl rfl tgz_159 (by decide +kernel) rfl (c_189x σ0 hσ0 f h_f hM.1 (ML_at hM (by omega) h_f)) (by decide) (by decide) (fun v17 σ18 h16 => ?_)
    obtain ⟨h19, h20, z22, h23, z24, h25, rfl, h21⟩ := h16
    have h26 := h21.2.2.2.2.2.2.2.2.2.2
    have h27 := Fr_trans hF0 h20 (by decide +kernel)
    obtain ⟨S28, h29⟩ : ∃ q : PS, q = adv By Nb Sp := ⟨_, rfl⟩
    have h30 : ML By Nb σ18 S28 := by rw [h29]; exact (ML_adv hM (by omega) h_f h20 (by decide +kernel) h26.2)
    have h31 := ML_k h30 ((h20 _ _ (inW tgz_159 (by decide +kernel))).trans h1)
    have h32 : Imp (S28.1 = 0) (tK By Nb S28.2.2.1 = z24.toInt) := ML_t h30 h25
    have h33 : S28.2.2.2 = Sp.2.2.2 := by rw [h29]; exact adv_w
    refine En_Ps 1 (pc' := 15) (lv' := [(2, .int z12), (0, .ref 159), (1, .retAddr 29)]) (st' := [.int z12]) rfl ?_
    exact En_ret (v := some (.int z12)) rfl rfl (retZ rfl rfl (by omega) (by omega)) ⟨h19, h27, z22, h23, z12, rfl, ⟨by omega, by omega, by omega, by omega, by omega, by omega, by omega, ⟨fun hz => absurd hz (by omega), by omega, fun hz => ML_eq h30 h29⟩⟩⟩
/-- DoorSchoolModel.takes(Ljava/lang/String;)Z -/
abbrev P_318s15x (σ0 : SG) (By : Int → Int) (Nb : Int) (Sp : PS) (f : Int32) : PO := fun v σ => WT σ ∧ Fr [(35, 8), (35, 9), (35, 10), (35, 11)] σ0 σ ∧ ∃ f1 : Int32, (σ 159)[8]? = some (.int f1) ∧ ∃ ret : Int32, v = some (.int ret) ∧ -ret.toInt ≤ 0 ∧ ret.toInt - 1 ≤ 0 ∧ -f1.toInt ≤ 0 ∧ f1.toInt - 1600 ≤ 0 ∧ -f1.toInt + f.toInt ≤ 0 ∧ f1.toInt - f.toInt - 1600 ≤ 0 ∧ f.toInt - f1.toInt ≤ 0 ∧ ((ret.toInt = 0 → σ0 = σ) ∧ ret.toInt = iW By Nb 15 Sp ∧ (ret.toInt = 1 → ML By Nb σ (adv By Nb Sp)))
set_option maxRecDepth 10000 in
set_option maxHeartbeats 4000000 in
theorem c_318s15x {By : Int → Int} {Nb : Int} {Sp : PS} (σ0 : SG) (hσ0 : WT σ0) (f : Int32) (h_f : (σ0 159)[8]? = some (.int f)) (hM : ML By Nb σ0 Sp) : En 5 113 none mr_318 (P_318s15x σ0 By Nb Sp f) 0 [(0, .ref 159), (1, .retAddr 31)] [] σ0 := by
  obtain ⟨hl_f, hu_f⟩ := WT_int hσ0 (g := 35) (by decide +kernel) (by decide +kernel) (l := 0) (u := 1600) (by decide +kernel) h_f
  have hF0 : Fr [(35, 8), (35, 9), (35, 10), (35, 11)] σ0 σ0 := Fr_rfl
  obtain ⟨z2, h1, h3, h4⟩ := WT_peekI hσ0 tgz_159 (by decide +kernel : FT 35 12 = (0, 0, 3)) (by decide +kernel)
  have h5 := ML_k hM h1
  refine En_Ps 2 (pc' := 2) (lv' := [(0, .ref 159), (1, .retAddr 31)]) (st' := [.retAddr 31, .ref 159]) rfl ?_
  refine En_callV rfl rfl rfl rfl rfl rfl rfl rfl tgz_159 (by decide +kernel) rfl (c_251s15x σ0 hσ0 hM) (by decide) (by decide) (fun v7 σ8 h6 => ?_)
  obtain ⟨h9, h10, z12, rfl, h11⟩ := h6
  have h13 := h11.2.2
  obtain rfl : σ0 = σ8 := Fr_nil h10
  refine En_Ps 2 (pc' := 7) (lv' := [(2, .int z12), (0, .ref 159), (1, .retAddr 31)]) (st' := [.int z12]) rfl ?_
  refine En_iEq _ rfl rfl (fun h14 => ?_) (fun h14 => ?_)
  · refine En_Ps 1 (pc' := 15) (lv' := [(2, .int z12), (0, .ref 159), (1, .retAddr 31)]) (st' := [.int z12]) rfl ?_
    exact En_ret (v := some (.int z12)) rfl rfl (retZ rfl rfl (by omega) (by omega)) ⟨hσ0, hF0, f, h_f, z12, rfl, ⟨by omega, by omega, by omega, by omega, by omega, by omega, by omega, ⟨fun hz => rfl, by omega, fun hz => absurd hz (by omega)⟩⟩⟩
  · have h15 : Sp.1 = 0 := iW_g (i := 15) (B := By) (n := Nb) (by omega)
    refine En_Ps 1 (pc' := 11) (lv' := [(2, .int z12), (0, .ref 159), (1, .retAddr 31)]) (st' := [.ref 159]) rfl ?_
    refine En_callV rfl rfl rfl rfl rfl rfl rfl rfl tgz_159 (by decide +kernel) rfl (c_189x σ0 hσ0 f h_f hM.1 (ML_at hM (by omega) h_f)) (by decide) (by decide) (fun v17 σ18 h16 => ?_)
    obtain ⟨h19, h20, z22, h23, z24, h25, rfl, h21⟩ := h16
    have h26 := h21.2.2.2.2.2.2.2.2.2.2
    have h27 := Fr_trans hF0 h20 (by decide +kernel)
    obtain ⟨S28, h29⟩ : ∃ q : PS, q = adv By Nb Sp := ⟨_, rfl⟩
    have h30 : ML By Nb σ18 S28 := by rw [h29]; exact (ML_adv hM (by omega) h_f h20 (by decide +kernel) h26.2)
    have h31 := ML_k h30 ((h20 _ _ (inW tgz_159 (by decide +kernel))).trans h1)
    have h32 : Imp (S28.1 = 0) (tK By Nb S28.2.2.1 = z24.toInt) := ML_t h30 h25
    have h33 : S28.2.2.2 = Sp.2.2.2 := by rw [h29]; exact adv_w
    refine En_Ps 1 (pc' := 15) (lv' := [(2, .int z12), (0, .ref 159), (1, .retAddr 31)]) (st' := [.int z12]) rfl ?_
    exact En_ret (v := some (.int z12)) rfl rfl (retZ rfl rfl (by omega) (by omega)) ⟨h19, h27, z22, h23, z12, rfl, ⟨by omega, by omega, by omega, by omega, by omega, by omega, by omega, ⟨fun hz => absurd hz (by omega), by omega, fun hz => ML_eq h30 h29⟩⟩⟩
/-- DoorSchoolModel.takes(Ljava/lang/String;)Z -/
abbrev P_318s16x (σ0 : SG) (By : Int → Int) (Nb : Int) (Sp : PS) (f : Int32) : PO := fun v σ => WT σ ∧ Fr [(35, 8), (35, 9), (35, 10), (35, 11)] σ0 σ ∧ ∃ f1 : Int32, (σ 159)[8]? = some (.int f1) ∧ ∃ ret : Int32, v = some (.int ret) ∧ -ret.toInt ≤ 0 ∧ ret.toInt - 1 ≤ 0 ∧ -f1.toInt ≤ 0 ∧ f1.toInt - 1600 ≤ 0 ∧ -f1.toInt + f.toInt ≤ 0 ∧ f1.toInt - f.toInt - 1600 ≤ 0 ∧ f.toInt - f1.toInt ≤ 0 ∧ ((ret.toInt = 0 → σ0 = σ) ∧ ret.toInt = iW By Nb 16 Sp ∧ (ret.toInt = 1 → ML By Nb σ (adv By Nb Sp)))
set_option maxRecDepth 10000 in
set_option maxHeartbeats 4000000 in
theorem c_318s16x {By : Int → Int} {Nb : Int} {Sp : PS} (σ0 : SG) (hσ0 : WT σ0) (f : Int32) (h_f : (σ0 159)[8]? = some (.int f)) (hM : ML By Nb σ0 Sp) : En 5 113 none mr_318 (P_318s16x σ0 By Nb Sp f) 0 [(0, .ref 159), (1, .retAddr 33)] [] σ0 := by
  obtain ⟨hl_f, hu_f⟩ := WT_int hσ0 (g := 35) (by decide +kernel) (by decide +kernel) (l := 0) (u := 1600) (by decide +kernel) h_f
  have hF0 : Fr [(35, 8), (35, 9), (35, 10), (35, 11)] σ0 σ0 := Fr_rfl
  obtain ⟨z2, h1, h3, h4⟩ := WT_peekI hσ0 tgz_159 (by decide +kernel : FT 35 12 = (0, 0, 3)) (by decide +kernel)
  have h5 := ML_k hM h1
  refine En_Ps 2 (pc' := 2) (lv' := [(0, .ref 159), (1, .retAddr 33)]) (st' := [.retAddr 33, .ref 159]) rfl ?_
  refine En_callV rfl rfl rfl rfl rfl rfl rfl rfl tgz_159 (by decide +kernel) rfl (c_251s16x σ0 hσ0 hM) (by decide) (by decide) (fun v7 σ8 h6 => ?_)
  obtain ⟨h9, h10, z12, rfl, h11⟩ := h6
  have h13 := h11.2.2
  obtain rfl : σ0 = σ8 := Fr_nil h10
  refine En_Ps 2 (pc' := 7) (lv' := [(2, .int z12), (0, .ref 159), (1, .retAddr 33)]) (st' := [.int z12]) rfl ?_
  refine En_iEq _ rfl rfl (fun h14 => ?_) (fun h14 => ?_)
  · refine En_Ps 1 (pc' := 15) (lv' := [(2, .int z12), (0, .ref 159), (1, .retAddr 33)]) (st' := [.int z12]) rfl ?_
    exact En_ret (v := some (.int z12)) rfl rfl (retZ rfl rfl (by omega) (by omega)) ⟨hσ0, hF0, f, h_f, z12, rfl, ⟨by omega, by omega, by omega, by omega, by omega, by omega, by omega, ⟨fun hz => rfl, by omega, fun hz => absurd hz (by omega)⟩⟩⟩
  · have h15 : Sp.1 = 0 := iW_g (i := 16) (B := By) (n := Nb) (by omega)
    refine En_Ps 1 (pc' := 11) (lv' := [(2, .int z12), (0, .ref 159), (1, .retAddr 33)]) (st' := [.ref 159]) rfl ?_
    refine En_callV rfl rfl rfl rfl rfl rfl rfl rfl tgz_159 (by decide +kernel) rfl (c_189x σ0 hσ0 f h_f hM.1 (ML_at hM (by omega) h_f)) (by decide) (by decide) (fun v17 σ18 h16 => ?_)
    obtain ⟨h19, h20, z22, h23, z24, h25, rfl, h21⟩ := h16
    have h26 := h21.2.2.2.2.2.2.2.2.2.2
    have h27 := Fr_trans hF0 h20 (by decide +kernel)
    obtain ⟨S28, h29⟩ : ∃ q : PS, q = adv By Nb Sp := ⟨_, rfl⟩
    have h30 : ML By Nb σ18 S28 := by rw [h29]; exact (ML_adv hM (by omega) h_f h20 (by decide +kernel) h26.2)
    have h31 := ML_k h30 ((h20 _ _ (inW tgz_159 (by decide +kernel))).trans h1)
    have h32 : Imp (S28.1 = 0) (tK By Nb S28.2.2.1 = z24.toInt) := ML_t h30 h25
    have h33 : S28.2.2.2 = Sp.2.2.2 := by rw [h29]; exact adv_w
    refine En_Ps 1 (pc' := 15) (lv' := [(2, .int z12), (0, .ref 159), (1, .retAddr 33)]) (st' := [.int z12]) rfl ?_
    exact En_ret (v := some (.int z12)) rfl rfl (retZ rfl rfl (by omega) (by omega)) ⟨h19, h27, z22, h23, z12, rfl, ⟨by omega, by omega, by omega, by omega, by omega, by omega, by omega, ⟨fun hz => absurd hz (by omega), by omega, fun hz => ML_eq h30 h29⟩⟩⟩
/-- DoorSchoolModel.takes(Ljava/lang/String;)Z -/
abbrev P_318s17x (σ0 : SG) (By : Int → Int) (Nb : Int) (Sp : PS) (f : Int32) : PO := fun v σ => WT σ ∧ Fr [(35, 8), (35, 9), (35, 10), (35, 11)] σ0 σ ∧ ∃ f1 : Int32, (σ 159)[8]? = some (.int f1) ∧ ∃ ret : Int32, v = some (.int ret) ∧ -ret.toInt ≤ 0 ∧ ret.toInt - 1 ≤ 0 ∧ -f1.toInt ≤ 0 ∧ f1.toInt - 1600 ≤ 0 ∧ -f1.toInt + f.toInt ≤ 0 ∧ f1.toInt - f.toInt - 1600 ≤ 0 ∧ f.toInt - f1.toInt ≤ 0 ∧ ((ret.toInt = 0 → σ0 = σ) ∧ ret.toInt = iW By Nb 17 Sp ∧ (ret.toInt = 1 → ML By Nb σ (adv By Nb Sp)))
set_option maxRecDepth 10000 in
set_option maxHeartbeats 4000000 in
theorem c_318s17x {By : Int → Int} {Nb : Int} {Sp : PS} (σ0 : SG) (hσ0 : WT σ0) (f : Int32) (h_f : (σ0 159)[8]? = some (.int f)) (hM : ML By Nb σ0 Sp) : En 5 113 none mr_318 (P_318s17x σ0 By Nb Sp f) 0 [(0, .ref 159), (1, .retAddr 35)] [] σ0 := by
  obtain ⟨hl_f, hu_f⟩ := WT_int hσ0 (g := 35) (by decide +kernel) (by decide +kernel) (l := 0) (u := 1600) (by decide +kernel) h_f
  have hF0 : Fr [(35, 8), (35, 9), (35, 10), (35, 11)] σ0 σ0 := Fr_rfl
  obtain ⟨z2, h1, h3, h4⟩ := WT_peekI hσ0 tgz_159 (by decide +kernel : FT 35 12 = (0, 0, 3)) (by decide +kernel)
  have h5 := ML_k hM h1
  refine En_Ps 2 (pc' := 2) (lv' := [(0, .ref 159), (1, .retAddr 35)]) (st' := [.retAddr 35, .ref 159]) rfl ?_
  refine En_callV rfl rfl rfl rfl rfl rfl rfl rfl tgz_159 (by decide +kernel) rfl (c_251s17x σ0 hσ0 hM) (by decide) (by decide) (fun v7 σ8 h6 => ?_)
  obtain ⟨h9, h10, z12, rfl, h11⟩ := h6
  have h13 := h11.2.2
  obtain rfl : σ0 = σ8 := Fr_nil h10
  refine En_Ps 2 (pc' := 7) (lv' := [(2, .int z12), (0, .ref 159), (1, .retAddr 35)]) (st' := [.int z12]) rfl ?_
  refine En_iEq _ rfl rfl (fun h14 => ?_) (fun h14 => ?_)
  · refine En_Ps 1 (pc' := 15) (lv' := [(2, .int z12), (0, .ref 159), (1, .retAddr 35)]) (st' := [.int z12]) rfl ?_
    exact En_ret (v := some (.int z12)) rfl rfl (retZ rfl rfl (by omega) (by omega)) ⟨hσ0, hF0, f, h_f, z12, rfl, ⟨by omega, by omega, by omega, by omega, by omega, by omega, by omega, ⟨fun hz => rfl, by omega, fun hz => absurd hz (by omega)⟩⟩⟩
  · have h15 : Sp.1 = 0 := iW_g (i := 17) (B := By) (n := Nb) (by omega)
    refine En_Ps 1 (pc' := 11) (lv' := [(2, .int z12), (0, .ref 159), (1, .retAddr 35)]) (st' := [.ref 159]) rfl ?_
    refine En_callV rfl rfl rfl rfl rfl rfl rfl rfl tgz_159 (by decide +kernel) rfl (c_189x σ0 hσ0 f h_f hM.1 (ML_at hM (by omega) h_f)) (by decide) (by decide) (fun v17 σ18 h16 => ?_)
    obtain ⟨h19, h20, z22, h23, z24, h25, rfl, h21⟩ := h16
    have h26 := h21.2.2.2.2.2.2.2.2.2.2
    have h27 := Fr_trans hF0 h20 (by decide +kernel)
    obtain ⟨S28, h29⟩ : ∃ q : PS, q = adv By Nb Sp := ⟨_, rfl⟩
    have h30 : ML By Nb σ18 S28 := by rw [h29]; exact (ML_adv hM (by omega) h_f h20 (by decide +kernel) h26.2)
    have h31 := ML_k h30 ((h20 _ _ (inW tgz_159 (by decide +kernel))).trans h1)
    have h32 : Imp (S28.1 = 0) (tK By Nb S28.2.2.1 = z24.toInt) := ML_t h30 h25
    have h33 : S28.2.2.2 = Sp.2.2.2 := by rw [h29]; exact adv_w
    refine En_Ps 1 (pc' := 15) (lv' := [(2, .int z12), (0, .ref 159), (1, .retAddr 35)]) (st' := [.int z12]) rfl ?_
    exact En_ret (v := some (.int z12)) rfl rfl (retZ rfl rfl (by omega) (by omega)) ⟨h19, h27, z22, h23, z12, rfl, ⟨by omega, by omega, by omega, by omega, by omega, by omega, by omega, ⟨fun hz => absurd hz (by omega), by omega, fun hz => ML_eq h30 h29⟩⟩⟩
/-- DoorSchoolModel.errs(I)V -/
abbrev P_223x (σ0 : SG) (By : Int → Int) (Nb : Int) (Sp : PS) (a : Int32) (k : Int32) : PO := fun v σ => WT σ ∧ Fr [(35, 12), (35, 13)] σ0 σ ∧ ∃ k1 : Int32, (σ 159)[12]? = some (.int k1) ∧ v = none ∧ -k1.toInt + 1 ≤ 0 ∧ k1.toInt - 3 ≤ 0 ∧ -k1.toInt + k.toInt ≤ 0 ∧ k1.toInt - k.toInt - 3 ≤ 0 ∧ -k1.toInt + 1 ≤ 0 ∧ ML By Nb σ (err By Nb a.toInt Sp)
set_option maxRecDepth 10000 in
set_option maxHeartbeats 4000000 in
theorem c_223x {By : Int → Int} {Nb : Int} {Sp : PS} (σ0 : SG) (hσ0 : WT σ0) (a : Int32) (hl_a : 1 ≤ a.toInt) (hu_a : a.toInt ≤ 3) (k : Int32) (h_k : (σ0 159)[12]? = some (.int k)) (hM : ML By Nb σ0 Sp) : En 1 20 none mr_223 (P_223x σ0 By Nb Sp a k) 0 [(0, .ref 159), (1, .int a)] [] σ0 := by
  obtain ⟨hl_k, hu_k⟩ := WT_int hσ0 (g := 35) (by decide +kernel) (by decide +kernel) (l := 0) (u := 3) (by decide +kernel) h_k
  have hF0 : Fr [(35, 12), (35, 13)] σ0 σ0 := Fr_rfl
  have h1 := ML_k hM h_k
  obtain ⟨z3, h2, h4, h5⟩ := WT_peekI hσ0 tgz_159 (by decide +kernel : FT 35 9 = (0, 0, 1600)) (by decide +kernel)
  refine En_Ps 1 (pc' := 1) (lv' := [(0, .ref 159), (1, .int a)]) (st' := [.ref 159]) rfl ?_
  refine En_callV rfl rfl rfl rfl rfl rfl rfl rfl tgz_159 (by decide +kernel) rfl (c_237 σ0 hσ0 k h_k) (by decide) (by decide) (fun v7 σ8 h6 => ?_)
  obtain ⟨h9, h10, z12, rfl, h11⟩ := h6
  obtain rfl : σ0 = σ8 := Fr_nil h10
  refine En_iNe _ rfl rfl (fun h13 => ?_) (fun h13 => ?_)
  · refine En_Ps 2 (pc' := 10) (lv' := [(0, .ref 159), (1, .int a)]) (st' := [.int a, .ref 159]) rfl ?_
    refine En_put (j := 12) rfl rfl rfl tgz_159 (by decide +kernel) rfl (vI (l := 0) (u := 3) (by decide +kernel) rfl (by omega) (by omega)) hσ0 hF0 (by decide +kernel) (fun σ14 h15 h16 h17 h18 => ?_)
    refine En_Ps 2 (pc' := 15) (lv' := [(0, .ref 159), (1, .int a)]) (st' := [.ref 159, .ref 159]) rfl ?_
    refine En_getK (j := 9) ((h18 _ _ (Or.inr (by decide))).trans h2) rfl rfl rfl tgz_159 (by decide +kernel) ?_
    refine En_put (j := 13) rfl rfl rfl tgz_159 (by decide +kernel) rfl (vI (l := (-1)) (u := 1600) (by decide +kernel) rfl (by omega) (by omega)) h15 h16 (by decide +kernel) (fun σ19 h20 h21 h22 h23 => ?_)
    exact En_ret (v := none) rfl rfl rfl ⟨h20, h21, a, ((h23 _ _ (Or.inr (by decide))).trans h17), rfl, ⟨by omega, by omega, by omega, by omega, by omega, ML_err hM (by omega) (by omega) h21 (by decide +kernel) (ci_at (j := 12) ((h23 _ _ (Or.inr (by decide))).trans h17) rfl) h2 (ci_at (j := 13) h22 rfl)⟩⟩
  · exact En_ret (v := none) rfl rfl rfl ⟨hσ0, hF0, k, h_k, rfl, ⟨by omega, by omega, by omega, by omega, by omega, (by rw [err_bad (by omega)]; exact hM)⟩⟩
