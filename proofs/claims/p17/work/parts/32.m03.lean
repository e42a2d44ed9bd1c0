/-- DoorSchoolModel.told(Ljava/lang/String;II)I -/
abbrev P_323gx (iL : Nat) (σ0 : SG) (By : Int → Int) (Nb : Int) (Sp : PS) (b : Int32) (c : Int32) (f : Int32) (k : Int32) : PO := fun v σ => WT σ ∧ Fr [(35, 8), (35, 9), (35, 10), (35, 11), (35, 12), (35, 13)] σ0 σ ∧ ∃ f1 : Int32, (σ 159)[8]? = some (.int f1) ∧ ∃ k1 : Int32, (σ 159)[12]? = some (.int k1) ∧ ∃ ret : Int32, v = some (.int ret) ∧ -ret.toInt ≤ 0 ∧ ret.toInt - 50 ≤ 0 ∧ -f1.toInt ≤ 0 ∧ f1.toInt - 1600 ≤ 0 ∧ -f1.toInt + f.toInt ≤ 0 ∧ -k1.toInt ≤ 0 ∧ k1.toInt - 3 ≤ 0 ∧ -k1.toInt + k.toInt ≤ 0 ∧ f.toInt - f1.toInt ≤ 0 ∧ Imp (b.toInt ≤ 0) (b.toInt - ret.toInt ≤ 0) ∧ Imp (-b.toInt ≤ 0) (-ret.toInt ≤ 0) ∧ Imp (-c.toInt ≤ 0) (ret.toInt - c.toInt ≤ 0) ∧ Imp (c.toInt ≤ 0) (ret.toInt ≤ 0) ∧ Imp (k1.toInt ≤ 0) (k.toInt ≤ 0 ∧ b.toInt - ret.toInt ≤ 0 ∧ ret.toInt - c.toInt ≤ 0) ∧ (ML By Nb σ (tN By Nb b.toInt c.toInt (pss By Nb (iW By Nb iL Sp) Sp)) ∧ ((tN By Nb b.toInt c.toInt (pss By Nb (iW By Nb iL Sp) Sp)).1 = 0 → ret.toInt = tV By Nb (pss By Nb (iW By Nb iL Sp) Sp).2.2.1))
set_option maxRecDepth 10000 in
set_option maxHeartbeats 4000000 in
theorem c_323gx (iL nL : Nat) (gn : (decide (iL < NSTR) && decide (LENS.getD iL 0 = nL)) = true) (gN : (Int32.ofNat nL).toInt = (nL : Int)) (gL : (LW iL).length = nL) (g1 : 1 ≤ nL) (g9 : nL ≤ 20) {By : Int → Int} {Nb : Int} {Sp : PS} (σ0 : SG) (hσ0 : WT σ0) (b : Int32) (c : Int32) (hl_b : 0 ≤ b.toInt) (hu_b : b.toInt ≤ 100) (hl_c : (-1) ≤ c.toInt) (hu_c : c.toInt ≤ 50) (f : Int32) (h_f : (σ0 159)[8]? = some (.int f)) (k : Int32) (h_k : (σ0 159)[12]? = some (.int k)) (hM : ML By Nb σ0 Sp) : En 7 156 none mr_323 (P_323gx iL σ0 By Nb Sp b c f k) 0 [(0, .ref 159), (1, .retAddr (2 * iL + 1)), (2, .int b), (3, .int c)] [] σ0 := by
  obtain ⟨hl_f, hu_f⟩ := WT_int hσ0 (g := 35) (by decide +kernel) (by decide +kernel) (l := 0) (u := 1600) (by decide +kernel) h_f
  obtain ⟨hl_k, hu_k⟩ := WT_int hσ0 (g := 35) (by decide +kernel) (by decide +kernel) (l := 0) (u := 3) (by decide +kernel) h_k
  have hF0 : Fr [(35, 8), (35, 9), (35, 10), (35, 11), (35, 12), (35, 13)] σ0 σ0 := Fr_rfl
  have h1 := ML_k hM h_k
  refine En_Ps 2 (pc' := 2) (lv' := [(0, .ref 159), (1, .retAddr (2 * iL + 1)), (2, .int b), (3, .int c)]) (st' := [.retAddr (2 * iL + 1), .ref 159]) rfl ?_
  refine En_callV rfl rfl rfl rfl rfl rfl rfl rfl tgz_159 (by decide +kernel) rfl (c_286gx iL nL gn gN gL g1 g9 σ0 hσ0 f h_f k h_k hM) (by decide) (by decide) (fun v3 σ4 h2 => ?_)
  obtain ⟨h5, h6, z8, h9, z10, h11, rfl, h7⟩ := h2
  have h12 := h7.2.2.2.2.2.2.2.2
  have h13 := Fr_trans hF0 h6 (by decide +kernel)
  obtain ⟨S14, h15⟩ : ∃ q : PS, q = pss By Nb (iW By Nb iL Sp) Sp := ⟨_, rfl⟩
  have h16 : ML By Nb σ4 S14 := by rw [h15]; exact h12
  have h17 := ML_k h16 h11
  refine En_Ps 3 (pc' := 8) (lv' := [(0, .ref 159), (1, .retAddr (2 * iL + 1)), (2, .int b), (3, .int c)]) (st' := [.int c, .int b, .ref 159]) rfl ?_
  obtain ⟨z19, h18, h20, h21⟩ := WT_peekI h5 tgz_159 (by decide +kernel : FT 35 10 = (0, 0, 4)) (by decide +kernel)
  obtain ⟨z23, h22, h24, h25⟩ := WT_peekI h5 tgz_159 (by decide +kernel : FT 35 11 = (0, 0, 99999)) (by decide +kernel)
  refine En_callV rfl rfl rfl rfl rfl rfl rfl rfl tgz_159 (by decide +kernel) rfl (c_288x σ4 h5 b c (geI rfl (by omega)) (leI rfl (by omega)) (geI rfl (by omega)) (leI rfl (by omega)) z8 h9 z10 h11 z19 h18 z23 h22 h16) (by decide) (by decide) (fun v27 σ28 h26 => ?_)
  obtain ⟨h29, h30, z32, h33, z34, h35, z36, rfl, h31⟩ := h26
  have h37 := h31.2.2.2.2.2.2.2.2.2.2.2.2.2.2.2.2
  have h38 := Fr_trans h13 h30 (by decide +kernel)
  have h39 : tN By Nb b.toInt c.toInt S14 = tN By Nb (b.toInt) (c.toInt) S14 := tN_cg2 (fun zz => by omega) (fun zz => by omega)
  obtain ⟨S40, h41⟩ : ∃ q : PS, q = tN By Nb (b.toInt) (c.toInt) S14 := ⟨_, rfl⟩
  have h42 : ML By Nb σ28 S40 := by rw [h41]; exact (ML_eq h37.1 h39)
  have h43 := ML_k h42 h35
  have h44 : Imp (S40.1 = 0) (z36.toInt = tV By Nb S14.2.2.1) := fun z => h37.2 (by rw [h39, ← h41]; exact z)
  have h45 : Imp (S40.1 = 0) (S14.1 = 0 ∧ tK By Nb S14.2.2.1 = 2 ∧ b.toInt ≤ tV By Nb S14.2.2.1 ∧ tV By Nb S14.2.2.1 ≤ c.toInt) := fun z => tN_gg (by rw [← h41]; exact z)
  have h46 : S40.2.2.2 = S14.2.2.2 := by rw [h41]; exact tN_w
  have h47 := Imp_m h31.2.2.2.2.2.2.2.2.2.2.2.2.1 (by omega)
  exact En_ret (v := some (.int z36)) rfl rfl rfl ⟨h29, h38, z32, h33, z34, h35, z36, rfl, ⟨by omega, by omega, by omega, by omega, by omega, by omega, by omega, by omega, by omega, fun _ => by omega, fun _ => by omega, fun _ => by have := Imp_m h31.2.2.2.2.2.2.2.2.2.2.2.2.2.1 (by omega); omega, fun _ => by have := Imp_m h31.2.2.2.2.2.2.2.2.2.2.2.2.2.2.1 (by omega); omega, fun _ => by have := Imp_m h7.2.2.2.2.2.2.2.1 (by omega); have := Imp_m h31.2.2.2.2.2.2.2.2.2.2.2.2.2.2.2.1 (by omega); have := Imp_m h31.2.2.2.2.2.2.2.2.2.2.2.2.2.1 (by omega); omega, (by subst h41; subst h15; exact ⟨h42, fun zz => by (try have i0 := Imp_m h45 (by omega)); (try have i1 := Imp_m h44 (by omega)); (try have i2 := Imp_m h7.2.2.2.2.2.2.2.1 (by omega)); (try have i3 := Imp_m h31.2.2.2.2.2.2.2.2.2.2.2.1 (by omega)); (try have i4 := Imp_m h31.2.2.2.2.2.2.2.2.2.2.2.2.2.1 (by omega)); (try have i5 := Imp_m h31.2.2.2.2.2.2.2.2.2.2.2.2.2.2.1 (by omega)); (try have i6 := Imp_m h31.2.2.2.2.2.2.2.2.2.2.2.2.2.2.2.1 (by omega)); omega⟩)⟩⟩
/-- DoorSchoolModel.told(Ljava/lang/String;II)I -/
abbrev P_323s13x (σ0 : SG) (By : Int → Int) (Nb : Int) (Sp : PS) (b : Int32) (c : Int32) (f : Int32) (k : Int32) : PO := fun v σ => WT σ ∧ Fr [(35, 8), (35, 9), (35, 10), (35, 11), (35, 12), (35, 13)] σ0 σ ∧ ∃ f1 : Int32, (σ 159)[8]? = some (.int f1) ∧ ∃ k1 : Int32, (σ 159)[12]? = some (.int k1) ∧ ∃ ret : Int32, v = some (.int ret) ∧ -ret.toInt ≤ 0 ∧ ret.toInt - 50 ≤ 0 ∧ -f1.toInt ≤ 0 ∧ f1.toInt - 1600 ≤ 0 ∧ -f1.toInt + f.toInt ≤ 0 ∧ -k1.toInt ≤ 0 ∧ k1.toInt - 3 ≤ 0 ∧ -k1.toInt + k.toInt ≤ 0 ∧ f.toInt - f1.toInt ≤ 0 ∧ Imp (b.toInt ≤ 0) (b.toInt - ret.toInt ≤ 0) ∧ Imp (-b.toInt ≤ 0) (-ret.toInt ≤ 0) ∧ Imp (-c.toInt ≤ 0) (ret.toInt - c.toInt ≤ 0) ∧ Imp (c.toInt ≤ 0) (ret.toInt ≤ 0) ∧ Imp (k1.toInt ≤ 0) (k.toInt ≤ 0 ∧ b.toInt - ret.toInt ≤ 0 ∧ ret.toInt - c.toInt ≤ 0) ∧ (ML By Nb σ (tN By Nb b.toInt c.toInt (pss By Nb (iW By Nb 13 Sp) Sp)) ∧ ((tN By Nb b.toInt c.toInt (pss By Nb (iW By Nb 13 Sp) Sp)).1 = 0 → ret.toInt = tV By Nb (pss By Nb (iW By Nb 13 Sp) Sp).2.2.1))
set_option maxRecDepth 10000 in
set_option maxHeartbeats 4000000 in
theorem c_323s13x {By : Int → Int} {Nb : Int} {Sp : PS} (σ0 : SG) (hσ0 : WT σ0) (b : Int32) (c : Int32) (hl_b : 0 ≤ b.toInt) (hu_b : b.toInt ≤ 100) (hl_c : (-1) ≤ c.toInt) (hu_c : c.toInt ≤ 50) (f : Int32) (h_f : (σ0 159)[8]? = some (.int f)) (k : Int32) (h_k : (σ0 159)[12]? = some (.int k)) (hM : ML By Nb σ0 Sp) : En 7 156 none mr_323 (P_323s13x σ0 By Nb Sp b c f k) 0 [(0, .ref 159), (1, .retAddr 27), (2, .int b), (3, .int c)] [] σ0 := c_323gx 13 5 (by decide) (by decide) (by decide) (by decide) (by decide) σ0 hσ0 b c hl_b hu_b hl_c hu_c f h_f k h_k hM
/-- DoorSchoolModel.told(Ljava/lang/String;II)I -/
abbrev P_323s14x (σ0 : SG) (By : Int → Int) (Nb : Int) (Sp : PS) (b : Int32) (c : Int32) (f : Int32) (k : Int32) : PO := fun v σ => WT σ ∧ Fr [(35, 8), (35, 9), (35, 10), (35, 11), (35, 12), (35, 13)] σ0 σ ∧ ∃ f1 : Int32, (σ 159)[8]? = some (.int f1) ∧ ∃ k1 : Int32, (σ 159)[12]? = some (.int k1) ∧ ∃ ret : Int32, v = some (.int ret) ∧ -ret.toInt ≤ 0 ∧ ret.toInt - 50 ≤ 0 ∧ -f1.toInt ≤ 0 ∧ f1.toInt - 1600 ≤ 0 ∧ -f1.toInt + f.toInt ≤ 0 ∧ -k1.toInt ≤ 0 ∧ k1.toInt - 3 ≤ 0 ∧ -k1.toInt + k.toInt ≤ 0 ∧ f.toInt - f1.toInt ≤ 0 ∧ Imp (b.toInt ≤ 0) (b.toInt - ret.toInt ≤ 0) ∧ Imp (-b.toInt ≤ 0) (-ret.toInt ≤ 0) ∧ Imp (-c.toInt ≤ 0) (ret.toInt - c.toInt ≤ 0) ∧ Imp (c.toInt ≤ 0) (ret.toInt ≤ 0) ∧ Imp (k1.toInt ≤ 0) (k.toInt ≤ 0 ∧ b.toInt - ret.toInt ≤ 0 ∧ ret.toInt - c.toInt ≤ 0) ∧ (ML By Nb σ (tN By Nb b.toInt c.toInt (pss By Nb (iW By Nb 14 Sp) Sp)) ∧ ((tN By Nb b.toInt c.toInt (pss By Nb (iW By Nb 14 Sp) Sp)).1 = 0 → ret.toInt = tV By Nb (pss By Nb (iW By Nb 14 Sp) Sp).2.2.1))
set_option maxRecDepth 10000 in
set_option maxHeartbeats 4000000 in
theorem c_323s14x {By : Int → Int} {Nb : Int} {Sp : PS} (σ0 : SG) (hσ0 : WT σ0) (b : Int32) (c : Int32) (hl_b : 0 ≤ b.toInt) (hu_b : b.toInt ≤ 100) (hl_c : (-1) ≤ c.toInt) (hu_c : c.toInt ≤ 50) (f : Int32) (h_f : (σ0 159)[8]? = some (.int f)) (k : Int32) (h_k : (σ0 159)[12]? = some (.int k)) (hM : ML By Nb σ0 Sp) : En 7 156 none mr_323 (P_323s14x σ0 By Nb Sp b c f k) 0 [(0, .ref 159), (1, .retAddr 29), (2, .int b), (3, .int c)] [] σ0 := c_323gx 14 5 (by decide) (by decide) (by decide) (by decide) (by decide) σ0 hσ0 b c hl_b hu_b hl_c hu_c f h_f k h_k hM
/-- DoorSchoolModel.told(Ljava/lang/String;II)I -/
abbrev P_323s15x (σ0 : SG) (By : Int → Int) (Nb : Int) (Sp : PS) (b : Int32) (c : Int32) (f : Int32) (k : Int32) : PO := fun v σ => WT σ ∧ Fr [(35, 8), (35, 9), (35, 10), (35, 11), (35, 12), (35, 13)] σ0 σ ∧ ∃ f1 : Int32, (σ 159)[8]? = some (.int f1) ∧ ∃ k1 : Int32, (σ 159)[12]? = some (.int k1) ∧ ∃ ret : Int32, v = some (.int ret) ∧ -ret.toInt ≤ 0 ∧ ret.toInt - 50 ≤ 0 ∧ -f1.toInt ≤ 0 ∧ f1.toInt - 1600 ≤ 0 ∧ -f1.toInt + f.toInt ≤ 0 ∧ -k1.toInt ≤ 0 ∧ k1.toInt - 3 ≤ 0 ∧ -k1.toInt + k.toInt ≤ 0 ∧ f.toInt - f1.toInt ≤ 0 ∧ Imp (b.toInt ≤ 0) (b.toInt - ret.toInt ≤ 0) ∧ Imp (-b.toInt ≤ 0) (-ret.toInt ≤ 0) ∧ Imp (-c.toInt ≤ 0) (ret.toInt - c.toInt ≤ 0) ∧ Imp (c.toInt ≤ 0) (ret.toInt ≤ 0) ∧ Imp (k1.toInt ≤ 0) (k.toInt ≤ 0 ∧ b.toInt - ret.toInt ≤ 0 ∧ ret.toInt - c.toInt ≤ 0) ∧ (ML By Nb σ (tN By Nb b.toInt c.toInt (pss By Nb (iW By Nb 15 Sp) Sp)) ∧ ((tN By Nb b.toInt c.toInt (pss By Nb (iW By Nb 15 Sp) Sp)).1 = 0 → ret.toInt = tV By Nb (pss By Nb (iW By Nb 15 Sp) Sp).2.2.1))
set_option maxRecDepth 10000 in
set_option maxHeartbeats 4000000 in
theorem c_323s15x {By : Int → Int} {Nb : Int} {Sp : PS} (σ0 : SG) (hσ0 : WT σ0) (b : Int32) (c : Int32) (hl_b : 0 ≤ b.toInt) (hu_b : b.toInt ≤ 100) (hl_c : (-1) ≤ c.toInt) (hu_c : c.toInt ≤ 50) (f : Int32) (h_f : (σ0 159)[8]? = some (.int f)) (k : Int32) (h_k : (σ0 159)[12]? = some (.int k)) (hM : ML By Nb σ0 Sp) : En 7 156 none mr_323 (P_323s15x σ0 By Nb Sp b c f k) 0 [(0, .ref 159), (1, .retAddr 31), (2, .int b), (3, .int c)] [] σ0 := c_323gx 15 5 (by decide) (by decide) (by decide) (by decide) (by decide) σ0 hσ0 b c hl_b hu_b hl_c hu_c f h_f k h_k hM
/-- DoorSchoolModel.told(Ljava/lang/String;II)I -/
abbrev P_323s16x (σ0 : SG) (By : Int → Int) (Nb : Int) (Sp : PS) (b : Int32) (c : Int32) (f : Int32) (k : Int32) : PO := fun v σ => WT σ ∧ Fr [(35, 8), (35, 9), (35, 10), (35, 11), (35, 12), (35, 13)] σ0 σ ∧ ∃ f1 : Int32, (σ 159)[8]? = some (.int f1) ∧ ∃ k1 : Int32, (σ 159)[12]? = some (.int k1) ∧ ∃ ret : Int32, v = some (.int ret) ∧ -ret.toInt ≤ 0 ∧ ret.toInt - 50 ≤ 0 ∧ -f1.toInt ≤ 0 ∧ f1.toInt - 1600 ≤ 0 ∧ -f1.toInt + f.toInt ≤ 0 ∧ -k1.toInt ≤ 0 ∧ k1.toInt - 3 ≤ 0 ∧ -k1.toInt + k.toInt ≤ 0 ∧ f.toInt - f1.toInt ≤ 0 ∧ Imp (b.toInt ≤ 0) (b.toInt - ret.toInt ≤ 0) ∧ Imp (-b.toInt ≤ 0) (-ret.toInt ≤ 0) ∧ Imp (-c.toInt ≤ 0) (ret.toInt - c.toInt ≤ 0) ∧ Imp (c.toInt ≤ 0) (ret.toInt ≤ 0) ∧ Imp (k1.toInt ≤ 0) (k.toInt ≤ 0 ∧ b.toInt - ret.toInt ≤ 0 ∧ ret.toInt - c.toInt ≤ 0) ∧ (ML By Nb σ (tN By Nb b.toInt c.toInt (pss By Nb (iW By Nb 16 Sp) Sp)) ∧ ((tN By Nb b.toInt c.toInt (pss By Nb (iW By Nb 16 Sp) Sp)).1 = 0 → ret.toInt = tV By Nb (pss By Nb (iW By Nb 16 Sp) Sp).2.2.1))
set_option maxRecDepth 10000 in
set_option maxHeartbeats 4000000 in
theorem c_323s16x {By : Int → Int} {Nb : Int} {Sp : PS} (σ0 : SG) (hσ0 : WT σ0) (b : Int32) (c : Int32) (hl_b : 0 ≤ b.toInt) (hu_b : b.toInt ≤ 100) (hl_c : (-1) ≤ c.toInt) (hu_c : c.toInt ≤ 50) (f : Int32) (h_f : (σ0 159)[8]? = some (.int f)) (k : Int32) (h_k : (σ0 159)[12]? = some (.int k)) (hM : ML By Nb σ0 Sp) : En 7 156 none mr_323 (P_323s16x σ0 By Nb Sp b c f k) 0 [(0, .ref 159), (1, .retAddr 33), (2, .int b), (3, .int c)] [] σ0 := c_323gx 16 8 (by decide) (by decide) (by decide) (by decide) (by decide) σ0 hσ0 b c hl_b hu_b hl_c hu_c f h_f k h_k hM
/-- DoorSchoolModel.readDoor()V -/
abbrev P_299x (σ0 : SG) (By : Int → Int) (Nb : Int) (Sp : PS) (f : Int32) (k : Int32) (nd : Int32) : PO := fun v σ => WT σ ∧ Fr [(35, 8), (35, 9), (35, 10), (35, 11), (35, 12), (35, 13), (41, 0)] σ0 σ ∧ ∃ f1 : Int32, (σ 159)[8]? = some (.int f1) ∧ ∃ k1 : Int32, (σ 159)[12]? = some (.int k1) ∧ v = none ∧ -f1.toInt ≤ 0 ∧ f1.toInt - 1600 ≤ 0 ∧ -f1.toInt + f.toInt ≤ 0 ∧ -k1.toInt ≤ 0 ∧ k1.toInt - 3 ≤ 0 ∧ -k1.toInt + k.toInt ≤ 0 ∧ f.toInt - f1.toInt ≤ 0 ∧ Imp (k1.toInt ≤ 0) (k.toInt ≤ 0) ∧ (KF σ0 σ ∧ ML By Nb σ (gDoor By Nb Sp))
set_option maxRecDepth 10000 in
set_option maxHeartbeats 4000000 in
theorem c_299x {By : Int → Int} {Nb : Int} {Sp : PS} (σ0 : SG) (hσ0 : WT σ0) (f : Int32) (h_f : (σ0 159)[8]? = some (.int f)) (k : Int32) (h_k : (σ0 159)[12]? = some (.int k)) (nd : Int32) (h_nd : (σ0 165)[(2 : Int).toNat]? = some (.int nd)) (hp0 : nd.toInt - 3 ≤ 0) (hM : ML By Nb σ0 Sp) (hg : Sp.1 = 0) : En 8 179 none mr_299 (P_299x σ0 By Nb Sp f k nd) 0 [(0, .ref 159)] [] σ0 := by
  obtain ⟨hl_f, hu_f⟩ := WT_int hσ0 (g := 35) (by decide +kernel) (by decide +kernel) (l := 0) (u := 1600) (by decide +kernel) h_f
  obtain ⟨hl_k, hu_k⟩ := WT_int hσ0 (g := 35) (by decide +kernel) (by decide +kernel) (l := 0) (u := 3) (by decide +kernel) h_k
  obtain ⟨hl_nd, hu_nd⟩ := WT_int hσ0 (g := 41) (by decide +kernel) (by decide +kernel) (l := 0) (u := 4) (by decide +kernel) h_nd
  have hF0 : Fr [(35, 8), (35, 9), (35, 10), (35, 11), (35, 12), (35, 13), (41, 0)] σ0 σ0 := Fr_rfl
  have h1 := ML_k hM h_k
  have h2 := ML_w hM hg h_nd (by omega) (by omega)
  refine En_Ps 3 (pc' := 4) (lv' := [(0, .ref 159)]) (st' := [.ref 159, .int ((Int32.ofInt 4)), .int (((Int8.ofInt 10).toInt32))]) rfl ?_
  refine En_getU (j := 14) (u := 165) (g' := 41) (q := 0) rfl rfl rfl tgz_159 (by decide +kernel) hσ0 (by decide +kernel) (by decide +kernel) (fun h3 => ?_)
  refine En_Ps 1 (pc' := 8) (lv' := [(0, .ref 159)]) (st' := [.int ((Int32.ofInt 2)), .ref 165, .int ((Int32.ofInt 4)), .int (((Int8.ofInt 10).toInt32))]) rfl ?_
  refine En_ialdK h_nd rfl (by decide : (Int32.ofInt 2).toInt = 2) tgz_165 (by decide +kernel) hσ0 (by omega) (lnI (by decide +kernel : LN _ = 226) (by omega)) ?_
  refine En_Ps 1 (pc' := 10) (lv' := [(0, .ref 159)]) (st' := [.int ((((Int32.ofInt 4)) * nd)), .int (((Int8.ofInt 10).toInt32))]) rfl ?_
  refine En_top (mulI (by decide : (Int32.ofInt 4).toInt = 4) rfl (Z := 4 * nd.toInt) (by omega) (by omega) (by omega)) (fun z6 h7 => ?_)
  refine En_Ps 1 (pc' := 11) (lv' := [(0, .ref 159)]) (st' := [.int (((((Int8.ofInt 10).toInt32)) + z6))]) rfl ?_
  refine En_top (addI (by decide : ((Int8.ofInt 10).toInt32).toInt = 10) rfl (by omega) (by omega)) (fun z8 h9 => ?_)
  refine En_Ps 2 (pc' := 13) (lv' := [(1, .int z8), (0, .ref 159)]) (st' := [.ref 159]) rfl ?_
  refine En_ldcS (i := 4) rfl rfl rfl ?_
  refine En_callV rfl rfl rfl rfl rfl rfl rfl rfl tgz_159 (by decide +kernel) rfl (c_318s4x σ0 hσ0 f h_f hM) (by decide) (by decide) (fun v11 σ12 h10 => ?_)
  obtain ⟨h13, h14, z16, h17, z18, rfl, h15⟩ := h10
  have h19 := h15.2.2.2.2.2.2
  have h20 := Fr_trans hF0 h14 (by decide +kernel)
  have h21 := KF_fr (KF_0 (σ := σ0)) h14 (by decide +kernel)
  have h22 := h19.2.1
  refine En_iEq _ rfl rfl (fun h23 => ?_) (fun h23 => ?_)
  · obtain rfl : σ0 = σ12 := h19.1 (by omega)
    refine En_Ps 1 (pc' := 34) (lv' := [(1, .int z8), (0, .ref 159)]) (st' := [.ref 159]) rfl ?_
    refine En_ldcS (i := 11) rfl rfl rfl ?_
    refine En_callV rfl rfl rfl rfl rfl rfl rfl rfl tgz_159 (by decide +kernel) rfl (c_318s11x σ0 hσ0 f h_f hM) (by decide) (by decide) (fun v25 σ26 h24 => ?_)
    obtain ⟨h27, h28, z30, h31, z32, rfl, h29⟩ := h24
    have h33 := h29.2.2.2.2.2.2
    have h34 := Fr_trans hF0 h28 (by decide +kernel)
    have h35 := KF_fr KF_0 h28 (by decide +kernel)
    have h36 := h33.2.1
    refine En_iEq _ rfl rfl (fun h37 => ?_) (fun h37 => ?_)
    · obtain rfl : σ0 = σ26 := h33.1 (by omega)
      refine En_Ps 1 (pc' := 55) (lv' := [(1, .int z8), (0, .ref 159)]) (st' := [.ref 159]) rfl ?_
      refine En_ldcS (i := 7) rfl rfl rfl ?_
      refine En_callV rfl rfl rfl rfl rfl rfl rfl rfl tgz_159 (by decide +kernel) rfl (c_286s7x σ0 hσ0 f h_f k h_k hM) (by decide) (by decide) (fun v39 σ40 h38 => ?_)
      obtain ⟨h41, h42, z44, h45, z46, h47, rfl, h43⟩ := h38
      have h48 := h43.2.2.2.2.2.2.2.2
      have h49 := Fr_trans hF0 h42 (by decide +kernel)
      have h50 := KF_fr KF_0 h42 (by decide +kernel)
      obtain ⟨S51, h52⟩ : ∃ q : PS, q = pss By Nb (iW By Nb 7 Sp) Sp := ⟨_, rfl⟩
      have h53 : ML By Nb σ40 S51 := by rw [h52]; exact h48
      have h54 := ML_k h53 h47
      refine En_Ps 1 (pc' := 61) (lv' := [(1, .int z8), (0, .ref 159)]) (st' := [.ref 159]) rfl ?_
      refine En_getK (j := 14) ((h42 _ _ (inW tgz_159 (by decide +kernel))).trans h3) rfl rfl rfl tgz_159 (by decide +kernel) ?_
      refine En_Ps 3 (pc' := 67) (lv' := [(1, .int z8), (0, .ref 159)]) (st' := [.int ((z8 + ((Int32.ofInt 0)))), .ref 165]) rfl ?_
      refine En_top (addI rfl (by decide : (Int32.ofInt 0).toInt = 0) (by omega) (by omega)) (fun z55 h56 => ?_)
      refine En_Ps 1 (pc' := 68) (lv' := [(1, .int z8), (0, .ref 159)]) (st' := [.int ((Int32.ofInt 2)), .int z55, .ref 165]) rfl ?_
      refine En_iast (l := 0) (u := 2) rfl rfl tgz_165 (by decide +kernel) (by omega) (lnI (by decide +kernel : LN _ = 226) (by omega)) (FTrow 41 10 4 4 (by decide +kernel) (by omega) (by omega) (by omega)) (rngI (by decide : (Int32.ofInt 2).toInt = 2) (by omega) (by omega)) h41 h49 (by decide +kernel) (fun σ57 h58 h59 h60 h61 => ?_)
      have h62 := KF_st h50 (J := z55.toInt) h61 (by omega) (by omega)
      have : ((Int32.ofInt 2)).toInt = 2 := (by decide : (Int32.ofInt 2).toInt = 2)
      obtain ⟨S63, h64⟩ : ∃ q : PS, q = wst S51 (10 + 4 * Sp.2.2.2 2) (2) := ⟨_, rfl⟩
      have h65 : ML By Nb σ57 S63 := by rw [h64]; exact (ML_wst (i := 10 + 4 * Sp.2.2.2 2) (v := 2) h53 h60 h61 (by omega) (fun z => by exact ⟨by omega, by omega⟩))
      have h66 := ML_k h65 ((h61 _ _ (Or.inl (neTG tgz_159 tgz_165 (by decide)))).trans h47)
      have h67 : S63.1 = S51.1 := by rw [h64]; rfl
      have h68 : gWay By Nb Sp = S63 := by rw [h64, h52]; unfold gWay; (repeat' split) <;> first | rfl | (exfalso; omega) | ((try have i0 := Imp_m h43.2.2.2.2.2.2.2.1 (by omega)); exfalso; omega)
      refine En_Ps 1 (pc' := 70) (lv' := [(1, .int z8), (0, .ref 159)]) (st' := [.ref 159]) rfl ?_
      refine En_getK (j := 14) ((h61 _ _ (Or.inl (neTG tgz_159 tgz_165 (by decide)))).trans ((h42 _ _ (inW tgz_159 (by decide +kernel))).trans h3)) rfl rfl rfl tgz_159 (by decide +kernel) ?_
      refine En_Ps 3 (pc' := 76) (lv' := [(1, .int z8), (0, .ref 159)]) (st' := [.int ((z8 + ((Int32.ofInt 1)))), .ref 165]) rfl ?_
      refine En_top (addI rfl (by decide : (Int32.ofInt 1).toInt = 1) (by omega) (by omega)) (fun z69 h70 => ?_)
      refine En_Ps 1 (pc' := 77) (lv' := [(1, .int z8), (0, .ref 159)]) (st' := [.ref 159, .int z69, .ref 165]) rfl ?_
      refine En_ldcS (i := 14) rfl rfl rfl ?_
      refine En_Ps 2 (pc' := 82) (lv' := [(1, .int z8), (0, .ref 159)]) (st' := [.int (((Int8.ofInt 50).toInt32)), .int ((Int32.ofInt 0)), .retAddr 29, .ref 159, .int z69, .ref 165]) rfl ?_
      have := (by decide : ((Int32.ofInt 0)).toInt = 0)
      have := (by decide : (((Int8.ofInt 50).toInt32)).toInt = 50)
      refine En_callV rfl rfl rfl rfl rfl rfl rfl rfl tgz_159 (by decide +kernel) rfl (c_323s14x σ57 h58 ((Int32.ofInt 0)) (((Int8.ofInt 50).toInt32)) (geI (by decide : (Int32.ofInt 0).toInt = 0) (by omega)) (leI (by decide : (Int32.ofInt 0).toInt = 0) (by omega)) (geI (by decide : ((Int8.ofInt 50).toInt32).toInt = 50) (by omega)) (leI (by decide : ((Int8.ofInt 50).toInt32).toInt = 50) (by omega)) z44 ((h61 _ _ (Or.inl (neTG tgz_159 tgz_165 (by decide)))).trans h45) z46 ((h61 _ _ (Or.inl (neTG tgz_159 tgz_165 (by decide)))).trans h47) h65) (by decide) (by decide) (fun v72 σ73 h71 => ?_)
      obtain ⟨h74, h75, z77, h78, z79, h80, z81, rfl, h76⟩ := h71
      have h82 := h76.2.2.2.2.2.2.2.2.2.2.2.2.2.2
      have h83 := Fr_trans h59 h75 (by decide +kernel)
      have h84 := KF_fr h62 h75 (by decide +kernel)
      obtain ⟨S85, h86⟩ : ∃ q : PS, q = pss By Nb (iW By Nb 14 S63) S63 := ⟨_, rfl⟩
      have h87 : tN By Nb ((Int32.ofInt 0)).toInt (((Int8.ofInt 50).toInt32)).toInt (pss By Nb (iW By Nb 14 S63) S63) = tN By Nb (0) (50) S85 := by rw [h86]; exact tN_cg2 (fun _ => by omega) (fun _ => by omega)
      obtain ⟨S88, h89⟩ : ∃ q : PS, q = tN By Nb (0) (50) S85 := ⟨_, rfl⟩
      have h90 : ML By Nb σ73 S88 := by rw [h89]; exact (ML_eq h82.1 h87)
      have h91 := ML_k h90 h80
      have h92 : Imp (S88.1 = 0) (z81.toInt = tV By Nb S85.2.2.1) := fun z => by rw [h86]; exact h82.2 (by rw [h87, ← h89]; exact z)
      have h93 := Imp_m h76.2.2.2.2.2.2.2.2.2.1 (by omega)
      have h94 := Imp_m h76.2.2.2.2.2.2.2.2.2.2.1 (by omega)
      have h95 := Imp_m h76.2.2.2.2.2.2.2.2.2.2.2.1 (by omega)
      refine En_iast (l := 0) (u := 50) rfl rfl tgz_165 (by decide +kernel) (by omega) (lnI (by decide +kernel : LN _ = 226) (by omega)) (FTrow 41 11 4 4 (by decide +kernel) (by omega) (by omega) (by omega)) (rngI rfl (by omega) (by omega)) h74 h83 (by decide +kernel) (fun σ96 h97 h98 h99 h100 => ?_)
      have h101 := KF_st h84 (J := z69.toInt) h100 (by omega) (by omega)
      obtain ⟨S102, h103⟩ : ∃ q : PS, q = wst S88 (10 + 4 * Sp.2.2.2 2 + 1) ((tV By Nb S85.2.2.1)) := ⟨_, rfl⟩
      have h104 : ML By Nb σ96 S102 := by rw [h103]; exact (ML_wst (i := 10 + 4 * Sp.2.2.2 2 + 1) (v := (tV By Nb S85.2.2.1)) h90 h99 h100 (by omega) (fun z => by have j1 := Imp_m h92 z; exact ⟨by omega, by omega⟩))
      have h105 := ML_k h104 ((h100 _ _ (Or.inl (neTG tgz_159 tgz_165 (by decide)))).trans h80)
      have h106 : S102.1 = S88.1 := by rw [h103]; rfl
      refine En_Ps 1 (pc' := 87) (lv' := [(1, .int z8), (0, .ref 159)]) (st' := [.ref 159]) rfl ?_
      refine En_getK (j := 14) ((h100 _ _ (Or.inl (neTG tgz_159 tgz_165 (by decide)))).trans ((h75 _ _ (inW tgz_159 (by decide +kernel))).trans ((h61 _ _ (Or.inl (neTG tgz_159 tgz_165 (by decide)))).trans ((h42 _ _ (inW tgz_159 (by decide +kernel))).trans h3)))) rfl rfl rfl tgz_159 (by decide +kernel) ?_
      refine En_Ps 3 (pc' := 93) (lv' := [(1, .int z8), (0, .ref 159)]) (st' := [.int ((z8 + ((Int32.ofInt 2)))), .ref 165]) rfl ?_
      refine En_top (addI rfl (by decide : (Int32.ofInt 2).toInt = 2) (by omega) (by omega)) (fun z107 h108 => ?_)
      refine En_Ps 1 (pc' := 94) (lv' := [(1, .int z8), (0, .ref 159)]) (st' := [.int ((Int32.ofInt 0)), .int z107, .ref 165]) rfl ?_
      refine En_iast (l := 0) (u := 12) rfl rfl tgz_165 (by decide +kernel) (by omega) (lnI (by decide +kernel : LN _ = 226) (by omega)) (FTrow 41 12 4 4 (by decide +kernel) (by omega) (by omega) (by omega)) (rngI (by decide : (Int32.ofInt 0).toInt = 0) (by omega) (by omega)) h97 h98 (by decide +kernel) (fun σ109 h110 h111 h112 h113 => ?_)
      have h114 := KF_st h101 (J := z107.toInt) h113 (by omega) (by omega)
      have : ((Int32.ofInt 0)).toInt = 0 := (by decide : (Int32.ofInt 0).toInt = 0)
      obtain ⟨S115, h116⟩ : ∃ q : PS, q = wst S102 (10 + 4 * Sp.2.2.2 2 + 2) (0) := ⟨_, rfl⟩
      have h117 : ML By Nb σ109 S115 := by rw [h116]; exact (ML_wst (i := 10 + 4 * Sp.2.2.2 2 + 2) (v := 0) h104 h112 h113 (by omega) (fun z => by have j1 := h106.symm.trans z; have j2 := Imp_m h92 j1; exact ⟨by omega, by omega⟩))
      have h118 := ML_k h117 ((h113 _ _ (Or.inl (neTG tgz_159 tgz_165 (by decide)))).trans ((h100 _ _ (Or.inl (neTG tgz_159 tgz_165 (by decide)))).trans h80))
      have h119 : S115.1 = S102.1 := by rw [h116]; rfl
      refine En_Ps 1 (pc' := 96) (lv' := [(1, .int z8), (0, .ref 159)]) (st' := [.ref 159]) rfl ?_
      refine En_getK (j := 14) ((h113 _ _ (Or.inl (neTG tgz_159 tgz_165 (by decide)))).trans ((h100 _ _ (Or.inl (neTG tgz_159 tgz_165 (by decide)))).trans ((h75 _ _ (inW tgz_159 (by decide +kernel))).trans ((h61 _ _ (Or.inl (neTG tgz_159 tgz_165 (by decide)))).trans ((h42 _ _ (inW tgz_159 (by decide +kernel))).trans h3))))) rfl rfl rfl tgz_159 (by decide +kernel) ?_
      refine En_Ps 3 (pc' := 102) (lv' := [(1, .int z8), (0, .ref 159)]) (st' := [.int ((z8 + ((Int32.ofInt 3)))), .ref 165]) rfl ?_
      refine En_top (addI rfl (by decide : (Int32.ofInt 3).toInt = 3) (by omega) (by omega)) (fun z120 h121 => ?_)
      refine En_Ps 1 (pc' := 103) (lv' := [(1, .int z8), (0, .ref 159)]) (st' := [.int ((Int32.ofInt (-1))), .int z120, .ref 165]) rfl ?_
      refine En_iast (l := (-1)) (u := 3) rfl rfl tgz_165 (by decide +kernel) (by omega) (lnI (by decide +kernel : LN _ = 226) (by omega)) (FTrow 41 13 4 4 (by decide +kernel) (by omega) (by omega) (by omega)) (rngI (by decide : (Int32.ofInt (-1)).toInt = -1) (by omega) (by omega)) h110 h111 (by decide +kernel) (fun σ122 h123 h124 h125 h126 => ?_)
      have h127 := KF_st h114 (J := z120.toInt) h126 (by omega) (by omega)
      have : ((Int32.ofInt (-1))).toInt = (-1) := (by decide : (Int32.ofInt (-1)).toInt = -1)
      obtain ⟨S128, h129⟩ : ∃ q : PS, q = wst S115 (10 + 4 * Sp.2.2.2 2 + 3) (-1) := ⟨_, rfl⟩
      have h130 : ML By Nb σ122 S128 := by rw [h129]; exact (ML_wst (i := 10 + 4 * Sp.2.2.2 2 + 3) (v := -1) h117 h125 h126 (by omega) (fun z => by have j1 := h119.symm.trans z; have j2 := h106.symm.trans j1; have j3 := Imp_m h92 j2; exact ⟨by omega, by omega⟩))
      have h131 := ML_k h130 ((h126 _ _ (Or.inl (neTG tgz_159 tgz_165 (by decide)))).trans ((h113 _ _ (Or.inl (neTG tgz_159 tgz_165 (by decide)))).trans ((h100 _ _ (Or.inl (neTG tgz_159 tgz_165 (by decide)))).trans h80)))
      have h132 : S128.1 = S115.1 := by rw [h129]; rfl
      refine En_Ps 1 (pc' := 105) (lv' := [(1, .int z8), (0, .ref 159)]) (st' := [.ref 159]) rfl ?_
      refine En_getK (j := 14) ((h126 _ _ (Or.inl (neTG tgz_159 tgz_165 (by decide)))).trans ((h113 _ _ (Or.inl (neTG tgz_159 tgz_165 (by decide)))).trans ((h100 _ _ (Or.inl (neTG tgz_159 tgz_165 (by decide)))).trans ((h75 _ _ (inW tgz_159 (by decide +kernel))).trans ((h61 _ _ (Or.inl (neTG tgz_159 tgz_165 (by decide)))).trans ((h42 _ _ (inW tgz_159 (by decide +kernel))).trans h3)))))) rfl rfl rfl tgz_159 (by decide +kernel) ?_
      refine En_Ps 2 (pc' := 110) (lv' := [(1, .int z8), (0, .ref 159)]) (st' := [.int ((Int32.ofInt 2)), .ref 165, .int ((Int32.ofInt 2)), .ref 165]) rfl ?_
      refine En_ialdK ((h126 _ _ (Or.inr (by omega))).trans ((h113 _ _ (Or.inr (by omega))).trans ((h100 _ _ (Or.inr (by omega))).trans ((h75 _ _ (inWa tgz_165 (by decide +kernel))).trans ((h61 _ _ (Or.inr (by omega))).trans ((h42 _ _ (inWa tgz_165 (by decide +kernel))).trans h_nd)))))) rfl (by decide : (Int32.ofInt 2).toInt = 2) tgz_165 (by decide +kernel) h123 (by omega) (lnI (by decide +kernel : LN _ = 226) (by omega)) ?_
      refine En_Ps 2 (pc' := 113) (lv' := [(1, .int z8), (0, .ref 159)]) (st' := [.int ((nd + ((Int32.ofInt 1)))), .int ((Int32.ofInt 2)), .ref 165]) rfl ?_
      refine En_top (addI rfl (by decide : (Int32.ofInt 1).toInt = 1) (by omega) (by omega)) (fun z134 h135 => ?_)
      refine En_iast (l := 0) (u := 4) rfl (by decide : (Int32.ofInt 2).toInt = 2) tgz_165 (by decide +kernel) (by omega) (lnI (by decide +kernel : LN _ = 226) (by omega)) (by decide +kernel) (rngI rfl (by omega) (by omega)) h123 h124 (by decide +kernel) (fun σ136 h137 h138 h139 h140 => ?_)
      have h141 := KF_st h127 (J := 2) h140 (by omega) (by omega)
      obtain ⟨S142, h143⟩ : ∃ q : PS, q = wst S128 (2) (Sp.2.2.2 2 + 1) := ⟨_, rfl⟩
      have h144 : ML By Nb σ136 S142 := by rw [h143]; exact (ML_wst (i := 2) (v := Sp.2.2.2 2 + 1) h130 h139 h140 (by omega) (fun z => by have j1 := h132.symm.trans z; have j2 := h119.symm.trans j1; have j3 := h106.symm.trans j2; have j4 := Imp_m h92 j3; exact ⟨by omega, by omega⟩))
      have h145 := ML_k h144 ((h140 _ _ (Or.inl (neTG tgz_159 tgz_165 (by decide)))).trans ((h126 _ _ (Or.inl (neTG tgz_159 tgz_165 (by decide)))).trans ((h113 _ _ (Or.inl (neTG tgz_159 tgz_165 (by decide)))).trans ((h100 _ _ (Or.inl (neTG tgz_159 tgz_165 (by decide)))).trans h80))))
      have h146 : S142.1 = S128.1 := by rw [h143]; rfl
      exact En_ret (v := none) rfl rfl rfl ⟨h137, h138, z77, ((h140 _ _ (Or.inl (neTG tgz_159 tgz_165 (by decide)))).trans ((h126 _ _ (Or.inl (neTG tgz_159 tgz_165 (by decide)))).trans ((h113 _ _ (Or.inl (neTG tgz_159 tgz_165 (by decide)))).trans ((h100 _ _ (Or.inl (neTG tgz_159 tgz_165 (by decide)))).trans h78)))), z79, ((h140 _ _ (Or.inl (neTG tgz_159 tgz_165 (by decide)))).trans ((h126 _ _ (Or.inl (neTG tgz_159 tgz_165 (by decide)))).trans ((h113 _ _ (Or.inl (neTG tgz_159 tgz_165 (by decide)))).trans ((h100 _ _ (Or.inl (neTG tgz_159 tgz_165 (by decide)))).trans h80)))), rfl, ⟨by omega, by omega, by omega, by omega, by omega, by omega, by omega, fun _ => by omega, ⟨h141, ML_eq h144 (by unfold gDoor; dsimp only; rw [h68, ← h86, ← h89, ← h103, ← h116, ← h129, ← h143]; first | done | rfl | (rw [if_pos (by omega)]; first | done | rfl) | (rw [if_neg (by omega)]; first | done | rfl))⟩⟩⟩
    · have h147 : Sp.1 = 0 := iW_g (i := 11) (B := By) (n := Nb) (by omega)
      obtain ⟨S148, h149⟩ : ∃ q : PS, q = adv By Nb Sp := ⟨_, rfl⟩
      have h150 : ML By Nb σ26 S148 := by rw [h149]; exact h33.2.2 (by omega)
      have h151 := ML_k h150 ((h28 _ _ (inW tgz_159 (by decide +kernel))).trans h_k)
      have h152 : S148.2.2.2 = Sp.2.2.2 := by rw [h149]; exact adv_w
      have h153 : S148.1 = 0 := by rw [h149, adv_1]; exact h147
      refine En_Ps 1 (pc' := 43) (lv' := [(1, .int z8), (0, .ref 159)]) (st' := [.ref 159]) rfl ?_
      refine En_getK (j := 14) ((h28 _ _ (inW tgz_159 (by decide +kernel))).trans h3) rfl rfl rfl tgz_159 (by decide +kernel) ?_
      refine En_Ps 3 (pc' := 49) (lv' := [(1, .int z8), (0, .ref 159)]) (st' := [.int ((z8 + ((Int32.ofInt 0)))), .ref 165]) rfl ?_
      refine En_top (addI rfl (by decide : (Int32.ofInt 0).toInt = 0) (by omega) (by omega)) (fun z154 h155 => ?_)
      refine En_Ps 1 (pc' := 50) (lv' := [(1, .int z8), (0, .ref 159)]) (st' := [.int ((Int32.ofInt 1)), .int z154, .ref 165]) rfl ?_
      refine En_iast (l := 0) (u := 2) rfl rfl tgz_165 (by decide +kernel) (by omega) (lnI (by decide +kernel : LN _ = 226) (by omega)) (FTrow 41 10 4 4 (by decide +kernel) (by omega) (by omega) (by omega)) (rngI (by decide : (Int32.ofInt 1).toInt = 1) (by omega) (by omega)) h27 h34 (by decide +kernel) (fun σ156 h157 h158 h159 h160 => ?_)
      have h161 := KF_st h35 (J := z154.toInt) h160 (by omega) (by omega)
      have : ((Int32.ofInt 1)).toInt = 1 := (by decide : (Int32.ofInt 1).toInt = 1)
      obtain ⟨S162, h163⟩ : ∃ q : PS, q = wst S148 (10 + 4 * Sp.2.2.2 2) (1) := ⟨_, rfl⟩
      have h164 : ML By Nb σ156 S162 := by rw [h163]; exact (ML_wst (i := 10 + 4 * Sp.2.2.2 2) (v := 1) h150 h159 h160 (by omega) (fun z => by exact ⟨by omega, by omega⟩))
      have h165 := ML_k h164 ((h160 _ _ (Or.inl (neTG tgz_159 tgz_165 (by decide)))).trans ((h28 _ _ (inW tgz_159 (by decide +kernel))).trans h_k))
      have h166 : S162.1 = S148.1 := by rw [h163]; rfl
      refine En_Ps 1 (pc' := 69) (lv' := [(1, .int z8), (0, .ref 159)]) (st' := []) rfl ?_
      have h167 : gWay By Nb Sp = S162 := by rw [h163, h149]; unfold gWay; (repeat' split) <;> first | rfl | (exfalso; omega) | (exfalso; omega)
      refine En_Ps 1 (pc' := 70) (lv' := [(1, .int z8), (0, .ref 159)]) (st' := [.ref 159]) rfl ?_
      refine En_getK (j := 14) ((h160 _ _ (Or.inl (neTG tgz_159 tgz_165 (by decide)))).trans ((h28 _ _ (inW tgz_159 (by decide +kernel))).trans h3)) rfl rfl rfl tgz_159 (by decide +kernel) ?_
      refine En_Ps 3 (pc' := 76) (lv' := [(1, .int z8), (0, .ref 159)]) (st' := [.int ((z8 + ((Int32.ofInt 1)))), .ref 165]) rfl ?_
      refine En_top (addI rfl (by decide : (Int32.ofInt 1).toInt = 1) (by omega) (by omega)) (fun z168 h169 => ?_)
      refine En_Ps 1 (pc' := 77) (lv' := [(1, .int z8), (0, .ref 159)]) (st' := [.ref 159, .int z168, .ref 165]) rfl ?_
      refine En_ldcS (i := 14) rfl rfl rfl ?_
      refine En_Ps 2 (pc' := 82) (lv' := [(1, .int z8), (0, .ref 159)]) (st' := [.int (((Int8.ofInt 50).toInt32)), .int ((Int32.ofInt 0)), .retAddr 29, .ref 159, .int z168, .ref 165]) rfl ?_
      have := (by decide : ((Int32.ofInt 0)).toInt = 0)
      have := (by decide : (((Int8.ofInt 50).toInt32)).toInt = 50)
      refine En_callV rfl rfl rfl rfl rfl rfl rfl rfl tgz_159 (by decide +kernel) rfl (c_323s14x σ156 h157 ((Int32.ofInt 0)) (((Int8.ofInt 50).toInt32)) (geI (by decide : (Int32.ofInt 0).toInt = 0) (by omega)) (leI (by decide : (Int32.ofInt 0).toInt = 0) (by omega)) (geI (by decide : ((Int8.ofInt 50).toInt32).toInt = 50) (by omega)) (leI (by decide : ((Int8.ofInt 50).toInt32).toInt = 50) (by omega)) z30 ((h160 _ _ (Or.inl (neTG tgz_159 tgz_165 (by decide)))).trans h31) k ((h160 _ _ (Or.inl (neTG tgz_159 tgz_165 (by decide)))).trans ((h28 _ _ (inW tgz_159 (by decide +kernel))).trans h_k)) h164) (by decide) (by decide) (fun v171 σ172 h170 => ?_)
      obtain ⟨h173, h174, z176, h177, z178, h179, z180, rfl, h175⟩ := h170
      have h181 := h175.2.2.2.2.2.2.2.2.2.2.2.2.2.2
      have h182 := Fr_trans h158 h174 (by decide +kernel)
      have h183 := KF_fr h161 h174 (by decide +kernel)
      obtain ⟨S184, h185⟩ : ∃ q : PS, q = pss By Nb (iW By Nb 14 S162) S162 := ⟨_, rfl⟩
      have h186 : tN By Nb ((Int32.ofInt 0)).toInt (((Int8.ofInt 50).toInt32)).toInt (pss By Nb (iW By Nb 14 S162) S162) = tN By Nb (0) (50) S184 := by rw [h185]; exact tN_cg2 (fun _ => by omega) (fun _ => by omega)
      obtain ⟨S187, h188⟩ : ∃ q : PS, q = tN By Nb (0) (50) S184 := ⟨_, rfl⟩
      have h189 : ML By Nb σ172 S187 := by rw [h188]; exact (ML_eq h181.1 h186)
      have h190 := ML_k h189 h179
      have h191 : Imp (S187.1 = 0) (z180.toInt = tV By Nb S184.2.2.1) := fun z => by rw [h185]; exact h181.2 (by rw [h186, ← h188]; exact z)
      have h192 := Imp_m h175.2.2.2.2.2.2.2.2.2.1 (by omega)
      have h193 := Imp_m h175.2.2.2.2.2.2.2.2.2.2.1 (by omega)
      have h194 := Imp_m h175.2.2.2.2.2.2.2.2.2.2.2.1 (by omega)
      refine En_iast (l := 0) (u := 50) rfl rfl tgz_165 (by decide +kernel) (by omega) (lnI (by decide +kernel : LN _ = 226) (by omega)) (FTrow 41 11 4 4 (by decide +kernel) (by omega) (by omega) (by omega)) (rngI rfl (by omega) (by omega)) h173 h182 (by decide +kernel) (fun σ195 h196 h197 h198 h199 => ?_)
      have h200 := KF_st h183 (J := z168.toInt) h199 (by omega) (by omega)
      obtain ⟨S201, h202⟩ : ∃ q : PS, q = wst S187 (10 + 4 * Sp.2.2.2 2 + 1) ((tV By Nb S184.2.2.1)) := ⟨_, rfl⟩
      have h203 : ML By Nb σ195 S201 := by rw [h202]; exact (ML_wst (i := 10 + 4 * Sp.2.2.2 2 + 1) (v := (tV By Nb S184.2.2.1)) h189 h198 h199 (by omega) (fun z => by have j1 := Imp_m h191 z; exact ⟨by omega, by omega⟩))
      have h204 := ML_k h203 ((h199 _ _ (Or.inl (neTG tgz_159 tgz_165 (by decide)))).trans h179)
      have h205 : S201.1 = S187.1 := by rw [h202]; rfl
      refine En_Ps 1 (pc' := 87) (lv' := [(1, .int z8), (0, .ref 159)]) (st' := [.ref 159]) rfl ?_
      refine En_getK (j := 14) ((h199 _ _ (Or.inl (neTG tgz_159 tgz_165 (by decide)))).trans ((h174 _ _ (inW tgz_159 (by decide +kernel))).trans ((h160 _ _ (Or.inl (neTG tgz_159 tgz_165 (by decide)))).trans ((h28 _ _ (inW tgz_159 (by decide +kernel))).trans h3)))) rfl rfl rfl tgz_159 (by decide +kernel) ?_
      refine En_Ps 3 (pc' := 93) (lv' := [(1, .int z8), (0, .ref 159)]) (st' := [.int ((z8 + ((Int32.ofInt 2)))), .ref 165]) rfl ?_
      refine En_top (addI rfl (by decide : (Int32.ofInt 2).toInt = 2) (by omega) (by omega)) (fun z206 h207 => ?_)
      refine En_Ps 1 (pc' := 94) (lv' := [(1, .int z8), (0, .ref 159)]) (st' := [.int ((Int32.ofInt 0)), .int z206, .ref 165]) rfl ?_
      refine En_iast (l := 0) (u := 12) rfl rfl tgz_165 (by decide +kernel) (by omega) (lnI (by decide +kernel : LN _ = 226) (by omega)) (FTrow 41 12 4 4 (by decide +kernel) (by omega) (by omega) (by omega)) (rngI (by decide : (Int32.ofInt 0).toInt = 0) (by omega) (by omega)) h196 h197 (by decide +kernel) (fun σ208 h209 h210 h211 h212 => ?_)
      have h213 := KF_st h200 (J := z206.toInt) h212 (by omega) (by omega)
      have : ((Int32.ofInt 0)).toInt = 0 := (by decide : (Int32.ofInt 0).toInt = 0)
      obtain ⟨S214, h215⟩ : ∃ q : PS, q = wst S201 (10 + 4 * Sp.2.2.2 2 + 2) (0) := ⟨_, rfl⟩
      have h216 : ML By Nb σ208 S214 := by rw [h215]; exact (ML_wst (i := 10 + 4 * Sp.2.2.2 2 + 2) (v := 0) h203 h211 h212 (by omega) (fun z => by have j1 := h205.symm.trans z; have j2 := Imp_m h191 j1; exact ⟨by omega, by omega⟩))
      have h217 := ML_k h216 ((h212 _ _ (Or.inl (neTG tgz_159 tgz_165 (by decide)))).trans ((h199 _ _ (Or.inl (neTG tgz_159 tgz_165 (by decide)))).trans h179))
      have h218 : S214.1 = S201.1 := by rw [h215]; rfl
      refine En_Ps 1 (pc' := 96) (lv' := [(1, .int z8), (0, .ref 159)]) (st' := [.ref 159]) rfl ?_
      refine En_getK (j := 14) ((h212 _ _ (Or.inl (neTG tgz_159 tgz_165 (by decide)))).trans ((h199 _ _ (Or.inl (neTG tgz_159 tgz_165 (by decide)))).trans ((h174 _ _ (inW tgz_159 (by decide +kernel))).trans ((h160 _ _ (Or.inl (neTG tgz_159 tgz_165 (by decide)))).trans ((h28 _ _ (inW tgz_159 (by decide +kernel))).trans h3))))) rfl rfl rfl tgz_159 (by decide +kernel) ?_
      refine En_Ps 3 (pc' := 102) (lv' := [(1, .int z8), (0, .ref 159)]) (st' := [.int ((z8 + ((Int32.ofInt 3)))), .ref 165]) rfl ?_
      refine En_top (addI rfl (by decide : (Int32.ofInt 3).toInt = 3) (by omega) (by omega)) (fun z219 h220 => ?_)
      refine En_Ps 1 (pc' := 103) (lv' := [(1, .int z8), (0, .ref 159)]) (st' := [.int ((Int32.ofInt (-1))), .int z219, .ref 165]) rfl ?_
      refine En_iast (l := (-1)) (u := 3) rfl rfl tgz_165 (by decide +kernel) (by omega) (lnI (by decide +kernel : LN _ = 226) (by omega)) (FTrow 41 13 4 4 (by decide +kernel) (by omega) (by omega) (by omega)) (rngI (by decide : (Int32.ofInt (-1)).toInt = -1) (by omega) (by omega)) h209 h210 (by decide +kernel) (fun σ221 h222 h223 h224 h225 => ?_)
      have h226 := KF_st h213 (J := z219.toInt) h225 (by omega) (by omega)
      have : ((Int32.ofInt (-1))).toInt = (-1) := (by decide : (Int32.ofInt (-1)).toInt = -1)
      obtain ⟨S227, h228⟩ : ∃ q : PS, q = wst S214 (10 + 4 * Sp.2.2.2 2 + 3) (-1) := ⟨_, rfl⟩
      have h229 : ML By Nb σ221 S227 := by rw [h228]; exact (ML_wst (i := 10 + 4 * Sp.2.2.2 2 + 3) (v := -1) h216 h224 h225 (by omega) (fun z => by have j1 := h218.symm.trans z; have j2 := h205.symm.trans j1; have j3 := Imp_m h191 j2; exact ⟨by omega, by omega⟩))
      have h230 := ML_k h229 ((h225 _ _ (Or.inl (neTG tgz_159 tgz_165 (by decide)))).trans ((h212 _ _ (Or.inl (neTG tgz_159 tgz_165 (by decide)))).trans ((h199 _ _ (Or.inl (neTG tgz_159 tgz_165 (by decide)))).trans h179)))
      have h231 : S227.1 = S214.1 := by rw [h228]; rfl
      refine En_Ps 1 (pc' := 105) (lv' := [(1, .int z8), (0, .ref 159)]) (st' := [.ref 159]) rfl ?_
      refine En_getK (j := 14) ((h225 _ _ (Or.inl (neTG tgz_159 tgz_165 (by decide)))).trans ((h212 _ _ (Or.inl (neTG tgz_159 tgz_165 (by decide)))).trans ((h199 _ _ (Or.inl (neTG tgz_159 tgz_165 (by decide)))).trans ((h174 _ _ (inW tgz_159 (by decide +kernel))).trans ((h160 _ _ (Or.inl (neTG tgz_159 tgz_165 (by decide)))).trans ((h28 _ _ (inW tgz_159 (by decide +kernel))).trans h3)))))) rfl rfl rfl tgz_159 (by decide +kernel) ?_
      refine En_Ps 2 (pc' := 110) (lv' := [(1, .int z8), (0, .ref 159)]) (st' := [.int ((Int32.ofInt 2)), .ref 165, .int ((Int32.ofInt 2)), .ref 165]) rfl ?_
      refine En_ialdK ((h225 _ _ (Or.inr (by omega))).trans ((h212 _ _ (Or.inr (by omega))).trans ((h199 _ _ (Or.inr (by omega))).trans ((h174 _ _ (inWa tgz_165 (by decide +kernel))).trans ((h160 _ _ (Or.inr (by omega))).trans ((h28 _ _ (inWa tgz_165 (by decide +kernel))).trans h_nd)))))) rfl (by decide : (Int32.ofInt 2).toInt = 2) tgz_165 (by decide +kernel) h222 (by omega) (lnI (by decide +kernel : LN _ = 226) (by omega)) ?_
      refine En_Ps 2 (pc' := 113) (lv' := [(1, .int z8), (0, .ref 159)]) (st' := [.int ((nd + ((Int32.ofInt 1)))), .int ((Int32.ofInt 2)), .ref 165]) rfl ?_
      refine En_top (addI rfl (by decide : (Int32.ofInt 1).toInt = 1) (by omega) (by omega)) (fun z233 h234 => ?_)
      refine En_iast (l := 0) (u := 4) rfl (by decide : (Int32.ofInt 2).toInt = 2) tgz_165 (by decide +kernel) (by omega) (lnI (by decide +kernel : LN _ = 226) (by omega)) (by decide +kernel) (rngI rfl (by omega) (by omega)) h222 h223 (by decide +kernel) (fun σ235 h236 h237 h238 h239 => ?_)
      have h240 := KF_st h226 (J := 2) h239 (by omega) (by omega)
      obtain ⟨S241, h242⟩ : ∃ q : PS, q = wst S227 (2) (Sp.2.2.2 2 + 1) := ⟨_, rfl⟩
      have h243 : ML By Nb σ235 S241 := by rw [h242]; exact (ML_wst (i := 2) (v := Sp.2.2.2 2 + 1) h229 h238 h239 (by omega) (fun z => by have j1 := h231.symm.trans z; have j2 := h218.symm.trans j1; have j3 := h205.symm.trans j2; have j4 := Imp_m h191 j3; exact ⟨by omega, by omega⟩))
      have h244 := ML_k h243 ((h239 _ _ (Or.inl (neTG tgz_159 tgz_165 (by decide)))).trans ((h225 _ _ (Or.inl (neTG tgz_159 tgz_165 (by decide)))).trans ((h212 _ _ (Or.inl (neTG tgz_159 tgz_165 (by decide)))).trans ((h199 _ _ (Or.inl (neTG tgz_159 tgz_165 (by decide)))).trans h179))))
      have h245 : S241.1 = S227.1 := by rw [h242]; rfl
      exact En_ret (v := none) rfl rfl rfl ⟨h236, h237, z176, ((h239 _ _ (Or.inl (neTG tgz_159 tgz_165 (by decide)))).trans ((h225 _ _ (Or.inl (neTG tgz_159 tgz_165 (by decide)))).trans ((h212 _ _ (Or.inl (neTG tgz_159 tgz_165 (by decide)))).trans ((h199 _ _ (Or.inl (neTG tgz_159 tgz_165 (by decide)))).trans h177)))), z178, ((h239 _ _ (Or.inl (neTG tgz_159 tgz_165 (by decide)))).trans ((h225 _ _ (Or.inl (neTG tgz_159 tgz_165 (by decide)))).trans ((h212 _ _ (Or.inl (neTG tgz_159 tgz_165 (by decide)))).trans ((h199 _ _ (Or.inl (neTG tgz_159 tgz_165 (by decide)))).trans h179)))), rfl, ⟨by omega, by omega, by omega, by omega, by omega, by omega, by omega, fun _ => by omega, ⟨h240, ML_eq h243 (by unfold gDoor; dsimp only; rw [h167, ← h185, ← h188, ← h202, ← h215, ← h228, ← h242]; first | done | rfl | (rw [if_pos (by omega)]; first | done | rfl) | (rw [if_neg (by omega)]; first | done | rfl))⟩⟩⟩
  · have h246 : Sp.1 = 0 := iW_g (i := 4) (B := By) (n := Nb) (by omega)
    obtain ⟨S247, h248⟩ : ∃ q : PS, q = adv By Nb Sp := ⟨_, rfl⟩
    have h249 : ML By Nb σ12 S247 := by rw [h248]; exact h19.2.2 (by omega)
    have h250 := ML_k h249 ((h14 _ _ (inW tgz_159 (by decide +kernel))).trans h_k)
    have h251 : S247.2.2.2 = Sp.2.2.2 := by rw [h248]; exact adv_w
    have h252 : S247.1 = 0 := by rw [h248, adv_1]; exact h246
    refine En_Ps 1 (pc' := 22) (lv' := [(1, .int z8), (0, .ref 159)]) (st' := [.ref 159]) rfl ?_
    refine En_getK (j := 14) ((h14 _ _ (inW tgz_159 (by decide +kernel))).trans h3) rfl rfl rfl tgz_159 (by decide +kernel) ?_
    refine En_Ps 3 (pc' := 28) (lv' := [(1, .int z8), (0, .ref 159)]) (st' := [.int ((z8 + ((Int32.ofInt 0)))), .ref 165]) rfl ?_
    refine En_top (addI rfl (by decide : (Int32.ofInt 0).toInt = 0) (by omega) (by omega)) (fun z253 h254 => ?_)
    refine En_Ps 1 (pc' := 29) (lv' := [(1, .int z8), (0, .ref 159)]) (st' := [.int ((Int32.ofInt 0)), .int z253, .ref 165]) rfl ?_
    refine En_iast (l := 0) (u := 2) rfl rfl tgz_165 (by decide +kernel) (by omega) (lnI (by decide +kernel : LN _ = 226) (by omega)) (FTrow 41 10 4 4 (by decide +kernel) (by omega) (by omega) (by omega)) (rngI (by decide : (Int32.ofInt 0).toInt = 0) (by omega) (by omega)) h13 h20 (by decide +kernel) (fun σ255 h256 h257 h258 h259 => ?_)
    have h260 := KF_st h21 (J := z253.toInt) h259 (by omega) (by omega)
    have : ((Int32.ofInt 0)).toInt = 0 := (by decide : (Int32.ofInt 0).toInt = 0)
    obtain ⟨S261, h262⟩ : ∃ q : PS, q = wst S247 (10 + 4 * Sp.2.2.2 2) (0) := ⟨_, rfl⟩
    have h263 : ML By Nb σ255 S261 := by rw [h262]; exact (ML_wst (i := 10 + 4 * Sp.2.2.2 2) (v := 0) h249 h258 h259 (by omega) (fun z => by exact ⟨by omega, by omega⟩))
    have h264 := ML_k h263 ((h259 _ _ (Or.inl (neTG tgz_159 tgz_165 (by decide)))).trans ((h14 _ _ (inW tgz_159 (by decide +kernel))).trans h_k))
    have h265 : S261.1 = S247.1 := by rw [h262]; rfl
    refine En_Ps 1 (pc' := 69) (lv' := [(1, .int z8), (0, .ref 159)]) (st' := []) rfl ?_
    have h266 : gWay By Nb Sp = S261 := by rw [h262, h248]; unfold gWay; (repeat' split) <;> first | rfl | (exfalso; omega) | (exfalso; omega)
    refine En_Ps 1 (pc' := 70) (lv' := [(1, .int z8), (0, .ref 159)]) (st' := [.ref 159]) rfl ?_
    refine En_getK (j := 14) ((h259 _ _ (Or.inl (neTG tgz_159 tgz_165 (by decide)))).trans ((h14 _ _ (inW tgz_159 (by decide +kernel))).trans h3)) rfl rfl rfl tgz_159 (by decide +kernel) ?_
    refine En_Ps 3 (pc' := 76) (lv' := [(1, .int z8), (0, .ref 159)]) (st' := [.int ((z8 + ((Int32.ofInt 1)))), .ref 165]) rfl ?_
    refine En_top (addI rfl (by decide : (Int32.ofInt 1).toInt = 1) (by omega) (by omega)) (fun z267 h268 => ?_)
    refine En_Ps 1 (pc' := 77) (lv' := [(1, .int z8), (0, .ref 159)]) (st' := [.ref 159, .int z267, .ref 165]) rfl ?_
    refine En_ldcS (i := 14) rfl rfl rfl ?_
    refine En_Ps 2 (pc' := 82) (lv' := [(1, .int z8), (0, .ref 159)]) (st' := [.int (((Int8.ofInt 50).toInt32)), .int ((Int32.ofInt 0)), .retAddr 29, .ref 159, .int z267, .ref 165]) rfl ?_
    have := (by decide : ((Int32.ofInt 0)).toInt = 0)
    have := (by decide : (((Int8.ofInt 50).toInt32)).toInt = 50)
    refine En_callV rfl rfl rfl rfl rfl rfl rfl rfl tgz_159 (by decide +kernel) rfl (c_323s14x σ255 h256 ((Int32.ofInt 0)) (((Int8.ofInt 50).toInt32)) (geI (by decide : (Int32.ofInt 0).toInt = 0) (by omega)) (leI (by decide : (Int32.ofInt 0).toInt = 0) (by omega)) (geI (by decide : ((Int8.ofInt 50).toInt32).toInt = 50) (by omega)) (leI (by decide : ((Int8.ofInt 50).toInt32).toInt = 50) (by omega)) z16 ((h259 _ _ (Or.inl (neTG tgz_159 tgz_165 (by decide)))).trans h17) k ((h259 _ _ (Or.inl (neTG tgz_159 tgz_165 (by decide)))).trans ((h14 _ _ (inW tgz_159 (by decide +kernel))).trans h_k)) h263) (by decide) (by decide) (fun v270 σ271 h269 => ?_)
    obtain ⟨h272, h273, z275, h276, z277, h278, z279, rfl, h274⟩ := h269
    have h280 := h274.2.2.2.2.2.2.2.2.2.2.2.2.2.2
    have h281 := Fr_trans h257 h273 (by decide +kernel)
    have h282 := KF_fr h260 h273 (by decide +kernel)
    obtain ⟨S283, h284⟩ : ∃ q : PS, q = pss By Nb (iW By Nb 14 S261) S261 := ⟨_, rfl⟩
    have h285 : tN By Nb ((Int32.ofInt 0)).toInt (((Int8.ofInt 50).toInt32)).toInt (pss By Nb (iW By Nb 14 S261) S261) = tN By Nb (0) (50) S283 := by rw [h284]; exact tN_cg2 (fun _ => by omega) (fun _ => by omega)
    obtain ⟨S286, h287⟩ : ∃ q : PS, q = tN By Nb (0) (50) S283 := ⟨_, rfl⟩
    have h288 : ML By Nb σ271 S286 := by rw [h287]; exact (ML_eq h280.1 h285)
    have h289 := ML_k h288 h278
    have h290 : Imp (S286.1 = 0) (z279.toInt = tV By Nb S283.2.2.1) := fun z => by rw [h284]; exact h280.2 (by rw [h285, ← h287]; exact z)
    have h291 := Imp_m h274.2.2.2.2.2.2.2.2.2.1 (by omega)
    have h292 := Imp_m h274.2.2.2.2.2.2.2.2.2.2.1 (by omega)
    have h293 := Imp_m h274.2.2.2.2.2.2.2.2.2.2.2.1 (by omega)
    refine En_iast (l := 0) (u := 50) rfl rfl tgz_165 (by decide +kernel) (by omega) (lnI (by decide +kernel : LN _ = 226) (by omega)) (FTrow 41 11 4 4 (by decide +kernel) (by omega) (by omega) (by omega)) (rngI rfl (by omega) (by omega)) h272 h281 (by decide +kernel) (fun σ294 h295 h296 h297 h298 => ?_)
    have h299 := KF_st h282 (J := z267.toInt) h298 (by omega) (by omega)
    obtain ⟨S300, h301⟩ : ∃ q : PS, q = wst S286 (10 + 4 * Sp.2.2.2 2 + 1) ((tV By Nb S283.2.2.1)) := ⟨_, rfl⟩
    have h302 : ML By Nb σ294 S300 := by rw [h301]; exact (ML_wst (i := 10 + 4 * Sp.2.2.2 2 + 1) (v := (tV By Nb S283.2.2.1)) h288 h297 h298 (by omega) (fun z => by have j1 := Imp_m h290 z; exact ⟨by omega, by omega⟩))
    have h303 := ML_k h302 ((h298 _ _ (Or.inl (neTG tgz_159 tgz_165 (by decide)))).trans h278)
    have h304 : S300.1 = S286.1 := by rw [h301]; rfl
    refine En_Ps 1 (pc' := 87) (lv' := [(1, .int z8), (0, .ref 159)]) (st' := [.ref 159]) rfl ?_
    refine En_getK (j := 14) ((h298 _ _ (Or.inl (neTG tgz_159 tgz_165 (by decide)))).trans ((h273 _ _ (inW tgz_159 (by decide +kernel))).trans ((h259 _ _ (Or.inl (neTG tgz_159 tgz_165 (by decide)))).trans ((h14 _ _ (inW tgz_159 (by decide +kernel))).trans h3)))) rfl rfl rfl tgz_159 (by decide +kernel) ?_
    refine En_Ps 3 (pc' := 93) (lv' := [(1, .int z8), (0, .ref 159)]) (st' := [.int ((z8 + ((Int32.ofInt 2)))), .ref 165]) rfl ?_
    refine En_top (addI rfl (by decide : (Int32.ofInt 2).toInt = 2) (by omega) (by omega)) (fun z305 h306 => ?_)
    refine En_Ps 1 (pc' := 94) (lv' := [(1, .int z8), (0, .ref 159)]) (st' := [.int ((Int32.ofInt 0)), .int z305, .ref 165]) rfl ?_
    refine En_iast (l := 0) (u := 12) rfl rfl tgz_165 (by decide +kernel) (by omega) (lnI (by decide +kernel : LN _ = 226) (by omega)) (FTrow 41 12 4 4 (by decide +kernel) (by omega) (by omega) (by omega)) (rngI (by decide : (Int32.ofInt 0).toInt = 0) (by omega) (by omega)) h295 h296 (by decide +kernel) (fun σ307 h308 h309 h310 h311 => ?_)
    have h312 := KF_st h299 (J := z305.toInt) h311 (by omega) (by omega)
    have : ((Int32.ofInt 0)).toInt = 0 := (by decide : (Int32.ofInt 0).toInt = 0)
    obtain ⟨S313, h314⟩ : ∃ q : PS, q = wst S300 (10 + 4 * Sp.2.2.2 2 + 2) (0) := ⟨_, rfl⟩
    have h315 : ML By Nb σ307 S313 := by rw [h314]; exact (ML_wst (i := 10 + 4 * Sp.2.2.2 2 + 2) (v := 0) h302 h310 h311 (by omega) (fun z => by have j1 := h304.symm.trans z; have j2 := Imp_m h290 j1; exact ⟨by omega, by omega⟩))
    have h316 := ML_k h315 ((h311 _ _ (Or.inl (neTG tgz_159 tgz_165 (by decide)))).trans ((h298 _ _ (Or.inl (neTG tgz_159 tgz_165 (by decide)))).trans h278))
    have h317 : S313.1 = S300.1 := by rw [h314]; rfl
    refine En_Ps 1 (pc' := 96) (lv' := [(1, .int z8), (0, .ref 159)]) (st' := [.ref 159]) rfl ?_
    refine En_getK (j := 14) ((h311 _ _ (Or.inl (neTG tgz_159 tgz_165 (by decide)))).trans ((h298 _ _ (Or.inl (neTG tgz_159 tgz_165 (by decide)))).trans ((h273 _ _ (inW tgz_159 (by decide +kernel))).trans ((h259 _ _ (Or.inl (neTG tgz_159 tgz_165 (by decide)))).trans ((h14 _ _ (inW tgz_159 (by decide +kernel))).trans h3))))) rfl rfl rfl tgz_159 (by decide +kernel) ?_
    refine En_Ps 3 (pc' := 102) (lv' := [(1, .int z8), (0, .ref 159)]) (st' := [.int ((z8 + ((Int32.ofInt 3)))), .ref 165]) rfl ?_
    refine En_top (addI rfl (by decide : (Int32.ofInt 3).toInt = 3) (by omega) (by omega)) (fun z318 h319 => ?_)
    refine En_Ps 1 (pc' := 103) (lv' := [(1, .int z8), (0, .ref 159)]) (st' := [.int ((Int32.ofInt (-1))), .int z318, .ref 165]) rfl ?_
    refine En_iast (l := (-1)) (u := 3) rfl rfl tgz_165 (by decide +kernel) (by omega) (lnI (by decide +kernel : LN _ = 226) (by omega)) (FTrow 41 13 4 4 (by decide +kernel) (by omega) (by omega) (by omega)) (rngI (by decide : (Int32.ofInt (-1)).toInt = -1) (by omega) (by omega)) h308 h309 (by decide +kernel) (fun σ320 h321 h322 h323 h324 => ?_)
    have h325 := KF_st h312 (J := z318.toInt) h324 (by omega) (by omega)
    have : ((Int32.ofInt (-1))).toInt = (-1) := (by decide : (Int32.ofInt (-1)).toInt = -1)
    obtain ⟨S326, h327⟩ : ∃ q : PS, q = wst S313 (10 + 4 * Sp.2.2.2 2 + 3) (-1) := ⟨_, rfl⟩
    have h328 : ML By Nb σ320 S326 := by rw [h327]; exact (ML_wst (i := 10 + 4 * Sp.2.2.2 2 + 3) (v := -1) h315 h323 h324 (by omega) (fun z => by have j1 := h317.symm.trans z; have j2 := h304.symm.trans j1; have j3 := Imp_m h290 j2; exact ⟨by omega, by omega⟩))
    have h329 := ML_k h328 ((h324 _ _ (Or.inl (neTG tgz_159 tgz_165 (by decide)))).trans ((h311 _ _ (Or.inl (neTG tgz_159 tgz_165 (by decide)))).trans ((h298 _ _ (Or.inl (neTG tgz_159 tgz_165 (by decide)))).trans h278)))
    have h330 : S326.1 = S313.1 := by rw [h327]; rfl
    refine En_Ps 1 (pc' := 105) (lv' := [(1, .int z8), (0, .ref 159)]) (st' := [.ref 159]) rfl ?_
    refine En_getK (j := 14) ((h324 _ _ (Or.inl (neTG tgz_159 tgz_165 (by decide)))).trans ((h311 _ _ (Or.inl (neTG tgz_159 tgz_165 (by decide)))).trans ((h298 _ _ (Or.inl (neTG tgz_159 tgz_165 (by decide)))).trans ((h273 _ _ (inW tgz_159 (by decide +kernel))).trans ((h259 _ _ (Or.inl (neTG tgz_159 tgz_165 (by decide)))).trans ((h14 _ _ (inW tgz_159 (by decide +kernel))).trans h3)))))) rfl rfl rfl tgz_159 (by decide +kernel) ?_
    refine En_Ps 2 (pc' := 110) (lv' := [(1, .int z8), (0, .ref 159)]) (st' := [.int ((Int32.ofInt 2)), .ref 165, .int ((Int32.ofInt 2)), .ref 165]) rfl ?_
    refine En_ialdK ((h324 _ _ (Or.inr (by omega))).trans ((h311 _ _ (Or.inr (by omega))).trans ((h298 _ _ (Or.inr (by omega))).trans ((h273 _ _ (inWa tgz_165 (by decide +kernel))).trans ((h259 _ _ (Or.inr (by omega))).trans ((h14 _ _ (inWa tgz_165 (by decide +kernel))).trans h_nd)))))) rfl (by decide : (Int32.ofInt 2).toInt = 2) tgz_165 (by decide +kernel) h321 (by omega) (lnI (by decide +kernel : LN _ = 226) (by omega)) ?_
    refine En_Ps 2 (pc' := 113) (lv' := [(1, .int z8), (0, .ref 159)]) (st' := [.int ((nd + ((Int32.ofInt 1)))), .int ((Int32.ofInt 2)), .ref 165]) rfl ?_
    refine En_top (addI rfl (by decide : (Int32.ofInt 1).toInt = 1) (by omega) (by omega)) (fun z332 h333 => ?_)
    refine En_iast (l := 0) (u := 4) rfl (by decide : (Int32.ofInt 2).toInt = 2) tgz_165 (by decide +kernel) (by omega) (lnI (by decide +kernel : LN _ = 226) (by omega)) (by decide +kernel) (rngI rfl (by omega) (by omega)) h321 h322 (by decide +kernel) (fun σ334 h335 h336 h337 h338 => ?_)
    have h339 := KF_st h325 (J := 2) h338 (by omega) (by omega)
    obtain ⟨S340, h341⟩ : ∃ q : PS, q = wst S326 (2) (Sp.2.2.2 2 + 1) := ⟨_, rfl⟩
    have h342 : ML By Nb σ334 S340 := by rw [h341]; exact (ML_wst (i := 2) (v := Sp.2.2.2 2 + 1) h328 h337 h338 (by omega) (fun z => by have j1 := h330.symm.trans z; have j2 := h317.symm.trans j1; have j3 := h304.symm.trans j2; have j4 := Imp_m h290 j3; exact ⟨by omega, by omega⟩))
    have h343 := ML_k h342 ((h338 _ _ (Or.inl (neTG tgz_159 tgz_165 (by decide)))).trans ((h324 _ _ (Or.inl (neTG tgz_159 tgz_165 (by decide)))).trans ((h311 _ _ (Or.inl (neTG tgz_159 tgz_165 (by decide)))).trans ((h298 _ _ (Or.inl (neTG tgz_159 tgz_165 (by decide)))).trans h278))))
    have h344 : S340.1 = S326.1 := by rw [h341]; rfl
    exact En_ret (v := none) rfl rfl rfl ⟨h335, h336, z275, ((h338 _ _ (Or.inl (neTG tgz_159 tgz_165 (by decide)))).trans ((h324 _ _ (Or.inl (neTG tgz_159 tgz_165 (by decide)))).trans ((h311 _ _ (Or.inl (neTG tgz_159 tgz_165 (by decide)))).trans ((h298 _ _ (Or.inl (neTG tgz_159 tgz_165 (by decide)))).trans h276)))), z277, ((h338 _ _ (Or.inl (neTG tgz_159 tgz_165 (by decide)))).trans ((h324 _ _ (Or.inl (neTG tgz_159 tgz_165 (by decide)))).trans ((h311 _ _ (Or.inl (neTG tgz_159 tgz_165 (by decide)))).trans ((h298 _ _ (Or.inl (neTG tgz_159 tgz_165 (by decide)))).trans h278)))), rfl, ⟨by omega, by omega, by omega, by omega, by omega, by omega, by omega, fun _ => by omega, ⟨h339, ML_eq h342 (by unfold gDoor; dsimp only; rw [h266, ← h284, ← h287, ← h301, ← h314, ← h327, ← h341]; first | done | rfl | (rw [if_pos (by omega)]; first | done | rfl) | (rw [if_neg (by omega)]; first | done | rfl))⟩⟩⟩
/-- DoorSchoolModel.readLesson()V -/
abbrev P_300x (σ0 : SG) (By : Int → Int) (Nb : Int) (Sp : PS) (f : Int32) (k : Int32) : PO := fun v σ => WT σ ∧ Fr [(35, 8), (35, 9), (35, 10), (35, 11), (35, 12), (35, 13), (41, 0)] σ0 σ ∧ ∃ f1 : Int32, (σ 159)[8]? = some (.int f1) ∧ ∃ k1 : Int32, (σ 159)[12]? = some (.int k1) ∧ v = none ∧ -f1.toInt ≤ 0 ∧ f1.toInt - 1600 ≤ 0 ∧ -f1.toInt + f.toInt ≤ 0 ∧ -k1.toInt ≤ 0 ∧ k1.toInt - 3 ≤ 0 ∧ -k1.toInt + k.toInt ≤ 0 ∧ f.toInt - f1.toInt ≤ 0 ∧ Imp (k1.toInt ≤ 0) (k.toInt ≤ 0) ∧ (KF σ0 σ ∧ ML By Nb σ (gLesson By Nb Sp))
set_option maxRecDepth 10000 in
set_option maxHeartbeats 4000000 in
theorem c_300x {By : Int → Int} {Nb : Int} {Sp : PS} (σ0 : SG) (hσ0 : WT σ0) (f : Int32) (h_f : (σ0 159)[8]? = some (.int f)) (k : Int32) (h_k : (σ0 159)[12]? = some (.int k)) (hM : ML By Nb σ0 Sp) (hg : Sp.1 = 0) : En 8 176 none mr_300 (P_300x σ0 By Nb Sp f k) 0 [(0, .ref 159)] [] σ0 := by
  obtain ⟨hl_f, hu_f⟩ := WT_int hσ0 (g := 35) (by decide +kernel) (by decide +kernel) (l := 0) (u := 1600) (by decide +kernel) h_f
  obtain ⟨hl_k, hu_k⟩ := WT_int hσ0 (g := 35) (by decide +kernel) (by decide +kernel) (l := 0) (u := 3) (by decide +kernel) h_k
  have hF0 : Fr [(35, 8), (35, 9), (35, 10), (35, 11), (35, 12), (35, 13), (41, 0)] σ0 σ0 := Fr_rfl
  obtain ⟨z2, h1, h3, h4⟩ := WT_peekI hσ0 tgz_159 (by decide +kernel : FT 35 10 = (0, 0, 4)) (by decide +kernel)
  obtain ⟨z6, h5, h7, h8⟩ := WT_peekI hσ0 tgz_159 (by decide +kernel : FT 35 11 = (0, 0, 99999)) (by decide +kernel)
  have h9 := ML_k hM h_k
  have h10 : Imp (Sp.1 = 0) (tK By Nb Sp.2.2.1 = z2.toInt) := ML_t hM h1
  have h11 : Imp (Sp.1 = 0 ∧ tK By Nb Sp.2.2.1 = 2) (z6.toInt = min 99999 (tV By Nb Sp.2.2.1) ∧ 0 ≤ tV By Nb Sp.2.2.1) := fun q => ML_u hM h5 q.1 q.2
  obtain ⟨z13, h12, h14, h15⟩ := WT_peekI hσ0 tgz_165 (by decide +kernel : FT 41 (2 : Int).toNat = (0, 0, 4)) (by decide +kernel)
  have h16 := ML_w hM hg h12 (by omega) (by omega)
  try have h17 := Imp_m h10 (by omega)
  try have h18 := Imp_m h11 (by omega)
  refine En_Ps 2 (pc' := 2) (lv' := [(0, .ref 159)]) (st' := [.ref 159, .ref 159]) rfl ?_
  refine En_getU (j := 14) (u := 165) (g' := 41) (q := 0) rfl rfl rfl tgz_159 (by decide +kernel) hσ0 (by decide +kernel) (by decide +kernel) (fun h19 => ?_)
  refine En_Ps 1 (pc' := 6) (lv' := [(0, .ref 159)]) (st' := [.int ((Int32.ofInt 2)), .ref 165, .ref 159]) rfl ?_
  refine En_ialdK h12 rfl (by decide : (Int32.ofInt 2).toInt = 2) tgz_165 (by decide +kernel) hσ0 (by omega) (lnI (by decide +kernel : LN _ = 226) (by omega)) ?_
  refine En_callV rfl rfl rfl rfl rfl rfl rfl rfl tgz_159 (by decide +kernel) rfl (c_260x σ0 hσ0 z13 k h_k z2 h1 z6 h5) (by decide) (by decide) (fun v23 σ24 h22 => ?_)
  obtain ⟨h25, h26, z28, rfl, h27⟩ := h22
  obtain rfl : σ0 = σ24 := Fr_nil h26
  refine En_iEq _ rfl rfl (fun h29 => ?_) (fun h29 => ?_)
  · have h30 : gLs1 By Nb Sp = Sp := by unfold gLs1; (repeat' split) <;> first | rfl | (exfalso; omega) | ((try have i0 := Imp_m h10 (by omega)); (try have i1 := Imp_m h11 (by omega)); (try have i2 := Imp_m h27.2.2.1 (by omega)); (try have i3 := Imp_m h27.2.2.2 (by omega)); exfalso; omega)
    refine En_Ps 3 (pc' := 42) (lv' := [(0, .ref 159)]) (st' := [.ref 159, .int ((Int32.ofInt 0)), .ref 159]) rfl ?_
    refine En_getK (j := 14) h19 rfl rfl rfl tgz_159 (by decide +kernel) ?_
    refine En_Ps 1 (pc' := 46) (lv' := [(0, .ref 159)]) (st' := [.int ((Int32.ofInt 2)), .ref 165, .int ((Int32.ofInt 0)), .ref 159]) rfl ?_
    refine En_ialdK h12 rfl (by decide : (Int32.ofInt 2).toInt = 2) tgz_165 (by decide +kernel) hσ0 (by omega) (lnI (by decide +kernel : LN _ = 226) (by omega)) ?_
    refine En_Ps 2 (pc' := 49) (lv' := [(0, .ref 159)]) (st' := [.int ((z13 - ((Int32.ofInt 1)))), .int ((Int32.ofInt 0)), .ref 159]) rfl ?_
    refine En_top (subI rfl (by decide : (Int32.ofInt 1).toInt = 1) (by omega) (by omega)) (fun z32 h33 => ?_)
    have := (by decide : ((Int32.ofInt 0)).toInt = 0)
    refine En_callV rfl rfl rfl rfl rfl rfl rfl rfl tgz_159 (by decide +kernel) rfl (c_288x σ0 hσ0 ((Int32.ofInt 0)) z32 (geI (by decide : (Int32.ofInt 0).toInt = 0) (by omega)) (leI (by decide : (Int32.ofInt 0).toInt = 0) (by omega)) (geI rfl (by omega)) (leI rfl (by omega)) f h_f k h_k z2 h1 z6 h5 hM) (by decide) (by decide) (fun v35 σ36 h34 => ?_)
    obtain ⟨h37, h38, z40, h41, z42, h43, z44, rfl, h39⟩ := h34
    have h45 := h39.2.2.2.2.2.2.2.2.2.2.2.2.2.2.2.2
    have h46 := Fr_trans hF0 h38 (by decide +kernel)
    have h47 := KF_fr (KF_0 (σ := σ0)) h38 (by decide +kernel)
    have h48 : tN By Nb ((Int32.ofInt 0)).toInt z32.toInt Sp = tN By Nb (0) (Sp.2.2.2 2 - 1) Sp := tN_cg2 (fun zz => by have j1 := Imp_m h10 zz; omega) (fun zz => by have j1 := Imp_m h10 zz; omega)
    obtain ⟨S49, h50⟩ : ∃ q : PS, q = tN By Nb (0) (Sp.2.2.2 2 - 1) Sp := ⟨_, rfl⟩
    have h51 : ML By Nb σ36 S49 := by rw [h50]; exact (ML_eq h45.1 h48)
    have h52 := ML_k h51 h43
    have h53 : Imp (S49.1 = 0) (z44.toInt = tV By Nb Sp.2.2.1) := fun z => h45.2 (by rw [h48, ← h50]; exact z)
    have h54 : Imp (S49.1 = 0) (Sp.1 = 0 ∧ tK By Nb Sp.2.2.1 = 2 ∧ 0 ≤ tV By Nb Sp.2.2.1 ∧ tV By Nb Sp.2.2.1 ≤ Sp.2.2.2 2 - 1) := fun z => tN_gg (by rw [← h50]; exact z)
    have h55 : S49.2.2.2 = Sp.2.2.2 := by rw [h50]; exact tN_w
    have h56 := Imp_m h39.2.2.2.2.2.2.2.2.2.2.2.1 (by omega)
    have h57 := Imp_m h39.2.2.2.2.2.2.2.2.2.2.2.2.1 (by omega)
    refine En_Ps 2 (pc' := 54) (lv' := [(1, .int z44), (0, .ref 159)]) (st' := [.ref 159]) rfl ?_
    refine En_callV rfl rfl rfl rfl rfl rfl rfl rfl tgz_159 (by decide +kernel) rfl (c_234x σ36 h37 z40 h41 z42 h43 h51) (by decide) (by decide) (fun v59 σ60 h58 => ?_)
    obtain ⟨h61, h62, z64, h65, z66, h67, z68, rfl, h63⟩ := h58
    have h69 := h63.2.2.2.2.2.2.2.2.2.2.2.2
    have h70 := Fr_trans h46 h62 (by decide +kernel)
    have h71 := KF_fr h47 h62 (by decide +kernel)
    have h72 : tN By Nb 0 (pI (S49.2.2.2 0) - 1) S49 = tN By Nb 0 (pI (Sp.2.2.2 0) - 1) S49 := tN_cg rfl (by first | rfl | simp only [h55] | rfl)
    obtain ⟨S73, h74⟩ : ∃ q : PS, q = tN By Nb 0 (pI (Sp.2.2.2 0) - 1) S49 := ⟨_, rfl⟩
    have h75 : ML By Nb σ60 S73 := by rw [h74]; exact (ML_eq h69.1 h72)
    have h76 := ML_k h75 h67
    have h77 : Imp (S73.1 = 0) (z68.toInt = tV By Nb S49.2.2.1) := fun z => h69.2 (by rw [h72, ← h74]; exact z)
    have h78 : Imp (S73.1 = 0) (S49.1 = 0 ∧ tK By Nb S49.2.2.1 = 2 ∧ 0 ≤ tV By Nb S49.2.2.1 ∧ tV By Nb S49.2.2.1 ≤ pI (Sp.2.2.2 0) - 1) := fun z => tN_gg (by rw [← h74]; exact z)
    have h79 : S73.2.2.2 = S49.2.2.2 := by rw [h74]; exact tN_w
    refine En_Ps 2 (pc' := 59) (lv' := [(2, .int z68), (1, .int z44), (0, .ref 159)]) (st' := [.ref 159]) rfl ?_
    refine En_callV rfl rfl rfl rfl rfl rfl rfl rfl tgz_159 (by decide +kernel) rfl (c_209x σ60 h61 z64 h65 z66 h67 h75) (by decide) (by decide) (fun v81 σ82 h80 => ?_)
    obtain ⟨h83, h84, z86, h87, z88, h89, z90, rfl, h85⟩ := h80
    have h91 := h85.2.2.2.2.2.2.2.2.2.2
    have h92 := Fr_trans h70 h84 (by decide +kernel)
    have h93 := KF_fr h71 h84 (by decide +kernel)
    obtain ⟨S94, h95⟩ : ∃ q : PS, q = gDeed By Nb S73 := ⟨_, rfl⟩
    have h96 : ML By Nb σ82 S94 := by rw [h95]; exact h91.1
    have h97 := ML_k h96 h89
    have h98 : z90.toInt = iW By Nb 8 S73 := h91.2
    have h99 : S94.2.2.2 = S73.2.2.2 := by rw [h95]; exact gDeed_w
    have h100 : Imp (S94.1 = 0) (S73.1 = 0) := fun z => gDeed_g (by rw [← h95]; exact z)
    refine En_Ps 2 (pc' := 64) (lv' := [(3, .int z90), (2, .int z68), (1, .int z44), (0, .ref 159)]) (st' := [.ref 159]) rfl ?_
    refine En_callV rfl rfl rfl rfl rfl rfl rfl rfl tgz_159 (by decide +kernel) rfl (c_237 σ82 h83 z88 h89) (by decide) (by decide) (fun v102 σ103 h101 => ?_)
    obtain ⟨h104, h105, z107, rfl, h106⟩ := h101
    obtain rfl : σ82 = σ103 := Fr_nil h105
    refine En_iNe _ rfl rfl (fun hx => by exfalso; have := Imp_m h39.2.2.2.2.2.2.2.2.2.2.2.2.2.2.2.1 (by omega); have := Imp_m h63.2.2.2.2.2.2.2.2.2.2.2.1 (by omega); have := Imp_m h85.2.2.2.2.2.2.2.2.2.1 (by omega); have := Imp_m h27.2.2.2 (by omega); have := Imp_m h39.2.2.2.2.2.2.2.2.2.2.2.2.2.1 (by omega); have := Imp_m h39.2.2.2.2.2.2.2.2.2.2.2.2.2.2.1 (by omega); omega) (fun h108 => ?_)
    exact En_ret (v := none) rfl rfl rfl ⟨h83, h92, z86, h87, z88, h89, rfl, ⟨by omega, by omega, by omega, by omega, by omega, by omega, by omega, fun _ => by omega, ⟨h93, ML_eq h96 (by unfold gLesson; dsimp only; rw [h30, ← h50, ← h74, ← h95]; first | done | rfl | (rw [if_pos (by omega)]; first | done | rfl) | (rw [if_neg (by omega)]; first | done | rfl))⟩⟩⟩
  · have h109 := Imp_m h27.2.2.1 (by omega)
    have h110 : Sp.1 = 0 := by omega
    have h111 := Imp_m h10 h110
    have h112 : tK By Nb Sp.2.2.1 = 2 := by omega
    have h113 := Imp_m h10 h110
    have h114 := Imp_m h11 ⟨h110, h112⟩
    refine En_Ps 1 (pc' := 14) (lv' := [(0, .ref 159)]) (st' := [.ref 159]) rfl ?_
    refine En_getK (j := 14) h19 rfl rfl rfl tgz_159 (by decide +kernel) ?_
    refine En_Ps 3 (pc' := 21) (lv' := [(0, .ref 159)]) (st' := [.ref 159, .int ((Int32.ofInt 4)), .int (((Int8.ofInt 10).toInt32)), .ref 165]) rfl ?_
    refine En_getK (j := 11) h5 rfl rfl rfl tgz_159 (by decide +kernel) ?_
    refine En_Ps 1 (pc' := 25) (lv' := [(0, .ref 159)]) (st' := [.int ((((Int32.ofInt 4)) * z6)), .int (((Int8.ofInt 10).toInt32)), .ref 165]) rfl ?_
    refine En_top (mulI (by decide : (Int32.ofInt 4).toInt = 4) rfl (Z := 4 * z6.toInt) (by omega) (by omega) (by omega)) (fun z115 h116 => ?_)
    refine En_Ps 1 (pc' := 26) (lv' := [(0, .ref 159)]) (st' := [.int (((((Int8.ofInt 10).toInt32)) + z115)), .ref 165]) rfl ?_
    refine En_top (addI (by decide : ((Int8.ofInt 10).toInt32).toInt = 10) rfl (by omega) (by omega)) (fun z117 h118 => ?_)
    refine En_Ps 2 (pc' := 28) (lv' := [(0, .ref 159)]) (st' := [.int ((z117 + ((Int32.ofInt 2)))), .ref 165]) rfl ?_
    refine En_top (addI rfl (by decide : (Int32.ofInt 2).toInt = 2) (by omega) (by omega)) (fun z119 h120 => ?_)
    refine En_iald (l := 0) (u := 12) rfl rfl tgz_165 (by decide +kernel) hσ0 (by omega) (lnI (by decide +kernel : LN _ = 226) (by omega)) (FTrow 41 12 4 4 (by decide +kernel) (by omega) (by omega) (by omega)) (fun z122 h121 h123 h124 => ?_)
    have h125 : Sp.2.2.2 (12 + 4 * tV By Nb Sp.2.2.1) = z122.toInt := ML_wi hM hg h121 (by omega) (by omega) (by omega)
    refine En_Ps 1 (pc' := 31) (lv' := [(0, .ref 159)]) (st' := [.int (((Int8.ofInt 12).toInt32)), .int z122]) rfl ?_
    refine En_icNe _ rfl (by decide : ((Int8.ofInt 12).toInt32).toInt = 12) rfl (fun h126 => ?_) (fun h126 => ?_)
    · have h127 : gLs1 By Nb Sp = Sp := by unfold gLs1; (repeat' split) <;> first | rfl | (exfalso; omega) | ((try have i0 := Imp_m h10 (by omega)); (try have i1 := Imp_m h11 (by omega)); (try have i2 := Imp_m h27.2.2.2 (by omega)); exfalso; omega)
      refine En_Ps 3 (pc' := 42) (lv' := [(0, .ref 159)]) (st' := [.ref 159, .int ((Int32.ofInt 0)), .ref 159]) rfl ?_
      refine En_getK (j := 14) h19 rfl rfl rfl tgz_159 (by decide +kernel) ?_
      refine En_Ps 1 (pc' := 46) (lv' := [(0, .ref 159)]) (st' := [.int ((Int32.ofInt 2)), .ref 165, .int ((Int32.ofInt 0)), .ref 159]) rfl ?_
      refine En_ialdK h12 rfl (by decide : (Int32.ofInt 2).toInt = 2) tgz_165 (by decide +kernel) hσ0 (by omega) (lnI (by decide +kernel : LN _ = 226) (by omega)) ?_
      refine En_Ps 2 (pc' := 49) (lv' := [(0, .ref 159)]) (st' := [.int ((z13 - ((Int32.ofInt 1)))), .int ((Int32.ofInt 0)), .ref 159]) rfl ?_
      refine En_top (subI rfl (by decide : (Int32.ofInt 1).toInt = 1) (by omega) (by omega)) (fun z129 h130 => ?_)
      have := (by decide : ((Int32.ofInt 0)).toInt = 0)
      refine En_callV rfl rfl rfl rfl rfl rfl rfl rfl tgz_159 (by decide +kernel) rfl (c_288x σ0 hσ0 ((Int32.ofInt 0)) z129 (geI (by decide : (Int32.ofInt 0).toInt = 0) (by omega)) (leI (by decide : (Int32.ofInt 0).toInt = 0) (by omega)) (geI rfl (by omega)) (leI rfl (by omega)) f h_f k h_k z2 h1 z6 h5 hM) (by decide) (by decide) (fun v132 σ133 h131 => ?_)
      obtain ⟨h134, h135, z137, h138, z139, h140, z141, rfl, h136⟩ := h131
      have h142 := h136.2.2.2.2.2.2.2.2.2.2.2.2.2.2.2.2
      have h143 := Fr_trans hF0 h135 (by decide +kernel)
      have h144 := KF_fr (KF_0 (σ := σ0)) h135 (by decide +kernel)
      have h145 : tN By Nb ((Int32.ofInt 0)).toInt z129.toInt Sp = tN By Nb (0) (Sp.2.2.2 2 - 1) Sp := tN_cg2 (fun zz => by have j1 := Imp_m h10 zz; omega) (fun zz => by have j1 := Imp_m h10 zz; omega)
      obtain ⟨S146, h147⟩ : ∃ q : PS, q = tN By Nb (0) (Sp.2.2.2 2 - 1) Sp := ⟨_, rfl⟩
      have h148 : ML By Nb σ133 S146 := by rw [h147]; exact (ML_eq h142.1 h145)
      have h149 := ML_k h148 h140
      have h150 : Imp (S146.1 = 0) (z141.toInt = tV By Nb Sp.2.2.1) := fun z => h142.2 (by rw [h145, ← h147]; exact z)
      have h151 : Imp (S146.1 = 0) (Sp.1 = 0 ∧ tK By Nb Sp.2.2.1 = 2 ∧ 0 ≤ tV By Nb Sp.2.2.1 ∧ tV By Nb Sp.2.2.1 ≤ Sp.2.2.2 2 - 1) := fun z => tN_gg (by rw [← h147]; exact z)
      have h152 : S146.2.2.2 = Sp.2.2.2 := by rw [h147]; exact tN_w
      have h153 := Imp_m h136.2.2.2.2.2.2.2.2.2.2.2.1 (by omega)
      have h154 := Imp_m h136.2.2.2.2.2.2.2.2.2.2.2.2.1 (by omega)
      have h155 := Imp_m h136.2.2.2.2.2.2.2.2.2.2.2.2.2.1 (by omega)
      refine En_Ps 2 (pc' := 54) (lv' := [(1, .int z141), (0, .ref 159)]) (st' := [.ref 159]) rfl ?_
      refine En_callV rfl rfl rfl rfl rfl rfl rfl rfl tgz_159 (by decide +kernel) rfl (c_234x σ133 h134 z137 h138 z139 h140 h148) (by decide) (by decide) (fun v157 σ158 h156 => ?_)
      obtain ⟨h159, h160, z162, h163, z164, h165, z166, rfl, h161⟩ := h156
      have h167 := h161.2.2.2.2.2.2.2.2.2.2.2.2
      have h168 := Fr_trans h143 h160 (by decide +kernel)
      have h169 := KF_fr h144 h160 (by decide +kernel)
      have h170 : tN By Nb 0 (pI (S146.2.2.2 0) - 1) S146 = tN By Nb 0 (pI (Sp.2.2.2 0) - 1) S146 := tN_cg rfl (by first | rfl | simp only [h152] | rfl)
      obtain ⟨S171, h172⟩ : ∃ q : PS, q = tN By Nb 0 (pI (Sp.2.2.2 0) - 1) S146 := ⟨_, rfl⟩
      have h173 : ML By Nb σ158 S171 := by rw [h172]; exact (ML_eq h167.1 h170)
      have h174 := ML_k h173 h165
      have h175 : Imp (S171.1 = 0) (z166.toInt = tV By Nb S146.2.2.1) := fun z => h167.2 (by rw [h170, ← h172]; exact z)
      have h176 : Imp (S171.1 = 0) (S146.1 = 0 ∧ tK By Nb S146.2.2.1 = 2 ∧ 0 ≤ tV By Nb S146.2.2.1 ∧ tV By Nb S146.2.2.1 ≤ pI (Sp.2.2.2 0) - 1) := fun z => tN_gg (by rw [← h172]; exact z)
      have h177 : S171.2.2.2 = S146.2.2.2 := by rw [h172]; exact tN_w
      refine En_Ps 2 (pc' := 59) (lv' := [(2, .int z166), (1, .int z141), (0, .ref 159)]) (st' := [.ref 159]) rfl ?_
      refine En_callV rfl rfl rfl rfl rfl rfl rfl rfl tgz_159 (by decide +kernel) rfl (c_209x σ158 h159 z162 h163 z164 h165 h173) (by decide) (by decide) (fun v179 σ180 h178 => ?_)
      obtain ⟨h181, h182, z184, h185, z186, h187, z188, rfl, h183⟩ := h178
      have h189 := h183.2.2.2.2.2.2.2.2.2.2
      have h190 := Fr_trans h168 h182 (by decide +kernel)
      have h191 := KF_fr h169 h182 (by decide +kernel)
      obtain ⟨S192, h193⟩ : ∃ q : PS, q = gDeed By Nb S171 := ⟨_, rfl⟩
      have h194 : ML By Nb σ180 S192 := by rw [h193]; exact h189.1
      have h195 := ML_k h194 h187
      have h196 : z188.toInt = iW By Nb 8 S171 := h189.2
      have h197 : S192.2.2.2 = S171.2.2.2 := by rw [h193]; exact gDeed_w
      have h198 : Imp (S192.1 = 0) (S171.1 = 0) := fun z => gDeed_g (by rw [← h193]; exact z)
      refine En_Ps 2 (pc' := 64) (lv' := [(3, .int z188), (2, .int z166), (1, .int z141), (0, .ref 159)]) (st' := [.ref 159]) rfl ?_
      refine En_callV rfl rfl rfl rfl rfl rfl rfl rfl tgz_159 (by decide +kernel) rfl (c_237 σ180 h181 z186 h187) (by decide) (by decide) (fun v200 σ201 h199 => ?_)
      obtain ⟨h202, h203, z205, rfl, h204⟩ := h199
      obtain rfl : σ180 = σ201 := Fr_nil h203
      refine En_iNe _ rfl rfl (fun h206 => ?_) (fun h206 => ?_)
      · have h207 := Imp_m h136.2.2.2.2.2.2.2.2.2.2.2.2.2.2.2.1 (by omega)
        have h208 := Imp_m h161.2.2.2.2.2.2.2.2.2.2.2.1 (by omega)
        have h209 := Imp_m h183.2.2.2.2.2.2.2.2.2.1 (by omega)
        have h210 : S192.1 = 0 := by omega
        have h211 := Imp_m h198 h210
        have h212 := Imp_m h175 h211
        have h213 := Imp_m h176 h211
        have h214 := Imp_m h150 h213.1
        have h215 := Imp_m h151 h213.1
        have h216 := Imp_m h10 h215.1
        have h217 := Imp_m h11 ⟨h215.1, h215.2.1⟩
        refine En_Ps 2 (pc' := 73) (lv' := [(3, .int z188), (2, .int z166), (1, .int z141), (0, .ref 159)]) (st' := [.ref 159, .int z141]) rfl ?_
        refine En_getK (j := 14) ((h182 _ _ (inW tgz_159 (by decide +kernel))).trans ((h160 _ _ (inW tgz_159 (by decide +kernel))).trans ((h135 _ _ (inW tgz_159 (by decide +kernel))).trans h19))) rfl rfl rfl tgz_159 (by decide +kernel) ?_
        refine En_Ps 4 (pc' := 81) (lv' := [(3, .int z188), (2, .int z166), (1, .int z141), (0, .ref 159)]) (st' := [.int ((((Int32.ofInt 4)) * z141)), .int (((Int8.ofInt 10).toInt32)), .ref 165, .int z141]) rfl ?_
        refine En_top (mulI (by decide : (Int32.ofInt 4).toInt = 4) rfl (Z := 4 * z141.toInt) (by omega) (by omega) (by omega)) (fun z218 h219 => ?_)
        refine En_Ps 1 (pc' := 82) (lv' := [(3, .int z188), (2, .int z166), (1, .int z141), (0, .ref 159)]) (st' := [.int (((((Int8.ofInt 10).toInt32)) + z218)), .ref 165, .int z141]) rfl ?_
        refine En_top (addI (by decide : ((Int8.ofInt 10).toInt32).toInt = 10) rfl (by omega) (by omega)) (fun z220 h221 => ?_)
        refine En_Ps 2 (pc' := 84) (lv' := [(3, .int z188), (2, .int z166), (1, .int z141), (0, .ref 159)]) (st' := [.int ((z220 + ((Int32.ofInt 2)))), .ref 165, .int z141]) rfl ?_
        refine En_top (addI rfl (by decide : (Int32.ofInt 2).toInt = 2) (by omega) (by omega)) (fun z222 h223 => ?_)
        have h225 : (σ180 165)[(z222.toInt).toNat]? = some (.int z122) := by rw [show (z222.toInt) = (z119.toInt) by omega]; exact ((h182 _ _ (inWa tgz_165 (by decide +kernel))).trans ((h160 _ _ (inWa tgz_165 (by decide +kernel))).trans ((h135 _ _ (inWa tgz_165 (by decide +kernel))).trans h121)))
        refine En_ialdK h225 rfl rfl tgz_165 (by decide +kernel) h181 (by omega) (lnI (by decide +kernel : LN _ = 226) (by omega)) ?_
        have h226 : S192.2.2.2 (12 + 4 * (tV By Nb Sp.2.2.1)) = z122.toInt := ML_wi h194 (by omega) ((h182 _ _ (inWa tgz_165 (by decide +kernel))).trans ((h160 _ _ (inWa tgz_165 (by decide +kernel))).trans ((h135 _ _ (inWa tgz_165 (by decide +kernel))).trans h121))) (by omega) (by omega) (by omega)
        rw [h197, h177, h152] at h226
        refine En_callS rfl rfl rfl rfl rfl rfl rfl rfl rfl (c_281 σ180 h181 z141 z122 (geI rfl (by omega)) (leI rfl (by omega)) (geI rfl (by omega)) (leI rfl (by omega))) (by decide) (by decide) (fun v229 σ230 h228 => ?_)
        obtain ⟨h231, h232, z234, rfl, h233⟩ := h228
        obtain rfl : σ180 = σ230 := Fr_nil h232
        refine En_Ps 2 (pc' := 91) (lv' := [(4, .int z234), (3, .int z188), (2, .int z166), (1, .int z141), (0, .ref 159)]) (st' := [.ref 159]) rfl ?_
        refine En_getK (j := 14) ((h182 _ _ (inW tgz_159 (by decide +kernel))).trans ((h160 _ _ (inW tgz_159 (by decide +kernel))).trans ((h135 _ _ (inW tgz_159 (by decide +kernel))).trans h19))) rfl rfl rfl tgz_159 (by decide +kernel) ?_
        refine En_Ps 2 (pc' := 97) (lv' := [(4, .int z234), (3, .int z188), (2, .int z166), (1, .int z141), (0, .ref 159)]) (st' := [.int z166, .int z234, .ref 165]) rfl ?_
        refine En_iast (l := 0) (u := 15) rfl rfl tgz_165 (by decide +kernel) (by omega) (lnI (by decide +kernel : LN _ = 226) (by omega)) (FTrow 41 26 2 48 (by decide +kernel) (by omega) (by omega) (by omega)) (rngI rfl (by omega) (by omega)) h181 h190 (by decide +kernel) (fun σ235 h236 h237 h238 h239 => ?_)
        have h240 := KF_st h191 (J := z234.toInt) h239 (by omega) (by omega)
        obtain ⟨S241, h242⟩ : ∃ q : PS, q = wst S192 (26 + 24 * (tV By Nb Sp.2.2.1) + 2 * Sp.2.2.2 (12 + 4 * (tV By Nb Sp.2.2.1))) ((tV By Nb S146.2.2.1)) := ⟨_, rfl⟩
        have h243 : ML By Nb σ235 S241 := by rw [h242]; exact (ML_wst (i := 26 + 24 * (tV By Nb Sp.2.2.1) + 2 * Sp.2.2.2 (12 + 4 * (tV By Nb Sp.2.2.1))) (v := (tV By Nb S146.2.2.1)) h194 h238 h239 (by omega) (fun z => by have j1 := Imp_m h198 z; have j2 := Imp_m h175 j1; have j3 := Imp_m h176 j1; have j4 := Imp_m h150 j3.1; have j5 := Imp_m h151 j3.1; have j6 := Imp_m h10 j5.1; have j7 := Imp_m h11 ⟨j5.1, j5.2.1⟩; exact ⟨by omega, by omega⟩))
        have h244 := ML_k h243 ((h239 _ _ (Or.inl (neTG tgz_159 tgz_165 (by decide)))).trans h187)
        have h245 : S241.1 = S192.1 := by rw [h242]; rfl
        refine En_Ps 1 (pc' := 99) (lv' := [(4, .int z234), (3, .int z188), (2, .int z166), (1, .int z141), (0, .ref 159)]) (st' := [.ref 159]) rfl ?_
        refine En_getK (j := 14) ((h239 _ _ (Or.inl (neTG tgz_159 tgz_165 (by decide)))).trans ((h182 _ _ (inW tgz_159 (by decide +kernel))).trans ((h160 _ _ (inW tgz_159 (by decide +kernel))).trans ((h135 _ _ (inW tgz_159 (by decide +kernel))).trans h19)))) rfl rfl rfl tgz_159 (by decide +kernel) ?_
        refine En_Ps 3 (pc' := 106) (lv' := [(4, .int z234), (3, .int z188), (2, .int z166), (1, .int z141), (0, .ref 159)]) (st' := [.int ((z234 + ((Int32.ofInt 1)))), .ref 165]) rfl ?_
        refine En_top (addI rfl (by decide : (Int32.ofInt 1).toInt = 1) (by omega) (by omega)) (fun z246 h247 => ?_)
        refine En_Ps 1 (pc' := 107) (lv' := [(4, .int z234), (3, .int z188), (2, .int z166), (1, .int z141), (0, .ref 159)]) (st' := [.int z188, .int z246, .ref 165]) rfl ?_
        refine En_iast (l := 0) (u := 1) rfl rfl tgz_165 (by decide +kernel) (by omega) (lnI (by decide +kernel : LN _ = 226) (by omega)) (FTrow 41 27 2 48 (by decide +kernel) (by omega) (by omega) (by omega)) (rngI rfl (by omega) (by omega)) h236 h237 (by decide +kernel) (fun σ248 h249 h250 h251 h252 => ?_)
        have h253 := KF_st h240 (J := z246.toInt) h252 (by omega) (by omega)
        obtain ⟨S254, h255⟩ : ∃ q : PS, q = wst S241 (26 + 24 * (tV By Nb Sp.2.2.1) + 2 * Sp.2.2.2 (12 + 4 * (tV By Nb Sp.2.2.1)) + 1) ((iW By Nb 8 S171)) := ⟨_, rfl⟩
        have h256 : ML By Nb σ248 S254 := by rw [h255]; exact (ML_wst (i := 26 + 24 * (tV By Nb Sp.2.2.1) + 2 * Sp.2.2.2 (12 + 4 * (tV By Nb Sp.2.2.1)) + 1) (v := (iW By Nb 8 S171)) h243 h251 h252 (by omega) (fun z => by have j1 := h245.symm.trans z; have j2 := Imp_m h198 j1; have j3 := Imp_m h175 j2; have j4 := Imp_m h176 j2; have j5 := Imp_m h150 j4.1; have j6 := Imp_m h151 j4.1; have j7 := Imp_m h10 j6.1; have j8 := Imp_m h11 ⟨j6.1, j6.2.1⟩; exact ⟨by omega, by omega⟩))
        have h257 := ML_k h256 ((h252 _ _ (Or.inl (neTG tgz_159 tgz_165 (by decide)))).trans ((h239 _ _ (Or.inl (neTG tgz_159 tgz_165 (by decide)))).trans h187))
        have h258 : S254.1 = S241.1 := by rw [h255]; rfl
        refine En_Ps 1 (pc' := 109) (lv' := [(4, .int z234), (3, .int z188), (2, .int z166), (1, .int z141), (0, .ref 159)]) (st' := [.ref 159]) rfl ?_
        refine En_getK (j := 14) ((h252 _ _ (Or.inl (neTG tgz_159 tgz_165 (by decide)))).trans ((h239 _ _ (Or.inl (neTG tgz_159 tgz_165 (by decide)))).trans ((h182 _ _ (inW tgz_159 (by decide +kernel))).trans ((h160 _ _ (inW tgz_159 (by decide +kernel))).trans ((h135 _ _ (inW tgz_159 (by decide +kernel))).trans h19))))) rfl rfl rfl tgz_159 (by decide +kernel) ?_
        refine En_Ps 4 (pc' := 117) (lv' := [(4, .int z234), (3, .int z188), (2, .int z166), (1, .int z141), (0, .ref 159)]) (st' := [.int ((((Int32.ofInt 4)) * z141)), .int (((Int8.ofInt 10).toInt32)), .ref 165]) rfl ?_
        refine En_top (mulI (by decide : (Int32.ofInt 4).toInt = 4) rfl (Z := 4 * z141.toInt) (by omega) (by omega) (by omega)) (fun z259 h260 => ?_)
        refine En_Ps 1 (pc' := 118) (lv' := [(4, .int z234), (3, .int z188), (2, .int z166), (1, .int z141), (0, .ref 159)]) (st' := [.int (((((Int8.ofInt 10).toInt32)) + z259)), .ref 165]) rfl ?_
        refine En_top (addI (by decide : ((Int8.ofInt 10).toInt32).toInt = 10) rfl (by omega) (by omega)) (fun z261 h262 => ?_)
        refine En_Ps 2 (pc' := 120) (lv' := [(4, .int z234), (3, .int z188), (2, .int z166), (1, .int z141), (0, .ref 159)]) (st' := [.int ((z261 + ((Int32.ofInt 2)))), .ref 165]) rfl ?_
        refine En_top (addI rfl (by decide : (Int32.ofInt 2).toInt = 2) (by omega) (by omega)) (fun z263 h264 => ?_)
        refine En_Ps 1 (pc' := 121) (lv' := [(4, .int z234), (3, .int z188), (2, .int z166), (1, .int z141), (0, .ref 159)]) (st' := [.int z263, .ref 165, .int z263, .ref 165]) rfl ?_
        have h266 : (σ248 165)[(z263.toInt).toNat]? = some (.int z122) := by rw [show (z263.toInt) = (z119.toInt) by omega]; exact ((h252 _ _ (Or.inr (by omega))).trans ((h239 _ _ (Or.inr (by omega))).trans ((h182 _ _ (inWa tgz_165 (by decide +kernel))).trans ((h160 _ _ (inWa tgz_165 (by decide +kernel))).trans ((h135 _ _ (inWa tgz_165 (by decide +kernel))).trans h121)))))
        refine En_ialdK h266 rfl rfl tgz_165 (by decide +kernel) h249 (by omega) (lnI (by decide +kernel : LN _ = 226) (by omega)) ?_
        refine En_Ps 2 (pc' := 124) (lv' := [(4, .int z234), (3, .int z188), (2, .int z166), (1, .int z141), (0, .ref 159)]) (st' := [.int ((z122 + ((Int32.ofInt 1)))), .int z263, .ref 165]) rfl ?_
        refine En_top (addI rfl (by decide : (Int32.ofInt 1).toInt = 1) (by omega) (by omega)) (fun z267 h268 => ?_)
        refine En_iast (l := 0) (u := 12) rfl rfl tgz_165 (by decide +kernel) (by omega) (lnI (by decide +kernel : LN _ = 226) (by omega)) (FTrow 41 12 4 4 (by decide +kernel) (by omega) (by omega) (by omega)) (rngI rfl (by omega) (by omega)) h249 h250 (by decide +kernel) (fun σ269 h270 h271 h272 h273 => ?_)
        have h274 := KF_st h253 (J := z263.toInt) h273 (by omega) (by omega)
        obtain ⟨S275, h276⟩ : ∃ q : PS, q = wst S254 (12 + 4 * (tV By Nb Sp.2.2.1)) (Sp.2.2.2 (12 + 4 * (tV By Nb Sp.2.2.1)) + 1) := ⟨_, rfl⟩
        have h277 : ML By Nb σ269 S275 := by rw [h276]; exact (ML_wst (i := 12 + 4 * (tV By Nb Sp.2.2.1)) (v := Sp.2.2.2 (12 + 4 * (tV By Nb Sp.2.2.1)) + 1) h256 h272 h273 (by omega) (fun z => by have j1 := h258.symm.trans z; have j2 := h245.symm.trans j1; have j3 := Imp_m h198 j2; have j4 := Imp_m h175 j3; have j5 := Imp_m h176 j3; have j6 := Imp_m h150 j5.1; have j7 := Imp_m h151 j5.1; have j8 := Imp_m h10 j7.1; have j9 := Imp_m h11 ⟨j7.1, j7.2.1⟩; exact ⟨by omega, by omega⟩))
        have h278 := ML_k h277 ((h273 _ _ (Or.inl (neTG tgz_159 tgz_165 (by decide)))).trans ((h252 _ _ (Or.inl (neTG tgz_159 tgz_165 (by decide)))).trans ((h239 _ _ (Or.inl (neTG tgz_159 tgz_165 (by decide)))).trans h187)))
        have h279 : S275.1 = S254.1 := by rw [h276]; rfl
        exact En_ret (v := none) rfl rfl rfl ⟨h270, h271, z184, ((h273 _ _ (Or.inl (neTG tgz_159 tgz_165 (by decide)))).trans ((h252 _ _ (Or.inl (neTG tgz_159 tgz_165 (by decide)))).trans ((h239 _ _ (Or.inl (neTG tgz_159 tgz_165 (by decide)))).trans h185))), z186, ((h273 _ _ (Or.inl (neTG tgz_159 tgz_165 (by decide)))).trans ((h252 _ _ (Or.inl (neTG tgz_159 tgz_165 (by decide)))).trans ((h239 _ _ (Or.inl (neTG tgz_159 tgz_165 (by decide)))).trans h187))), rfl, ⟨by omega, by omega, by omega, by omega, by omega, by omega, by omega, fun _ => by omega, ⟨h274, ML_eq h277 (by unfold gLesson; dsimp only; rw [h127, ← h147, ← h172, ← h193, ← h242, ← h255, ← h276]; first | done | rfl | (rw [if_pos (by omega)]; first | done | rfl) | (rw [if_neg (by omega)]; first | done | rfl))⟩⟩⟩
      · exact En_ret (v := none) rfl rfl rfl ⟨h181, h190, z184, h185, z186, h187, rfl, ⟨by omega, by omega, by omega, by omega, by omega, by omega, by omega, fun _ => by omega, ⟨h191, ML_eq h194 (by unfold gLesson; dsimp only; rw [h127, ← h147, ← h172, ← h193]; first | done | rfl | (rw [if_pos (by omega)]; first | done | rfl) | (rw [if_neg (by omega)]; first | done | rfl))⟩⟩⟩
    · refine En_Ps 2 (pc' := 36) (lv' := [(0, .ref 159)]) (st' := [.int ((Int32.ofInt 3)), .ref 159]) rfl ?_
      have := (by decide : ((Int32.ofInt 3)).toInt = 3)
      refine En_callV rfl rfl rfl rfl rfl rfl rfl rfl tgz_159 (by decide +kernel) rfl (c_223x σ0 hσ0 ((Int32.ofInt 3)) (geI (by decide : (Int32.ofInt 3).toInt = 3) (by omega)) (leI (by decide : (Int32.ofInt 3).toInt = 3) (by omega)) k h_k hM) (by decide) (by decide) (fun v281 σ282 h280 => ?_)
      obtain ⟨h283, h284, z286, h287, rfl, h285⟩ := h280
      have h288 := h285.2.2.2.2
      have h289 := Fr_trans hF0 h284 (by decide +kernel)
      have h290 := KF_fr (KF_0 (σ := σ0)) h284 (by decide +kernel)
      obtain ⟨S291, h292⟩ : ∃ q : PS, q = err By Nb 3 Sp := ⟨_, rfl⟩
      have h293 : ML By Nb σ282 S291 := by rw [h292]; exact (ML_eq h288 (err_cg (by omega)))
      have h294 := ML_k h293 h287
      have h295 : Imp (S291.1 = 0) (tK By Nb S291.2.2.1 = z2.toInt) := ML_t h293 ((h284 _ _ (inW tgz_159 (by decide +kernel))).trans h1)
      have h296 : Imp (S291.1 = 0 ∧ tK By Nb S291.2.2.1 = 2) (z6.toInt = min 99999 (tV By Nb S291.2.2.1) ∧ 0 ≤ tV By Nb S291.2.2.1) := fun q => ML_u h293 ((h284 _ _ (inW tgz_159 (by decide +kernel))).trans h5) q.1 q.2
      have h297 : S291.2.2.2 = Sp.2.2.2 := by rw [h292]; exact err_w
      have h298 : gLs1 By Nb Sp = S291 := by rw [h292]; unfold gLs1; (repeat' split) <;> first | rfl | (exfalso; omega) | ((try have i0 := Imp_m h295 (by omega)); (try have i1 := Imp_m h10 (by omega)); (try have i2 := Imp_m h11 (by omega)); (try have i3 := Imp_m h296 (by omega)); (try have i4 := Imp_m h27.2.2.2 (by omega)); exfalso; omega)
      refine En_Ps 3 (pc' := 42) (lv' := [(0, .ref 159)]) (st' := [.ref 159, .int ((Int32.ofInt 0)), .ref 159]) rfl ?_
      refine En_getK (j := 14) ((h284 _ _ (inW tgz_159 (by decide +kernel))).trans h19) rfl rfl rfl tgz_159 (by decide +kernel) ?_
      refine En_Ps 1 (pc' := 46) (lv' := [(0, .ref 159)]) (st' := [.int ((Int32.ofInt 2)), .ref 165, .int ((Int32.ofInt 0)), .ref 159]) rfl ?_
      refine En_ialdK ((h284 _ _ (inWa tgz_165 (by decide +kernel))).trans h12) rfl (by decide : (Int32.ofInt 2).toInt = 2) tgz_165 (by decide +kernel) h283 (by omega) (lnI (by decide +kernel : LN _ = 226) (by omega)) ?_
      refine En_Ps 2 (pc' := 49) (lv' := [(0, .ref 159)]) (st' := [.int ((z13 - ((Int32.ofInt 1)))), .int ((Int32.ofInt 0)), .ref 159]) rfl ?_
      refine En_top (subI rfl (by decide : (Int32.ofInt 1).toInt = 1) (by omega) (by omega)) (fun z300 h301 => ?_)
      have := (by decide : ((Int32.ofInt 0)).toInt = 0)
      refine En_callV rfl rfl rfl rfl rfl rfl rfl rfl tgz_159 (by decide +kernel) rfl (c_288x σ282 h283 ((Int32.ofInt 0)) z300 (geI (by decide : (Int32.ofInt 0).toInt = 0) (by omega)) (leI (by decide : (Int32.ofInt 0).toInt = 0) (by omega)) (geI rfl (by omega)) (leI rfl (by omega)) f ((h284 _ _ (inW tgz_159 (by decide +kernel))).trans h_f) z286 h287 z2 ((h284 _ _ (inW tgz_159 (by decide +kernel))).trans h1) z6 ((h284 _ _ (inW tgz_159 (by decide +kernel))).trans h5) h293) (by decide) (by decide) (fun v303 σ304 h302 => ?_)
      obtain ⟨h305, h306, z308, h309, z310, h311, z312, rfl, h307⟩ := h302
      have h313 := h307.2.2.2.2.2.2.2.2.2.2.2.2.2.2.2.2
      have h314 := Fr_trans h289 h306 (by decide +kernel)
      have h315 := KF_fr h290 h306 (by decide +kernel)
      have h316 : tN By Nb ((Int32.ofInt 0)).toInt z300.toInt S291 = tN By Nb (0) (Sp.2.2.2 2 - 1) S291 := tN_cg2 (fun zz => by have j1 := Imp_m h295 zz; omega) (fun zz => by have j1 := Imp_m h295 zz; omega)
      obtain ⟨S317, h318⟩ : ∃ q : PS, q = tN By Nb (0) (Sp.2.2.2 2 - 1) S291 := ⟨_, rfl⟩
      have h319 : ML By Nb σ304 S317 := by rw [h318]; exact (ML_eq h313.1 h316)
      have h320 := ML_k h319 h311
      have h321 : Imp (S317.1 = 0) (z312.toInt = tV By Nb S291.2.2.1) := fun z => h313.2 (by rw [h316, ← h318]; exact z)
      have h322 : Imp (S317.1 = 0) (S291.1 = 0 ∧ tK By Nb S291.2.2.1 = 2 ∧ 0 ≤ tV By Nb S291.2.2.1 ∧ tV By Nb S291.2.2.1 ≤ Sp.2.2.2 2 - 1) := fun z => tN_gg (by rw [← h318]; exact z)
      have h323 : S317.2.2.2 = S291.2.2.2 := by rw [h318]; exact tN_w
      have h324 := Imp_m h307.2.2.2.2.2.2.2.2.2.2.2.1 (by omega)
      have h325 := Imp_m h307.2.2.2.2.2.2.2.2.2.2.2.2.1 (by omega)
      have h326 := Imp_m h307.2.2.2.2.2.2.2.2.2.2.2.2.2.1 (by omega)
      refine En_Ps 2 (pc' := 54) (lv' := [(1, .int z312), (0, .ref 159)]) (st' := [.ref 159]) rfl ?_
      refine En_callV rfl rfl rfl rfl rfl rfl rfl rfl tgz_159 (by decide +kernel) rfl (c_234x σ304 h305 z308 h309 z310 h311 h319) (by decide) (by decide) (fun v328 σ329 h327 => ?_)
      obtain ⟨h330, h331, z333, h334, z335, h336, z337, rfl, h332⟩ := h327
      have h338 := h332.2.2.2.2.2.2.2.2.2.2.2.2
      have h339 := Fr_trans h314 h331 (by decide +kernel)
      have h340 := KF_fr h315 h331 (by decide +kernel)
      have h341 : tN By Nb 0 (pI (S317.2.2.2 0) - 1) S317 = tN By Nb 0 (pI (Sp.2.2.2 0) - 1) S317 := tN_cg rfl (by first | rfl | simp only [h297, h323] | rfl)
      obtain ⟨S342, h343⟩ : ∃ q : PS, q = tN By Nb 0 (pI (Sp.2.2.2 0) - 1) S317 := ⟨_, rfl⟩
      have h344 : ML By Nb σ329 S342 := by rw [h343]; exact (ML_eq h338.1 h341)
      have h345 := ML_k h344 h336
      have h346 : Imp (S342.1 = 0) (z337.toInt = tV By Nb S317.2.2.1) := fun z => h338.2 (by rw [h341, ← h343]; exact z)
      have h347 : Imp (S342.1 = 0) (S317.1 = 0 ∧ tK By Nb S317.2.2.1 = 2 ∧ 0 ≤ tV By Nb S317.2.2.1 ∧ tV By Nb S317.2.2.1 ≤ pI (Sp.2.2.2 0) - 1) := fun z => tN_gg (by rw [← h343]; exact z)
      have h348 : S342.2.2.2 = S317.2.2.2 := by rw [h343]; exact tN_w
      refine En_Ps 2 (pc' := 59) (lv' := [(2, .int z337), (1, .int z312), (0, .ref 159)]) (st' := [.ref 159]) rfl ?_
      refine En_callV rfl rfl rfl rfl rfl rfl rfl rfl tgz_159 (by decide +kernel) rfl (c_209x σ329 h330 z333 h334 z335 h336 h344) (by decide) (by decide) (fun v350 σ351 h349 => ?_)
      obtain ⟨h352, h353, z355, h356, z357, h358, z359, rfl, h354⟩ := h349
      have h360 := h354.2.2.2.2.2.2.2.2.2.2
      have h361 := Fr_trans h339 h353 (by decide +kernel)
      have h362 := KF_fr h340 h353 (by decide +kernel)
      obtain ⟨S363, h364⟩ : ∃ q : PS, q = gDeed By Nb S342 := ⟨_, rfl⟩
      have h365 : ML By Nb σ351 S363 := by rw [h364]; exact h360.1
      have h366 := ML_k h365 h358
      have h367 : z359.toInt = iW By Nb 8 S342 := h360.2
      have h368 : S363.2.2.2 = S342.2.2.2 := by rw [h364]; exact gDeed_w
      have h369 : Imp (S363.1 = 0) (S342.1 = 0) := fun z => gDeed_g (by rw [← h364]; exact z)
      refine En_Ps 2 (pc' := 64) (lv' := [(3, .int z359), (2, .int z337), (1, .int z312), (0, .ref 159)]) (st' := [.ref 159]) rfl ?_
      refine En_callV rfl rfl rfl rfl rfl rfl rfl rfl tgz_159 (by decide +kernel) rfl (c_237 σ351 h352 z357 h358) (by decide) (by decide) (fun v371 σ372 h370 => ?_)
      obtain ⟨h373, h374, z376, rfl, h375⟩ := h370
      obtain rfl : σ351 = σ372 := Fr_nil h374
      refine En_iNe _ rfl rfl (fun hx => by exfalso; have := Imp_m h307.2.2.2.2.2.2.2.2.2.2.2.2.2.2.1 (by omega); have := Imp_m h307.2.2.2.2.2.2.2.2.2.2.2.2.2.2.2.1 (by omega); have := Imp_m h332.2.2.2.2.2.2.2.2.2.2.2.1 (by omega); have := Imp_m h354.2.2.2.2.2.2.2.2.2.1 (by omega); omega) (fun h377 => ?_)
      exact En_ret (v := none) rfl rfl rfl ⟨h352, h361, z355, h356, z357, h358, rfl, ⟨by omega, by omega, by omega, by omega, by omega, by omega, by omega, fun _ => by omega, ⟨h362, ML_eq h365 (by unfold gLesson; dsimp only; rw [h298, ← h318, ← h343, ← h364]; first | done | rfl | (rw [if_pos (by omega)]; first | done | rfl) | (rw [if_neg (by omega)]; first | done | rfl))⟩⟩⟩

