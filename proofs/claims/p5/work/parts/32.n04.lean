/-- DoorSchool$Reader.readExam(LDoorSchool$Plan;)V -/
abbrev P_64x (σ0 : SG) (By : Int → Int) (Nb : Int) (Sp : PS) (a : Nat) (f : Int32) (sg : Int32) : PO := fun v σ => WT σ ∧ Fr [(3, 1), (3, 2), (3, 3), (3, 4), (3, 5), (3, 6), (20, 2), (21, 0), (22, 0)] σ0 σ ∧ ∃ f1 : Int32, (σ 3)[5]? = some (.int f1) ∧ v = none ∧ -f1.toInt ≤ 0 ∧ f1.toInt - 3 ≤ 0 ∧ -f1.toInt + f.toInt ≤ 0 ∧ f1.toInt - f.toInt - 3 ≤ 0 ∧ -f1.toInt + sg.toInt - 4 ≤ 0 ∧ f1.toInt - sg.toInt - 3 ≤ 0 ∧ f.toInt - f1.toInt ≤ 0 ∧ (CT By Nb σ (fExam By Nb Sp) ∧ ((fExam By Nb Sp).1 = 0 → KN σ a (fExam By Nb Sp).2.2.2 (act (fExam By Nb Sp).2.2.2)))
set_option maxRecDepth 10000 in
set_option maxHeartbeats 4000000 in
theorem c_64x {By : Int → Int} {Nb : Int} {Sp : PS} (σ0 : SG) (hσ0 : WT σ0) (a : Nat) (ha : TG a = 18) (f : Int32) (h_f : (σ0 3)[5]? = some (.int f)) (sg : Int32) (h_sg : (σ0 a)[1]? = some (.int sg)) (hp0 : -sg.toInt ≤ 0) (hC : CT By Nb σ0 Sp) (hg : Sp.1 = 0) (hP : PLA a) (hX : FXP σ0 a) (hK : KN σ0 a Sp.2.2.2 (act Sp.2.2.2)) : En 6 136 none mr_64 (P_64x σ0 By Nb Sp a f sg) 0 [(0, .ref 3), (1, .ref a)] [] σ0 := by
  obtain ⟨hl_f, hu_f⟩ := WT_int hσ0 (g := 3) (by decide +kernel) (by decide +kernel) (l := 0) (u := 3) (by decide +kernel) h_f
  obtain ⟨hl_sg, hu_sg⟩ := WT_int hσ0 (g := 18) ha (by decide +kernel) (l := (-1)) (u := 4) (by decide +kernel) h_sg
  have hF0 : Fr [(3, 1), (3, 2), (3, 3), (3, 4), (3, 5), (3, 6), (20, 2), (21, 0), (22, 0)] σ0 σ0 := Fr_rfl
  have h1 := CT_k hC h_f
  refine En_Ps 1 (pc' := 1) (lv' := [(0, .ref 3), (1, .ref a)]) (st' := [.ref a]) rfl ?_
  refine En_getR (j := 5) (g' := 20) (u := 0) rfl rfl rfl ha (by decide +kernel) hσ0 (by decide +kernel) (fun a3 h2 ha3 => ?_)
  refine En_getI (j := 2) (l := 0) (u := 13) rfl rfl rfl ha3 (by decide +kernel) hσ0 (by decide +kernel) (fun z5 h4 h6 h7 => ?_)
  have h8 : a3 = a + 2 := ref_uniq h2 hX.2.1
  have h9 : Sp.2.2.2 3 = z5.toInt := KN_v hK (Or.inl (by decide)) (by decide) (by decide) (by rw [lcO_3]; exact h8) (by decide) h4
  refine En_Ps 1 (pc' := 9) (lv' := [(0, .ref 3), (1, .ref a)]) (st' := [.int (((Int8.ofInt 12).toInt32)), .int z5]) rfl ?_
  refine En_icLt _ rfl (by decide : ((Int8.ofInt 12).toInt32).toInt = 12) rfl (fun h10 => ?_) (fun h10 => ?_)
  · refine En_Ps 1 (pc' := 19) (lv' := [(0, .ref 3), (1, .ref a)]) (st' := [.ref 3]) rfl ?_
    obtain ⟨z12, h11, h13, h14⟩ := WT_peekI hσ0 (by decide +kernel : TG 3 = 3) (by decide +kernel : FT 3 3 = (0, 0, 1600)) (by decide +kernel)
    refine En_callV rfl rfl rfl rfl rfl rfl rfl rfl (by decide +kernel : TG 3 = 3) (by decide +kernel) rfl (c_72x σ0 hσ0 z12 h11 hC.1 (CT_at hC (by omega) h11)) (by decide) (by decide) (fun v16 σ17 h15 => ?_)
    obtain ⟨h18, h19, rfl, h20⟩ := h15
    have h21 := h20
    have h22 := Fr_trans hF0 h19 (by decide +kernel)
    obtain ⟨S23, h24⟩ : ∃ q : PS, q = adv By Nb Sp := ⟨_, rfl⟩
    have h25 : CT By Nb σ17 S23 := by rw [h24]; exact (CT_adv hC (by omega) h11 h19 (by decide +kernel) h21.2)
    have h26 := CT_k h25 ((h19 _ _ (inW (by decide +kernel : TG 3 = 3) (by decide +kernel))).trans h_f)
    have h27 : S23.2.2.2 = Sp.2.2.2 := by rw [h24]; exact adv_w
    have h28 : S23.1 = Sp.1 := by rw [h24]; exact adv_1
    have h29 := KN_fr hP hK h19 (by decide +kernel)
    have h30 : S23.2.2.2 = Sp.2.2.2 := h27.trans (rfl : Sp.2.2.2 = Sp.2.2.2)
    refine En_Ps 3 (pc' := 25) (lv' := [(0, .ref 3), (1, .ref a)]) (st' := [.ref a, .ref a, .ref 3]) rfl ?_
    refine En_getK (j := 5) ((h19 _ _ (inW ha (by decide +kernel))).trans h2) rfl rfl rfl ha (by decide +kernel) ?_
    refine En_callV rfl rfl rfl rfl rfl rfl rfl rfl (by decide +kernel : TG 3 = 3) (by decide +kernel) rfl (c_69x σ17 h18 a ha a3 ha3 f ((h19 _ _ (inW (by decide +kernel : TG 3 = 3) (by decide +kernel))).trans h_f) sg ((h19 _ _ (inW ha (by decide +kernel))).trans h_sg) (by omega) h25 (by omega) hP (FXP_fr hP hX h22 (by decide +kernel)) (by rw [h30]; exact h29) (show LSN σ17 a a3 S23.2.2.2 (122 + 2 * Sp.2.2.2 3) 3 from by rw [h30]; exact LSN_e (FXP_fr hP hX h22 (by decide +kernel)) h8 rfl (by omega) (by omega))) (by decide) (by decide) (fun v32 σ33 h31 => ?_)
    obtain ⟨h34, h35, z37, h38, rfl, h36⟩ := h31
    have h39 := h36.2.2.2.2.2.2.2
    have h40 := Fr_trans h22 h35 (by decide +kernel)
    obtain ⟨S41, h42⟩ : ∃ q : PS, q = fSaid By Nb (122 + 2 * Sp.2.2.2 3) (3) S23 := ⟨_, rfl⟩
    have h43 : CT By Nb σ33 S41 := by rw [h42]; exact h39.1
    have h44 := CT_k h43 h38
    have h45 : fExam By Nb Sp = S41 := by unfold fExam; (try dsimp only); first | (rw [← h24, ← h42]; first | done | rfl) | (rw [← h24, ← h42]; rw [if_pos (by omega)]; first | done | rfl) | (rw [← h24, ← h42]; rw [if_neg (by omega)]; first | done | rfl) | (rw [← h24, ← h42]; rw [if_neg (by omega), if_pos (by omega)]; first | done | rfl) | (rw [← h24, ← h42]; rw [if_neg (by omega), if_neg (by omega)]; first | done | rfl) | (rw [← h24, ← h42]; rw [if_neg (by omega), if_neg (by omega), if_neg (by omega)]; first | done | rfl)
    exact En_ret (v := none) rfl rfl rfl ⟨h34, h40, z37, h38, rfl, ⟨by omega, by omega, by omega, by omega, by omega, by omega, by omega, (by rw [h45]; exact ⟨h43, fun zz => by exact (by rw [h42] at zz ⊢; exact KN_exm zz (h39.2 zz) rfl (by rw [h30]) (by omega))⟩)⟩⟩
  · refine En_Ps 2 (pc' := 14) (lv' := [(0, .ref 3), (1, .ref a)]) (st' := [.int ((Int32.ofInt 3)), .ref 3]) rfl ?_
    have := (by decide : ((Int32.ofInt 3)).toInt = 3)
    refine En_callV rfl rfl rfl rfl rfl rfl rfl rfl (by decide +kernel : TG 3 = 3) (by decide +kernel) rfl (c_54x σ0 hσ0 ((Int32.ofInt 3)) (geI (by decide : (Int32.ofInt 3).toInt = 3) (by omega)) (leI (by decide : (Int32.ofInt 3).toInt = 3) (by omega)) f h_f hC) (by decide) (by decide) (fun v47 σ48 h46 => ?_)
    obtain ⟨h49, h50, z52, h53, rfl, h51⟩ := h46
    have h54 := h51.2.2.2.2.2.2
    have h55 := Fr_trans hF0 h50 (by decide +kernel)
    obtain ⟨S56, h57⟩ : ∃ q : PS, q = err By Nb 3 Sp := ⟨_, rfl⟩
    have h58 : CT By Nb σ48 S56 := by rw [h57]; exact (CT_eq h54 (err_cg (by omega)))
    have h59 := CT_k h58 h53
    have h60 : S56.2.2.2 = Sp.2.2.2 := by rw [h57]; exact err_w
    have h61 := KN_fr hP hK h50 (by decide +kernel)
    have h62 : S56.2.2.2 = Sp.2.2.2 := h60.trans (rfl : Sp.2.2.2 = Sp.2.2.2)
    have h63 : fExam By Nb Sp = S56 := by unfold fExam; (try dsimp only); first | (rw [← h57]; first | done | rfl) | (rw [← h57]; rw [if_pos (by omega)]; first | done | rfl) | (rw [← h57]; rw [if_neg (by omega)]; first | done | rfl) | (rw [← h57]; rw [if_neg (by omega), if_pos (by omega)]; first | done | rfl) | (rw [← h57]; rw [if_neg (by omega), if_neg (by omega)]; first | done | rfl) | (rw [← h57]; rw [if_neg (by omega), if_neg (by omega), if_neg (by omega)]; first | done | rfl)
    exact En_ret (v := none) rfl rfl rfl ⟨h49, h55, z52, h53, rfl, ⟨by omega, by omega, by omega, by omega, by omega, by omega, by omega, (by rw [h63]; exact ⟨h58, fun z => absurd z (by omega)⟩)⟩⟩
/-- DoorSchool$Reader.readTwin(LDoorSchool$Plan;)V -/
abbrev P_70x (σ0 : SG) (By : Int → Int) (Nb : Int) (Sp : PS) (a : Nat) (f : Int32) (sg : Int32) : PO := fun v σ => WT σ ∧ Fr [(3, 1), (3, 2), (3, 3), (3, 4), (3, 5), (3, 6), (28, 3)] σ0 σ ∧ ∃ f1 : Int32, (σ 3)[5]? = some (.int f1) ∧ v = none ∧ -f1.toInt ≤ 0 ∧ f1.toInt - 3 ≤ 0 ∧ -f1.toInt + f.toInt ≤ 0 ∧ f1.toInt - f.toInt - 3 ≤ 0 ∧ -f1.toInt + sg.toInt - 4 ≤ 0 ∧ f1.toInt - sg.toInt - 3 ≤ 0 ∧ f.toInt - f1.toInt ≤ 0 ∧ (CT By Nb σ (fTwin By Nb Sp) ∧ ((fTwin By Nb Sp).1 = 0 → KN σ a (fTwin By Nb Sp).2.2.2 (act (fTwin By Nb Sp).2.2.2)))
set_option maxRecDepth 10000 in
set_option maxHeartbeats 4000000 in
theorem c_70x {By : Int → Int} {Nb : Int} {Sp : PS} (σ0 : SG) (hσ0 : WT σ0) (a : Nat) (ha : TG a = 18) (f : Int32) (h_f : (σ0 3)[5]? = some (.int f)) (sg : Int32) (h_sg : (σ0 a)[1]? = some (.int sg)) (hp0 : -sg.toInt ≤ 0) (hC : CT By Nb σ0 Sp) (hg : Sp.1 = 0) (hP : PLA a) (hX : FXP σ0 a) (hK : KN σ0 a Sp.2.2.2 (act Sp.2.2.2)) : En 2 43 none mr_70 (P_70x σ0 By Nb Sp a f sg) 0 [(0, .ref 3), (1, .ref a)] [] σ0 := by
  obtain ⟨hl_f, hu_f⟩ := WT_int hσ0 (g := 3) (by decide +kernel) (by decide +kernel) (l := 0) (u := 3) (by decide +kernel) h_f
  obtain ⟨hl_sg, hu_sg⟩ := WT_int hσ0 (g := 18) ha (by decide +kernel) (l := (-1)) (u := 4) (by decide +kernel) h_sg
  have hF0 : Fr [(3, 1), (3, 2), (3, 3), (3, 4), (3, 5), (3, 6), (28, 3)] σ0 σ0 := Fr_rfl
  have h1 := CT_k hC h_f
  obtain ⟨z3, h2, h4, h5⟩ := WT_peekI hσ0 ha (by decide +kernel : FT 18 3 = (0, 0, 4)) (by decide +kernel)
  have h6 : Sp.2.2.2 2 = z3.toInt := KN_v hK (Or.inl (by decide)) (by decide) (by decide) (by rw [lcO_lt (by decide) (by decide), Nat.add_zero]) rfl h2
  refine En_Ps 1 (pc' := 1) (lv' := [(0, .ref 3), (1, .ref a)]) (st' := [.ref 3]) rfl ?_
  obtain ⟨z8, h7, h9, h10⟩ := WT_peekI hσ0 (by decide +kernel : TG 3 = 3) (by decide +kernel : FT 3 3 = (0, 0, 1600)) (by decide +kernel)
  refine En_callV rfl rfl rfl rfl rfl rfl rfl rfl (by decide +kernel : TG 3 = 3) (by decide +kernel) rfl (c_72x σ0 hσ0 z8 h7 hC.1 (CT_at hC (by omega) h7)) (by decide) (by decide) (fun v12 σ13 h11 => ?_)
  obtain ⟨h14, h15, rfl, h16⟩ := h11
  have h17 := h16
  have h18 := Fr_trans hF0 h15 (by decide +kernel)
  obtain ⟨S19, h20⟩ : ∃ q : PS, q = adv By Nb Sp := ⟨_, rfl⟩
  have h21 : CT By Nb σ13 S19 := by rw [h20]; exact (CT_adv hC (by omega) h7 h15 (by decide +kernel) h17.2)
  have h22 := CT_k h21 ((h15 _ _ (inW (by decide +kernel : TG 3 = 3) (by decide +kernel))).trans h_f)
  have h23 : S19.2.2.2 = Sp.2.2.2 := by rw [h20]; exact adv_w
  have h24 : S19.1 = Sp.1 := by rw [h20]; exact adv_1
  have h25 := KN_fr hP hK h15 (by decide +kernel)
  have h26 : S19.2.2.2 = Sp.2.2.2 := h23.trans (rfl : Sp.2.2.2 = Sp.2.2.2)
  have h27 : S19.2.2.2 2 = Sp.2.2.2 2 := by rw [h26]
  refine En_Ps 3 (pc' := 7) (lv' := [(0, .ref 3), (1, .ref a)]) (st' := [.ref a, .int ((Int32.ofInt 0)), .ref 3]) rfl ?_
  refine En_getK (j := 3) ((h15 _ _ (inW ha (by decide +kernel))).trans h2) rfl rfl rfl ha (by decide +kernel) ?_
  refine En_Ps 2 (pc' := 12) (lv' := [(0, .ref 3), (1, .ref a)]) (st' := [.int ((z3 - ((Int32.ofInt 1)))), .int ((Int32.ofInt 0)), .ref 3]) rfl ?_
  refine En_top (subI rfl (by decide : (Int32.ofInt 1).toInt = 1) (by omega) (by omega)) (fun z28 h29 => ?_)
  have := (by decide : ((Int32.ofInt 0)).toInt = 0)
  refine En_callV rfl rfl rfl rfl rfl rfl rfl rfl (by decide +kernel : TG 3 = 3) (by decide +kernel) rfl (c_58x σ13 h14 ((Int32.ofInt 0)) z28 f ((h15 _ _ (inW (by decide +kernel : TG 3 = 3) (by decide +kernel))).trans h_f) h21) (by decide) (by decide) (fun v31 σ32 h30 => ?_)
  obtain ⟨h33, h34, z36, h37, z38, rfl, h35⟩ := h30
  have h39 := h35.2.2.2.2.2.2.2.2.2.2
  have h40 := Fr_trans h18 h34 (by decide +kernel)
  have h41 : nH By Nb ((Int32.ofInt 0)).toInt z28.toInt S19 = nH By Nb (0) (S19.2.2.2 2 - 1) S19 := nH_cg2 (fun zz => by omega) (fun zz => by omega)
  obtain ⟨S42, h43⟩ : ∃ q : PS, q = nH By Nb (0) (S19.2.2.2 2 - 1) S19 := ⟨_, rfl⟩
  have h44 : CT By Nb σ32 S42 := by rw [h43]; exact (CT_eq h39.1 h41)
  have h45 := CT_k h44 h37
  have h46 : Imp (S42.1 = 0) (z38.toInt = tV By Nb S19.2.2.1) := fun z => Imp_m h39.2 (by rw [h41, ← h43]; exact z)
  have h47 : Imp (S42.1 = 0) (S19.1 = 0 ∧ tK By Nb S19.2.2.1 = 2 ∧ 0 ≤ tV By Nb S19.2.2.1 ∧ tV By Nb S19.2.2.1 ≤ S19.2.2.2 2 - 1) := fun z => nH_gg (by rw [← h43]; exact z)
  have h48 : S42.2.2.2 = S19.2.2.2 := by rw [h43]; exact nH_w
  have h49 := KN_fr hP h25 h34 (by decide +kernel)
  have h50 : S42.2.2.2 = Sp.2.2.2 := h48.trans h26
  have h51 := Imp_m h35.2.2.2.2.2.2.2.2.1 (by omega)
  have h52 := Imp_m h35.2.2.2.2.2.2.2.2.2.1 (by omega)
  refine En_Ps 2 (pc' := 17) (lv' := [(2, .int z38), (0, .ref 3), (1, .ref a)]) (st' := [.ref 3]) rfl ?_
  refine En_getK (j := 5) h37 rfl rfl rfl (by decide +kernel : TG 3 = 3) (by decide +kernel) ?_
  refine En_iNe _ rfl rfl (fun h53 => ?_) (fun h53 => ?_)
  · have h54 := Imp_m h35.2.2.2.2.2.2.2.1 (by omega)
    have h55 : tw1 By Nb S19 = S42 := by rw [h43]; exact tw1_n (d := z38.toInt) (fun zz => by rw [← h43] at zz; rw [h26]; exact ⟨by omega, by omega, by omega⟩)
    refine En_Ps 1 (pc' := 50) (lv' := [(2, .int z38), (0, .ref 3), (1, .ref a)]) (st' := [.ref 3]) rfl ?_
    refine En_getK (j := 5) h37 rfl rfl rfl (by decide +kernel : TG 3 = 3) (by decide +kernel) ?_
    refine En_iEq _ rfl rfl (fun hx => by exfalso; have := Imp_m h35.2.2.2.2.2.2.1 (by omega); omega) (fun h56 => ?_)
    have h57 : fTwin By Nb Sp = S42 := by unfold fTwin; (try dsimp only); first | (rw [← h20, h55]; first | done | rfl) | (rw [← h20, h55]; rw [if_pos (by omega)]; first | done | rfl) | (rw [← h20, h55]; rw [if_neg (by omega)]; first | done | rfl) | (rw [← h20, h55]; rw [if_neg (by omega), if_pos (by omega)]; first | done | rfl) | (rw [← h20, h55]; rw [if_neg (by omega), if_neg (by omega)]; first | done | rfl) | (rw [← h20, h55]; rw [if_neg (by omega), if_neg (by omega), if_neg (by omega)]; first | done | rfl)
    exact En_ret (v := none) rfl rfl rfl ⟨h33, h40, z36, h37, rfl, ⟨by omega, by omega, by omega, by omega, by omega, by omega, by omega, (by rw [h57]; exact ⟨h44, fun z => absurd z (by omega)⟩)⟩⟩
  · have h58 := Imp_m h35.2.2.2.2.2.2.1 (by omega)
    try have h59 := Imp_m h47 (by omega)
    try have h60 := Imp_m h46 (by omega)
    refine En_Ps 1 (pc' := 24) (lv' := [(2, .int z38), (0, .ref 3), (1, .ref a)]) (st' := [.ref a]) rfl ?_
    refine En_getR (j := 4) (g' := 19) (u := 0) rfl rfl rfl ha (by decide +kernel) h33 (by decide +kernel) (fun a62 h61 ha62 => ?_)
    refine En_Ps 1 (pc' := 28) (lv' := [(2, .int z38), (0, .ref 3), (1, .ref a)]) (st' := [.int z38, .ref a62]) rfl ?_
    refine En_aald (g' := 28) (u := 0) rfl rfl ha62 (by decide +kernel) h33 (by omega) (lnI (by decide +kernel : LN _ = 4) (by omega)) (FTsgl (by decide +kernel)) (fun a64 h63 ha64 => ?_)
    have h65 := DRc (d := z38.toInt) (FXP_fr hP hX h40 (by decide +kernel)) h61 h63 (by omega) (by omega)
    have h66 := lc_d (d := z38.toInt) (by omega) (by omega)
    refine En_getI (j := 3) (l := (-1)) (u := 3) rfl rfl rfl ha64 (by decide +kernel) h33 (by decide +kernel) (fun z68 h67 h69 h70 => ?_)
    have h71 : Sp.2.2.2 (13 + 4 * z38.toInt) = z68.toInt := KN_v h49 (Or.inr (Or.inl ⟨by omega, by omega, by omega⟩)) (by omega) (by omega) (by omega) (by omega) h67
    refine En_Ps 1 (pc' := 33) (lv' := [(2, .int z38), (0, .ref 3), (1, .ref a)]) (st' := [.int ((Int32.ofInt (-1))), .int z68]) rfl ?_
    refine En_icNe _ rfl (by decide : (Int32.ofInt (-1)).toInt = -1) rfl (fun h72 => ?_) (fun h72 => ?_)
    · refine En_Ps 2 (pc' := 46) (lv' := [(2, .int z38), (0, .ref 3), (1, .ref a)]) (st' := [.int ((Int32.ofInt 2)), .ref 3]) rfl ?_
      have := (by decide : ((Int32.ofInt 2)).toInt = 2)
      refine En_callV rfl rfl rfl rfl rfl rfl rfl rfl (by decide +kernel : TG 3 = 3) (by decide +kernel) rfl (c_54x σ32 h33 ((Int32.ofInt 2)) (geI (by decide : (Int32.ofInt 2).toInt = 2) (by omega)) (leI (by decide : (Int32.ofInt 2).toInt = 2) (by omega)) z36 h37 h44) (by decide) (by decide) (fun v74 σ75 h73 => ?_)
      obtain ⟨h76, h77, z79, h80, rfl, h78⟩ := h73
      have h81 := h78.2.2.2.2.2.2
      have h82 := Fr_trans h40 h77 (by decide +kernel)
      obtain ⟨S83, h84⟩ : ∃ q : PS, q = err By Nb 2 S42 := ⟨_, rfl⟩
      have h85 : CT By Nb σ75 S83 := by rw [h84]; exact (CT_eq h81 (err_cg (by omega)))
      have h86 := CT_k h85 h80
      have h87 : S83.2.2.2 = S42.2.2.2 := by rw [h84]; exact err_w
      have h88 := KN_fr hP h49 h77 (by decide +kernel)
      have h89 : S83.2.2.2 = Sp.2.2.2 := h87.trans h50
      have h90 := Imp_m h78.2.2.2.2.1 (by omega)
      have h91 : tw1 By Nb S19 = S83 := by rw [h84, h43]; exact tw1_p (d := z38.toInt) (by rw [← h43]; omega) (by omega) (by rw [h26]; omega)
      refine En_Ps 1 (pc' := 50) (lv' := [(2, .int z38), (0, .ref 3), (1, .ref a)]) (st' := [.ref 3]) rfl ?_
      refine En_getK (j := 5) h80 rfl rfl rfl (by decide +kernel : TG 3 = 3) (by decide +kernel) ?_
      refine En_iEq _ rfl rfl (fun hx => by exfalso; have := Imp_m h35.2.2.2.2.2.2.2.1 (by omega); have := Imp_m h78.2.2.2.2.2.1 (by omega); omega) (fun h92 => ?_)
      have h93 : fTwin By Nb Sp = S83 := by unfold fTwin; (try dsimp only); first | (rw [← h20, h91]; first | done | rfl) | (rw [← h20, h91]; rw [if_pos (by omega)]; first | done | rfl) | (rw [← h20, h91]; rw [if_neg (by omega)]; first | done | rfl) | (rw [← h20, h91]; rw [if_neg (by omega), if_pos (by omega)]; first | done | rfl) | (rw [← h20, h91]; rw [if_neg (by omega), if_neg (by omega)]; first | done | rfl) | (rw [← h20, h91]; rw [if_neg (by omega), if_neg (by omega), if_neg (by omega)]; first | done | rfl)
      exact En_ret (v := none) rfl rfl rfl ⟨h76, h82, z79, h80, rfl, ⟨by omega, by omega, by omega, by omega, by omega, by omega, by omega, (by rw [h93]; exact ⟨h85, fun z => absurd z (by omega)⟩)⟩⟩
    · refine En_Ps 2 (pc' := 38) (lv' := [(2, .int z38), (0, .ref 3), (1, .ref a)]) (st' := [.int z38, .ref a]) rfl ?_
      refine En_callV rfl rfl rfl rfl rfl rfl rfl rfl ha (by decide +kernel) rfl (c_45x σ32 h33 a ha z38 hP (FXP_fr hP hX h40 (by decide +kernel)) h49) (by decide) (by decide) (fun v95 σ96 h94 => ?_)
      obtain ⟨h97, h98, z100, rfl, h99⟩ := h94
      have h101 := h99.2.2.2
      obtain rfl : σ32 = σ96 := Fr_nil h98
      have h102 := h101
      refine En_iEq _ rfl rfl (fun h103 => ?_) (fun h103 => ?_)
      · have h104 : tw1 By Nb S19 = S42 := by rw [h43]; exact tw1_n (d := z38.toInt) (fun zz => by rw [← h43] at zz; rw [h26]; exact ⟨by omega, by omega, by omega⟩)
        refine En_Ps 1 (pc' := 50) (lv' := [(2, .int z38), (0, .ref 3), (1, .ref a)]) (st' := [.ref 3]) rfl ?_
        refine En_getK (j := 5) h37 rfl rfl rfl (by decide +kernel : TG 3 = 3) (by decide +kernel) ?_
        refine En_iEq _ rfl rfl (fun h105 => ?_) (fun hx => by exfalso; have := Imp_m h35.2.2.2.2.2.2.2.1 (by omega); omega)
        refine En_Ps 1 (pc' := 58) (lv' := [(2, .int z38), (0, .ref 3), (1, .ref a)]) (st' := [.ref 3]) rfl ?_
        obtain ⟨z107, h106, h108, h109⟩ := WT_peekI h33 (by decide +kernel : TG 3 = 3) (by decide +kernel : FT 3 3 = (0, 0, 1600)) (by decide +kernel)
        refine En_callV rfl rfl rfl rfl rfl rfl rfl rfl (by decide +kernel : TG 3 = 3) (by decide +kernel) rfl (c_72x σ32 h33 z107 h106 h44.1 (CT_at h44 (by omega) h106)) (by decide) (by decide) (fun v111 σ112 h110 => ?_)
        obtain ⟨h113, h114, rfl, h115⟩ := h110
        have h116 := h115
        have h117 := Fr_trans h40 h114 (by decide +kernel)
        obtain ⟨S118, h119⟩ : ∃ q : PS, q = adv By Nb S42 := ⟨_, rfl⟩
        have h120 : CT By Nb σ112 S118 := by rw [h119]; exact (CT_adv h44 (by omega) h106 h114 (by decide +kernel) h116.2)
        have h121 := CT_k h120 ((h114 _ _ (inW (by decide +kernel : TG 3 = 3) (by decide +kernel))).trans h37)
        have h122 : S118.2.2.2 = S42.2.2.2 := by rw [h119]; exact adv_w
        have h123 : S118.1 = S42.1 := by rw [h119]; exact adv_1
        have h124 := KN_fr hP h49 h114 (by decide +kernel)
        have h125 : S118.2.2.2 = Sp.2.2.2 := h122.trans h50
        have h126 : S118.2.2.2 2 = Sp.2.2.2 2 := by rw [h125]
        refine En_Ps 3 (pc' := 64) (lv' := [(2, .int z38), (0, .ref 3), (1, .ref a)]) (st' := [.ref a, .int ((Int32.ofInt 0)), .ref 3]) rfl ?_
        refine En_getK (j := 3) ((h114 _ _ (inW ha (by decide +kernel))).trans ((h34 _ _ (inW ha (by decide +kernel))).trans ((h15 _ _ (inW ha (by decide +kernel))).trans h2))) rfl rfl rfl ha (by decide +kernel) ?_
        refine En_Ps 2 (pc' := 69) (lv' := [(2, .int z38), (0, .ref 3), (1, .ref a)]) (st' := [.int ((z3 - ((Int32.ofInt 1)))), .int ((Int32.ofInt 0)), .ref 3]) rfl ?_
        refine En_top (subI rfl (by decide : (Int32.ofInt 1).toInt = 1) (by omega) (by omega)) (fun z127 h128 => ?_)
        have := (by decide : ((Int32.ofInt 0)).toInt = 0)
        refine En_callV rfl rfl rfl rfl rfl rfl rfl rfl (by decide +kernel : TG 3 = 3) (by decide +kernel) rfl (c_58x σ112 h113 ((Int32.ofInt 0)) z127 z36 ((h114 _ _ (inW (by decide +kernel : TG 3 = 3) (by decide +kernel))).trans h37) h120) (by decide) (by decide) (fun v130 σ131 h129 => ?_)
        obtain ⟨h132, h133, z135, h136, z137, rfl, h134⟩ := h129
        have h138 := h134.2.2.2.2.2.2.2.2.2.2
        have h139 := Fr_trans h117 h133 (by decide +kernel)
        have h140 : nH By Nb ((Int32.ofInt 0)).toInt z127.toInt S118 = nH By Nb (0) (S118.2.2.2 2 - 1) S118 := nH_cg2 (fun zz => by (try have i0 := Imp_m h47 (by omega)); (try have i1 := Imp_m h46 (by omega)); (try have i2 := Imp_m h35.2.2.2.2.2.2.2.1 (by omega)); (try have i3 := Imp_m h99.2.2.1 (by omega)); omega) (fun zz => by (try have i0 := Imp_m h47 (by omega)); (try have i1 := Imp_m h46 (by omega)); (try have i2 := Imp_m h35.2.2.2.2.2.2.2.1 (by omega)); (try have i3 := Imp_m h99.2.2.1 (by omega)); omega)
        obtain ⟨S141, h142⟩ : ∃ q : PS, q = nH By Nb (0) (S118.2.2.2 2 - 1) S118 := ⟨_, rfl⟩
        have h143 : CT By Nb σ131 S141 := by rw [h142]; exact (CT_eq h138.1 h140)
        have h144 := CT_k h143 h136
        have h145 : Imp (S141.1 = 0) (z137.toInt = tV By Nb S118.2.2.1) := fun z => Imp_m h138.2 (by rw [h140, ← h142]; exact z)
        have h146 : Imp (S141.1 = 0) (S118.1 = 0 ∧ tK By Nb S118.2.2.1 = 2 ∧ 0 ≤ tV By Nb S118.2.2.1 ∧ tV By Nb S118.2.2.1 ≤ S118.2.2.2 2 - 1) := fun z => nH_gg (by rw [← h142]; exact z)
        have h147 : S141.2.2.2 = S118.2.2.2 := by rw [h142]; exact nH_w
        have h148 := KN_fr hP h124 h133 (by decide +kernel)
        have h149 : S141.2.2.2 = Sp.2.2.2 := h147.trans h125
        have h150 := Imp_m h134.2.2.2.2.2.2.2.2.1 (by omega)
        have h151 := Imp_m h134.2.2.2.2.2.2.2.2.2.1 (by omega)
        refine En_Ps 2 (pc' := 74) (lv' := [(3, .int z137), (2, .int z38), (0, .ref 3), (1, .ref a)]) (st' := [.ref 3]) rfl ?_
        refine En_getK (j := 5) h136 rfl rfl rfl (by decide +kernel : TG 3 = 3) (by decide +kernel) ?_
        refine En_iNe _ rfl rfl (fun h152 => ?_) (fun h152 => ?_)
        · have h153 := Imp_m h134.2.2.2.2.2.2.2.1 (by omega)
          have h154 : tw2 By Nb (tV By Nb S19.2.2.1) S118 = S141 := by rw [h142]; exact tw2_n (d := z137.toInt) (fun zz => by rw [← h142] at zz; rw [h125]; exact ⟨by omega, by omega, by omega⟩)
          refine En_Ps 1 (pc' := 104) (lv' := [(3, .int z137), (2, .int z38), (0, .ref 3), (1, .ref a)]) (st' := [.ref 3]) rfl ?_
          refine En_getK (j := 5) h136 rfl rfl rfl (by decide +kernel : TG 3 = 3) (by decide +kernel) ?_
          refine En_iNe _ rfl rfl (fun h155 => ?_) (fun hx => by exfalso; have := Imp_m h35.2.2.2.2.2.2.2.1 (by omega); have := Imp_m h134.2.2.2.2.2.2.1 (by omega); omega)
          have h156 : fTwin By Nb Sp = S141 := by unfold fTwin; (try dsimp only); first | (rw [← h20, h104, ← h119, h154]; first | done | rfl) | (rw [← h20, h104, ← h119, h154]; rw [if_pos (by omega)]; first | done | rfl) | (rw [← h20, h104, ← h119, h154]; rw [if_neg (by omega)]; first | done | rfl) | (rw [← h20, h104, ← h119, h154]; rw [if_neg (by omega), if_pos (by omega)]; first | done | rfl) | (rw [← h20, h104, ← h119, h154]; rw [if_neg (by omega), if_neg (by omega)]; first | done | rfl) | (rw [← h20, h104, ← h119, h154]; rw [if_neg (by omega), if_neg (by omega), if_neg (by omega)]; first | done | rfl)
          exact En_ret (v := none) rfl rfl rfl ⟨h132, h139, z135, h136, rfl, ⟨by omega, by omega, by omega, by omega, by omega, by omega, by omega, (by rw [h156]; exact ⟨h143, fun z => absurd z (by omega)⟩)⟩⟩
        · have h157 := Imp_m h134.2.2.2.2.2.2.1 (by omega)
          try have h158 := Imp_m h146 (by omega)
          try have h159 := Imp_m h145 (by omega)
          try have h160 := Imp_m h47 (by omega)
          try have h161 := Imp_m h46 (by omega)
          refine En_Ps 2 (pc' := 82) (lv' := [(3, .int z137), (2, .int z38), (0, .ref 3), (1, .ref a)]) (st' := [.int z38, .int z137]) rfl ?_
          refine En_icEq _ rfl rfl rfl (fun h162 => ?_) (fun h162 => ?_)
          · refine En_Ps 2 (pc' := 100) (lv' := [(3, .int z137), (2, .int z38), (0, .ref 3), (1, .ref a)]) (st' := [.int ((Int32.ofInt 2)), .ref 3]) rfl ?_
            have := (by decide : ((Int32.ofInt 2)).toInt = 2)
            refine En_callV rfl rfl rfl rfl rfl rfl rfl rfl (by decide +kernel : TG 3 = 3) (by decide +kernel) rfl (c_54x σ131 h132 ((Int32.ofInt 2)) (geI (by decide : (Int32.ofInt 2).toInt = 2) (by omega)) (leI (by decide : (Int32.ofInt 2).toInt = 2) (by omega)) z135 h136 h143) (by decide) (by decide) (fun v164 σ165 h163 => ?_)
            obtain ⟨h166, h167, z169, h170, rfl, h168⟩ := h163
            have h171 := h168.2.2.2.2.2.2
            have h172 := Fr_trans h139 h167 (by decide +kernel)
            obtain ⟨S173, h174⟩ : ∃ q : PS, q = err By Nb 2 S141 := ⟨_, rfl⟩
            have h175 : CT By Nb σ165 S173 := by rw [h174]; exact (CT_eq h171 (err_cg (by omega)))
            have h176 := CT_k h175 h170
            have h177 : S173.2.2.2 = S141.2.2.2 := by rw [h174]; exact err_w
            have h178 := KN_fr hP h148 h167 (by decide +kernel)
            have h179 : S173.2.2.2 = Sp.2.2.2 := h177.trans h149
            have h180 := Imp_m h168.2.2.2.2.1 (by omega)
            have h181 : tw2 By Nb (tV By Nb S19.2.2.1) S118 = S173 := by rw [h174, h142]; exact tw2_p (d := z137.toInt) (by rw [← h142]; omega) (by omega) (by rw [h125]; omega)
            refine En_Ps 1 (pc' := 104) (lv' := [(3, .int z137), (2, .int z38), (0, .ref 3), (1, .ref a)]) (st' := [.ref 3]) rfl ?_
            refine En_getK (j := 5) h170 rfl rfl rfl (by decide +kernel : TG 3 = 3) (by decide +kernel) ?_
            refine En_iNe _ rfl rfl (fun h182 => ?_) (fun hx => by exfalso; have := Imp_m h35.2.2.2.2.2.2.2.1 (by omega); have := Imp_m h134.2.2.2.2.2.2.2.1 (by omega); have := Imp_m h168.2.2.2.2.2.1 (by omega); omega)
            have h183 : fTwin By Nb Sp = S173 := by unfold fTwin; (try dsimp only); first | (rw [← h20, h104, ← h119, h181]; first | done | rfl) | (rw [← h20, h104, ← h119, h181]; rw [if_pos (by omega)]; first | done | rfl) | (rw [← h20, h104, ← h119, h181]; rw [if_neg (by omega)]; first | done | rfl) | (rw [← h20, h104, ← h119, h181]; rw [if_neg (by omega), if_pos (by omega)]; first | done | rfl) | (rw [← h20, h104, ← h119, h181]; rw [if_neg (by omega), if_neg (by omega)]; first | done | rfl) | (rw [← h20, h104, ← h119, h181]; rw [if_neg (by omega), if_neg (by omega), if_neg (by omega)]; first | done | rfl)
            exact En_ret (v := none) rfl rfl rfl ⟨h166, h172, z169, h170, rfl, ⟨by omega, by omega, by omega, by omega, by omega, by omega, by omega, (by rw [h183]; exact ⟨h175, fun z => absurd z (by omega)⟩)⟩⟩
          · refine En_Ps 1 (pc' := 86) (lv' := [(3, .int z137), (2, .int z38), (0, .ref 3), (1, .ref a)]) (st' := [.ref a]) rfl ?_
            refine En_getK (j := 4) ((h133 _ _ (inW ha (by decide +kernel))).trans ((h114 _ _ (inW ha (by decide +kernel))).trans h61)) rfl rfl rfl ha (by decide +kernel) ?_
            refine En_Ps 1 (pc' := 90) (lv' := [(3, .int z137), (2, .int z38), (0, .ref 3), (1, .ref a)]) (st' := [.int z137, .ref a62]) rfl ?_
            refine En_aald (g' := 28) (u := 0) rfl rfl ha62 (by decide +kernel) h132 (by omega) (lnI (by decide +kernel : LN _ = 4) (by omega)) (FTsgl (by decide +kernel)) (fun a185 h184 ha185 => ?_)
            have h186 := DRc (d := z137.toInt) (FXP_fr hP hX h139 (by decide +kernel)) ((h133 _ _ (inW ha (by decide +kernel))).trans ((h114 _ _ (inW ha (by decide +kernel))).trans h61)) h184 (by omega) (by omega)
            have h187 := lc_d (d := z137.toInt) (by omega) (by omega)
            refine En_getI (j := 3) (l := (-1)) (u := 3) rfl rfl rfl ha185 (by decide +kernel) h132 (by decide +kernel) (fun z189 h188 h190 h191 => ?_)
            have h192 : Sp.2.2.2 (13 + 4 * z137.toInt) = z189.toInt := KN_v h148 (Or.inr (Or.inl ⟨by omega, by omega, by omega⟩)) (by omega) (by omega) (by omega) (by omega) h188
            refine En_Ps 1 (pc' := 95) (lv' := [(3, .int z137), (2, .int z38), (0, .ref 3), (1, .ref a)]) (st' := [.int ((Int32.ofInt (-1))), .int z189]) rfl ?_
            refine En_icEq _ rfl (by decide : (Int32.ofInt (-1)).toInt = -1) rfl (fun h193 => ?_) (fun h193 => ?_)
            · have h194 : tw2 By Nb (tV By Nb S19.2.2.1) S118 = S141 := by rw [h142]; exact tw2_n (d := z137.toInt) (fun zz => by rw [← h142] at zz; rw [h125]; exact ⟨by omega, by omega, by omega⟩)
              refine En_Ps 1 (pc' := 104) (lv' := [(3, .int z137), (2, .int z38), (0, .ref 3), (1, .ref a)]) (st' := [.ref 3]) rfl ?_
              refine En_getK (j := 5) h136 rfl rfl rfl (by decide +kernel : TG 3 = 3) (by decide +kernel) ?_
              refine En_iNe _ rfl rfl (fun hx => by exfalso; have := Imp_m h35.2.2.2.2.2.2.2.1 (by omega); have := Imp_m h134.2.2.2.2.2.2.2.1 (by omega); omega) (fun h195 => ?_)
              try have h196 := Imp_m h146 (by omega)
              try have h197 := Imp_m h145 (by omega)
              try have h198 := Imp_m h47 (by omega)
              try have h199 := Imp_m h46 (by omega)
              refine En_Ps 1 (pc' := 111) (lv' := [(3, .int z137), (2, .int z38), (0, .ref 3), (1, .ref a)]) (st' := [.ref a]) rfl ?_
              refine En_getK (j := 4) ((h133 _ _ (inW ha (by decide +kernel))).trans ((h114 _ _ (inW ha (by decide +kernel))).trans h61)) rfl rfl rfl ha (by decide +kernel) ?_
              refine En_Ps 1 (pc' := 115) (lv' := [(3, .int z137), (2, .int z38), (0, .ref 3), (1, .ref a)]) (st' := [.int z38, .ref a62]) rfl ?_
              refine En_aald (g' := 28) (u := 0) rfl rfl ha62 (by decide +kernel) h132 (by omega) (lnI (by decide +kernel : LN _ = 4) (by omega)) (FTsgl (by decide +kernel)) (fun a201 h200 ha201 => ?_)
              have h202 := DRc (d := z38.toInt) (FXP_fr hP hX h139 (by decide +kernel)) ((h133 _ _ (inW ha (by decide +kernel))).trans ((h114 _ _ (inW ha (by decide +kernel))).trans h61)) h200 (by omega) (by omega)
              have h203 := lc_d (d := z38.toInt) (by omega) (by omega)
              have h204 := lc_d (d := (tV By Nb S19.2.2.1)) (by omega) (by omega)
              refine En_Ps 1 (pc' := 117) (lv' := [(3, .int z137), (2, .int z38), (0, .ref 3), (1, .ref a)]) (st' := [.int z137, .ref a201]) rfl ?_
              refine En_put (j := 3) rfl rfl rfl ha201 (by decide +kernel) rfl (vI (l := (-1)) (u := 3) (by decide +kernel) rfl (by omega) (by omega)) h132 h139 (by decide +kernel) (fun σ205 h206 h207 h208 h209 => ?_)
              obtain ⟨S210, h211⟩ : ∃ q : PS, q = wst S141 (13 + 4 * (tV By Nb S19.2.2.1)) ((tV By Nb S118.2.2.1)) := ⟨_, rfl⟩
              have h212 : CT By Nb σ205 S210 := by rw [h211]; exact CT_wst (CT_ne h143 h209 (by have := hP; unfold PLA at this; omega))
              have h213 : KN σ205 a (uPd Sp.2.2.2 (13 + 4 * (tV By Nb S19.2.2.1)) ((tV By Nb S118.2.2.1))) (fun t => (act Sp.2.2.2 t ∨ t = 13 + 4 * (tV By Nb S19.2.2.1))) := KN_st h148 h208 h209 (by omega) (by omega) (by omega) (by omega) (by omega)
              have h214 : S210.2.2.2 = (uPd Sp.2.2.2 (13 + 4 * (tV By Nb S19.2.2.1)) ((tV By Nb S118.2.2.1))) := by rw [h211]; show uPd S141.2.2.2 _ _ = _; rw [h149]
              have h215 : S210.1 = S141.1 := by rw [h211]; rfl
              have h216 := CT_k h212 ((h209 _ _ (Or.inr (by decide))).trans h136)
              refine En_Ps 1 (pc' := 121) (lv' := [(3, .int z137), (2, .int z38), (0, .ref 3), (1, .ref a)]) (st' := [.ref 3]) rfl ?_
              obtain ⟨z218, h217, h219, h220⟩ := WT_peekI h206 (by decide +kernel : TG 3 = 3) (by decide +kernel : FT 3 3 = (0, 0, 1600)) (by decide +kernel)
              refine En_callV rfl rfl rfl rfl rfl rfl rfl rfl (by decide +kernel : TG 3 = 3) (by decide +kernel) rfl (c_72x σ205 h206 z218 h217 h212.1 (CT_at h212 (by omega) h217)) (by decide) (by decide) (fun v222 σ223 h221 => ?_)
              obtain ⟨h224, h225, rfl, h226⟩ := h221
              have h227 := h226
              have h228 := Fr_trans h207 h225 (by decide +kernel)
              obtain ⟨S229, h230⟩ : ∃ q : PS, q = adv By Nb S210 := ⟨_, rfl⟩
              have h231 : CT By Nb σ223 S229 := by rw [h230]; exact (CT_adv h212 (by omega) h217 h225 (by decide +kernel) h227.2)
              have h232 := CT_k h231 ((h225 _ _ (inW (by decide +kernel : TG 3 = 3) (by decide +kernel))).trans ((h209 _ _ (Or.inr (by decide))).trans h136))
              have h233 : S229.2.2.2 = S210.2.2.2 := by rw [h230]; exact adv_w
              have h234 : S229.1 = S210.1 := by rw [h230]; exact adv_1
              have h235 := KN_fr hP h213 h225 (by decide +kernel)
              have h236 : S229.2.2.2 = (uPd Sp.2.2.2 (13 + 4 * (tV By Nb S19.2.2.1)) ((tV By Nb S118.2.2.1))) := h233.trans h214
              have h237 : fTwin By Nb Sp = S229 := by unfold fTwin; (try dsimp only); first | (rw [← h20, h104, ← h119, h194, ← h211, ← h230]; first | done | rfl) | (rw [← h20, h104, ← h119, h194, ← h211, ← h230]; rw [if_pos (by omega)]; first | done | rfl) | (rw [← h20, h104, ← h119, h194, ← h211, ← h230]; rw [if_neg (by omega)]; first | done | rfl) | (rw [← h20, h104, ← h119, h194, ← h211, ← h230]; rw [if_neg (by omega), if_pos (by omega)]; first | done | rfl) | (rw [← h20, h104, ← h119, h194, ← h211, ← h230]; rw [if_neg (by omega), if_neg (by omega)]; first | done | rfl) | (rw [← h20, h104, ← h119, h194, ← h211, ← h230]; rw [if_neg (by omega), if_neg (by omega), if_neg (by omega)]; first | done | rfl)
              exact En_ret (v := none) rfl rfl rfl ⟨h224, h228, z135, ((h225 _ _ (inW (by decide +kernel : TG 3 = 3) (by decide +kernel))).trans ((h209 _ _ (Or.inr (by decide))).trans h136)), rfl, ⟨by omega, by omega, by omega, by omega, by omega, by omega, by omega, (by rw [h237]; exact ⟨h231, fun zz => by rw [h236]; exact KN_sub h235 (fun t t0 t1 y => Or.inl (act_in (by omega) (by omega) y))⟩)⟩⟩
            · refine En_Ps 2 (pc' := 100) (lv' := [(3, .int z137), (2, .int z38), (0, .ref 3), (1, .ref a)]) (st' := [.int ((Int32.ofInt 2)), .ref 3]) rfl ?_
              have := (by decide : ((Int32.ofInt 2)).toInt = 2)
              refine En_callV rfl rfl rfl rfl rfl rfl rfl rfl (by decide +kernel : TG 3 = 3) (by decide +kernel) rfl (c_54x σ131 h132 ((Int32.ofInt 2)) (geI (by decide : (Int32.ofInt 2).toInt = 2) (by omega)) (leI (by decide : (Int32.ofInt 2).toInt = 2) (by omega)) z135 h136 h143) (by decide) (by decide) (fun v239 σ240 h238 => ?_)
              obtain ⟨h241, h242, z244, h245, rfl, h243⟩ := h238
              have h246 := h243.2.2.2.2.2.2
              have h247 := Fr_trans h139 h242 (by decide +kernel)
              obtain ⟨S248, h249⟩ : ∃ q : PS, q = err By Nb 2 S141 := ⟨_, rfl⟩
              have h250 : CT By Nb σ240 S248 := by rw [h249]; exact (CT_eq h246 (err_cg (by omega)))
              have h251 := CT_k h250 h245
              have h252 : S248.2.2.2 = S141.2.2.2 := by rw [h249]; exact err_w
              have h253 := KN_fr hP h148 h242 (by decide +kernel)
              have h254 : S248.2.2.2 = Sp.2.2.2 := h252.trans h149
              have h255 := Imp_m h243.2.2.2.2.1 (by omega)
              have h256 : tw2 By Nb (tV By Nb S19.2.2.1) S118 = S248 := by rw [h249, h142]; exact tw2_p (d := z137.toInt) (by rw [← h142]; omega) (by omega) (by rw [h125]; omega)
              refine En_Ps 1 (pc' := 104) (lv' := [(3, .int z137), (2, .int z38), (0, .ref 3), (1, .ref a)]) (st' := [.ref 3]) rfl ?_
              refine En_getK (j := 5) h245 rfl rfl rfl (by decide +kernel : TG 3 = 3) (by decide +kernel) ?_
              refine En_iNe _ rfl rfl (fun h257 => ?_) (fun hx => by exfalso; have := Imp_m h35.2.2.2.2.2.2.2.1 (by omega); have := Imp_m h134.2.2.2.2.2.2.2.1 (by omega); have := Imp_m h243.2.2.2.2.2.1 (by omega); omega)
              have h258 : fTwin By Nb Sp = S248 := by unfold fTwin; (try dsimp only); first | (rw [← h20, h104, ← h119, h256]; first | done | rfl) | (rw [← h20, h104, ← h119, h256]; rw [if_pos (by omega)]; first | done | rfl) | (rw [← h20, h104, ← h119, h256]; rw [if_neg (by omega)]; first | done | rfl) | (rw [← h20, h104, ← h119, h256]; rw [if_neg (by omega), if_pos (by omega)]; first | done | rfl) | (rw [← h20, h104, ← h119, h256]; rw [if_neg (by omega), if_neg (by omega)]; first | done | rfl) | (rw [← h20, h104, ← h119, h256]; rw [if_neg (by omega), if_neg (by omega), if_neg (by omega)]; first | done | rfl)
              exact En_ret (v := none) rfl rfl rfl ⟨h241, h247, z244, h245, rfl, ⟨by omega, by omega, by omega, by omega, by omega, by omega, by omega, (by rw [h258]; exact ⟨h250, fun z => absurd z (by omega)⟩)⟩⟩
      · have h259 := Imp_m h99.2.2.1 (by omega)
        refine En_Ps 2 (pc' := 46) (lv' := [(2, .int z38), (0, .ref 3), (1, .ref a)]) (st' := [.int ((Int32.ofInt 2)), .ref 3]) rfl ?_
        have := (by decide : ((Int32.ofInt 2)).toInt = 2)
        refine En_callV rfl rfl rfl rfl rfl rfl rfl rfl (by decide +kernel : TG 3 = 3) (by decide +kernel) rfl (c_54x σ32 h33 ((Int32.ofInt 2)) (geI (by decide : (Int32.ofInt 2).toInt = 2) (by omega)) (leI (by decide : (Int32.ofInt 2).toInt = 2) (by omega)) z36 h37 h44) (by decide) (by decide) (fun v261 σ262 h260 => ?_)
        obtain ⟨h263, h264, z266, h267, rfl, h265⟩ := h260
        have h268 := h265.2.2.2.2.2.2
        have h269 := Fr_trans h40 h264 (by decide +kernel)
        obtain ⟨S270, h271⟩ : ∃ q : PS, q = err By Nb 2 S42 := ⟨_, rfl⟩
        have h272 : CT By Nb σ262 S270 := by rw [h271]; exact (CT_eq h268 (err_cg (by omega)))
        have h273 := CT_k h272 h267
        have h274 : S270.2.2.2 = S42.2.2.2 := by rw [h271]; exact err_w
        have h275 := KN_fr hP h49 h264 (by decide +kernel)
        have h276 : S270.2.2.2 = Sp.2.2.2 := h274.trans h50
        have h277 := Imp_m h265.2.2.2.2.1 (by omega)
        have h278 : tw1 By Nb S19 = S270 := by rw [h271, h43]; exact tw1_p (d := z38.toInt) (by rw [← h43]; omega) (by omega) (by rw [h26]; omega)
        refine En_Ps 1 (pc' := 50) (lv' := [(2, .int z38), (0, .ref 3), (1, .ref a)]) (st' := [.ref 3]) rfl ?_
        refine En_getK (j := 5) h267 rfl rfl rfl (by decide +kernel : TG 3 = 3) (by decide +kernel) ?_
        refine En_iEq _ rfl rfl (fun hx => by exfalso; have := Imp_m h35.2.2.2.2.2.2.2.1 (by omega); have := Imp_m h265.2.2.2.2.2.1 (by omega); omega) (fun h279 => ?_)
        have h280 : fTwin By Nb Sp = S270 := by unfold fTwin; (try dsimp only); first | (rw [← h20, h278]; first | done | rfl) | (rw [← h20, h278]; rw [if_pos (by omega)]; first | done | rfl) | (rw [← h20, h278]; rw [if_neg (by omega)]; first | done | rfl) | (rw [← h20, h278]; rw [if_neg (by omega), if_pos (by omega)]; first | done | rfl) | (rw [← h20, h278]; rw [if_neg (by omega), if_neg (by omega)]; first | done | rfl) | (rw [← h20, h278]; rw [if_neg (by omega), if_neg (by omega), if_neg (by omega)]; first | done | rfl)
        exact En_ret (v := none) rfl rfl rfl ⟨h263, h269, z266, h267, rfl, ⟨by omega, by omega, by omega, by omega, by omega, by omega, by omega, (by rw [h280]; exact ⟨h272, fun z => absurd z (by omega)⟩)⟩⟩
/-- DoorSchool$Reader.takePart(I)I -/
abbrev P_74x (σ0 : SG) (By : Int → Int) (Nb : Int) (Sp : PS) (a : Int32) (f : Int32) : PO := fun v σ => WT σ ∧ Fr [(3, 1), (3, 2), (3, 3), (3, 4), (3, 5), (3, 6)] σ0 σ ∧ ∃ f1 : Int32, (σ 3)[5]? = some (.int f1) ∧ ∃ ret : Int32, v = some (.int ret) ∧ -ret.toInt - 1 ≤ 0 ∧ ret.toInt - 15 ≤ 0 ∧ -f1.toInt ≤ 0 ∧ f1.toInt - 3 ≤ 0 ∧ -f1.toInt + f.toInt ≤ 0 ∧ f1.toInt - f.toInt - 3 ≤ 0 ∧ f.toInt - f1.toInt ≤ 0 ∧ Imp (f1.toInt ≤ 0) (-ret.toInt ≤ 0 ∧ ret.toInt - 15 ≤ 0) ∧ (CT By Nb σ (tP By Nb a.toInt Sp) ∧ Imp ((tP By Nb a.toInt Sp).1 = 0) (ret.toInt = tV By Nb Sp.2.2.1))
set_option maxRecDepth 10000 in
set_option maxHeartbeats 4000000 in
theorem c_74x {By : Int → Int} {Nb : Int} {Sp : PS} (σ0 : SG) (hσ0 : WT σ0) (a : Int32) (hl_a : (-1) ≤ a.toInt) (hu_a : a.toInt ≤ 15) (f : Int32) (h_f : (σ0 3)[5]? = some (.int f)) (hC : CT By Nb σ0 Sp) (ha : Sp.1 = 0 → 0 ≤ a.toInt) : En 2 43 none mr_74 (P_74x σ0 By Nb Sp a f) 0 [(0, .ref 3), (1, .int a)] [] σ0 := by
  obtain ⟨hl_f, hu_f⟩ := WT_int hσ0 (g := 3) (by decide +kernel) (by decide +kernel) (l := 0) (u := 3) (by decide +kernel) h_f
  have hF0 : Fr [(3, 1), (3, 2), (3, 3), (3, 4), (3, 5), (3, 6)] σ0 σ0 := Fr_rfl
  obtain ⟨z2, h1, h3, h4⟩ := WT_peekI hσ0 (by decide +kernel : TG 3 = 3) (by decide +kernel : FT 3 1 = (0, 0, 4)) (by decide +kernel)
  obtain ⟨z6, h5, h7, h8⟩ := WT_peekI hσ0 (by decide +kernel : TG 3 = 3) (by decide +kernel : FT 3 4 = (0, (-2147483648), 1000000)) (by decide +kernel)
  have h9 := CT_k hC h_f
  have h10 : Imp (Sp.1 = 0) (tK By Nb Sp.2.2.1 = z2.toInt) := CT_t hC h1
  have h11 : Imp (Sp.1 = 0 ∧ tK By Nb Sp.2.2.1 = 2) (z6.toInt = tV By Nb Sp.2.2.1 ∧ 0 ≤ tV By Nb Sp.2.2.1) := fun q => CT_u hC h5 q.1 q.2
  refine En_Ps 3 (pc' := 4) (lv' := [(0, .ref 3), (1, .int a)]) (st' := [.int (((Int8.ofInt 15).toInt32)), .int ((Int32.ofInt 0)), .ref 3]) rfl ?_
  have := (by decide : ((Int32.ofInt 0)).toInt = 0)
  have := (by decide : (((Int8.ofInt 15).toInt32)).toInt = 15)
  refine En_callV rfl rfl rfl rfl rfl rfl rfl rfl (by decide +kernel : TG 3 = 3) (by decide +kernel) rfl (c_58x σ0 hσ0 ((Int32.ofInt 0)) (((Int8.ofInt 15).toInt32)) f h_f hC) (by decide) (by decide) (fun v13 σ14 h12 => ?_)
  obtain ⟨h15, h16, z18, h19, z20, rfl, h17⟩ := h12
  have h21 := h17.2.2.2.2.2.2.2.2.2.2
  have h22 := Fr_trans hF0 h16 (by decide +kernel)
  have h23 : nH By Nb ((Int32.ofInt 0)).toInt (((Int8.ofInt 15).toInt32)).toInt Sp = nH By Nb (0) (15) Sp := nH_cg2 (fun zz => by omega) (fun zz => by omega)
  obtain ⟨S24, h25⟩ : ∃ q : PS, q = nH By Nb (0) (15) Sp := ⟨_, rfl⟩
  have h26 : CT By Nb σ14 S24 := by rw [h25]; exact (CT_eq h21.1 h23)
  have h27 := CT_k h26 h19
  have h28 : Imp (S24.1 = 0) (tK By Nb S24.2.2.1 = z2.toInt) := CT_t h26 ((h16 _ _ (inW (by decide +kernel : TG 3 = 3) (by decide +kernel))).trans h1)
  have h29 : Imp (S24.1 = 0 ∧ tK By Nb S24.2.2.1 = 2) (z6.toInt = tV By Nb S24.2.2.1 ∧ 0 ≤ tV By Nb S24.2.2.1) := fun q => CT_u h26 ((h16 _ _ (inW (by decide +kernel : TG 3 = 3) (by decide +kernel))).trans h5) q.1 q.2
  have h30 : Imp (S24.1 = 0) (z20.toInt = tV By Nb Sp.2.2.1) := fun z => Imp_m h21.2 (by rw [h23, ← h25]; exact z)
  have h31 : Imp (S24.1 = 0) (Sp.1 = 0 ∧ tK By Nb Sp.2.2.1 = 2 ∧ 0 ≤ tV By Nb Sp.2.2.1 ∧ tV By Nb Sp.2.2.1 ≤ 15) := fun z => nH_gg (by rw [← h25]; exact z)
  have h32 : S24.2.2.2 = Sp.2.2.2 := by rw [h25]; exact nH_w
  have h33 := Imp_m h17.2.2.2.2.2.2.2.2.1 (by omega)
  have h34 := Imp_m h17.2.2.2.2.2.2.2.2.2.1 (by omega)
  refine En_Ps 2 (pc' := 9) (lv' := [(2, .int z20), (0, .ref 3), (1, .int a)]) (st' := [.ref 3]) rfl ?_
  refine En_getK (j := 5) h19 rfl rfl rfl (by decide +kernel : TG 3 = 3) (by decide +kernel) ?_
  refine En_iNe _ rfl rfl (fun h35 => ?_) (fun h35 => ?_)
  · have h36 := Imp_m h17.2.2.2.2.2.2.2.1 (by omega)
    refine En_Ps 1 (pc' := 29) (lv' := [(2, .int z20), (0, .ref 3), (1, .int a)]) (st' := [.ref 3]) rfl ?_
    refine En_getK (j := 5) h19 rfl rfl rfl (by decide +kernel : TG 3 = 3) (by decide +kernel) ?_
    refine En_iNe _ rfl rfl (fun h37 => ?_) (fun hx => by exfalso; have := Imp_m h17.2.2.2.2.2.2.1 (by omega); omega)
    refine En_Ps 1 (pc' := 40) (lv' := [(2, .int z20), (0, .ref 3), (1, .int a)]) (st' := [.int z20]) rfl ?_
    exact En_ret (v := some (.int z20)) rfl rfl rfl ⟨h15, h22, z18, h19, z20, rfl, ⟨by omega, by omega, by omega, by omega, by omega, by omega, by omega, fun _ => by have := Imp_m h17.2.2.2.2.2.2.1 (by omega); omega, (by have q0 : tP By Nb a.toInt Sp = S24 := (by subst h25; first | exact tPc_e (by omega) (by omega) | exact tPc_a (by omega) | exact tPc_b (by omega)); rw [q0]; exact ⟨h26, fun zz => by (try have i0 := Imp_m h31 (by omega)); (try have i1 := Imp_m h30 (by omega)); (try have i2 := Imp_m h28 (by omega)); (try have i3 := Imp_m h10 (by omega)); (try have i4 := Imp_m h11 (by omega)); (try have i5 := Imp_m h29 (by omega)); (try have i6 := Imp_m h17.2.2.2.2.2.2.1 (by omega)); omega⟩)⟩⟩
  · have h38 := Imp_m h17.2.2.2.2.2.2.1 (by omega)
    try have h39 := Imp_m h31 (by omega)
    try have h40 := Imp_m h30 (by omega)
    try have h41 := Imp_m h28 (by omega)
    try have h42 := Imp_m h10 (by omega)
    try have h43 := Imp_m h11 (by omega)
    try have h44 := Imp_m h29 (by omega)
    refine En_Ps 2 (pc' := 17) (lv' := [(2, .int z20), (0, .ref 3), (1, .int a)]) (st' := [.int a, .int z20]) rfl ?_
    have h45 : sbI (z20.toInt) a.toInt = sbI (tV By Nb Sp.2.2.1) a.toInt := sbI_cg (by omega) rfl
    refine En_Ps 2 (pc' := 19) (lv' := [(2, .int z20), (0, .ref 3), (1, .int a)]) (st' := [.int ((a ^^^ ((Int32.ofInt (-1))))), .int z20]) rfl ?_
    refine En_nam (fun z46 h47 => ?_)
    refine En_Ps 1 (pc' := 20) (lv' := [(2, .int z20), (0, .ref 3), (1, .int a)]) (st' := [.int ((z20 &&& z46))]) rfl ?_
    refine En_nam (fun z48 h49 => ?_)
    obtain ⟨h50, h51⟩ := andn_rng h49 rfl (by omega) (by omega : _ ≤ (15 : Int))
    refine En_iEq _ rfl rfl (fun h52 => ?_) (fun h52 => ?_)
    · have := sub_sbw h49 h47 rfl rfl (by omega) (by omega) (by omega)
      refine En_Ps 1 (pc' := 29) (lv' := [(2, .int z20), (0, .ref 3), (1, .int a)]) (st' := [.ref 3]) rfl ?_
      refine En_getK (j := 5) h19 rfl rfl rfl (by decide +kernel : TG 3 = 3) (by decide +kernel) ?_
      refine En_iNe _ rfl rfl (fun hx => by exfalso; have := Imp_m h17.2.2.2.2.2.2.2.1 (by omega); omega) (fun h53 => ?_)
      refine En_Ps 1 (pc' := 36) (lv' := [(2, .int z20), (0, .ref 3), (1, .int a)]) (st' := [.ref 3]) rfl ?_
      obtain ⟨z55, h54, h56, h57⟩ := WT_peekI h15 (by decide +kernel : TG 3 = 3) (by decide +kernel : FT 3 3 = (0, 0, 1600)) (by decide +kernel)
      refine En_callV rfl rfl rfl rfl rfl rfl rfl rfl (by decide +kernel : TG 3 = 3) (by decide +kernel) rfl (c_72x σ14 h15 z55 h54 h26.1 (CT_at h26 (by omega) h54)) (by decide) (by decide) (fun v59 σ60 h58 => ?_)
      obtain ⟨h61, h62, rfl, h63⟩ := h58
      have h64 := h63
      have h65 := Fr_trans h22 h62 (by decide +kernel)
      obtain ⟨S66, h67⟩ : ∃ q : PS, q = adv By Nb S24 := ⟨_, rfl⟩
      have h68 : CT By Nb σ60 S66 := by rw [h67]; exact (CT_adv h26 (by omega) h54 h62 (by decide +kernel) h64.2)
      have h69 := CT_k h68 ((h62 _ _ (inW (by decide +kernel : TG 3 = 3) (by decide +kernel))).trans h19)
      have h70 : S66.2.2.2 = S24.2.2.2 := by rw [h67]; exact adv_w
      have h71 : S66.1 = S24.1 := by rw [h67]; exact adv_1
      refine En_Ps 1 (pc' := 40) (lv' := [(2, .int z20), (0, .ref 3), (1, .int a)]) (st' := [.int z20]) rfl ?_
      exact En_ret (v := some (.int z20)) rfl rfl rfl ⟨h61, h65, z18, ((h62 _ _ (inW (by decide +kernel : TG 3 = 3) (by decide +kernel))).trans h19), z20, rfl, ⟨by omega, by omega, by omega, by omega, by omega, by omega, by omega, fun _ => by omega, (by have q0 : tP By Nb a.toInt Sp = S66 := (by subst h67; subst h25; first | exact tPc_e (by omega) (by omega) | exact tPc_a (by omega) | exact tPc_b (by omega)); rw [q0]; exact ⟨h68, fun zz => by (try have i0 := Imp_m h31 (by omega)); (try have i1 := Imp_m h30 (by omega)); (try have i2 := Imp_m h28 (by omega)); (try have i3 := Imp_m h10 (by omega)); (try have i4 := Imp_m h11 (by omega)); (try have i5 := Imp_m h29 (by omega)); (try have i6 := Imp_m h17.2.2.2.2.2.2.2.1 (by omega)); omega⟩)⟩⟩
    · have := sub_sbw h49 h47 rfl rfl (by omega) (by omega) (by omega)
      refine En_Ps 2 (pc' := 25) (lv' := [(2, .int z20), (0, .ref 3), (1, .int a)]) (st' := [.int ((Int32.ofInt 2)), .ref 3]) rfl ?_
      have := (by decide : ((Int32.ofInt 2)).toInt = 2)
      refine En_callV rfl rfl rfl rfl rfl rfl rfl rfl (by decide +kernel : TG 3 = 3) (by decide +kernel) rfl (c_54x σ14 h15 ((Int32.ofInt 2)) (geI (by decide : (Int32.ofInt 2).toInt = 2) (by omega)) (leI (by decide : (Int32.ofInt 2).toInt = 2) (by omega)) z18 h19 h26) (by decide) (by decide) (fun v73 σ74 h72 => ?_)
      obtain ⟨h75, h76, z78, h79, rfl, h77⟩ := h72
      have h80 := h77.2.2.2.2.2.2
      have h81 := Fr_trans h22 h76 (by decide +kernel)
      obtain ⟨S82, h83⟩ : ∃ q : PS, q = err By Nb 2 S24 := ⟨_, rfl⟩
      have h84 : CT By Nb σ74 S82 := by rw [h83]; exact (CT_eq h80 (err_cg (by omega)))
      have h85 := CT_k h84 h79
      have h86 : Imp (S82.1 = 0) (tK By Nb S82.2.2.1 = z2.toInt) := CT_t h84 ((h76 _ _ (inW (by decide +kernel : TG 3 = 3) (by decide +kernel))).trans ((h16 _ _ (inW (by decide +kernel : TG 3 = 3) (by decide +kernel))).trans h1))
      have h87 : Imp (S82.1 = 0 ∧ tK By Nb S82.2.2.1 = 2) (z6.toInt = tV By Nb S82.2.2.1 ∧ 0 ≤ tV By Nb S82.2.2.1) := fun q => CT_u h84 ((h76 _ _ (inW (by decide +kernel : TG 3 = 3) (by decide +kernel))).trans ((h16 _ _ (inW (by decide +kernel : TG 3 = 3) (by decide +kernel))).trans h5)) q.1 q.2
      have h88 : S82.2.2.2 = S24.2.2.2 := by rw [h83]; exact err_w
      have h89 := Imp_m h77.2.2.2.2.1 (by omega)
      refine En_Ps 1 (pc' := 29) (lv' := [(2, .int z20), (0, .ref 3), (1, .int a)]) (st' := [.ref 3]) rfl ?_
      refine En_getK (j := 5) h79 rfl rfl rfl (by decide +kernel : TG 3 = 3) (by decide +kernel) ?_
      refine En_iNe _ rfl rfl (fun h90 => ?_) (fun hx => by exfalso; have := Imp_m h17.2.2.2.2.2.2.2.1 (by omega); have := Imp_m h77.2.2.2.2.2.1 (by omega); omega)
      refine En_Ps 1 (pc' := 40) (lv' := [(2, .int z20), (0, .ref 3), (1, .int a)]) (st' := [.int z20]) rfl ?_
      exact En_ret (v := some (.int z20)) rfl rfl rfl ⟨h75, h81, z78, h79, z20, rfl, ⟨by omega, by omega, by omega, by omega, by omega, by omega, by omega, fun _ => by omega, (by have q0 : tP By Nb a.toInt Sp = S82 := (by subst h83; subst h25; first | exact tPc_e (by omega) (by omega) | exact tPc_a (by omega) | exact tPc_b (by omega)); rw [q0]; exact ⟨h84, fun zz => by (try have i0 := Imp_m h86 (by omega)); (try have i1 := Imp_m h31 (by omega)); (try have i2 := Imp_m h30 (by omega)); (try have i3 := Imp_m h28 (by omega)); (try have i4 := Imp_m h10 (by omega)); (try have i5 := Imp_m h11 (by omega)); (try have i6 := Imp_m h29 (by omega)); (try have i7 := Imp_m h87 (by omega)); (try have i8 := Imp_m h17.2.2.2.2.2.2.2.1 (by omega)); (try have i9 := Imp_m h77.2.2.2.2.2.1 (by omega)); omega⟩)⟩⟩
/-- DoorSchool$Reader.readOwner(LDoorSchool$Plan;)V -/
abbrev P_68x (σ0 : SG) (By : Int → Int) (Nb : Int) (Sp : PS) (a : Nat) (f : Int32) (sg : Int32) : PO := fun v σ => WT σ ∧ Fr [(3, 1), (3, 2), (3, 3), (3, 4), (3, 5), (3, 6), (18, 6), (18, 7)] σ0 σ ∧ ∃ f1 : Int32, (σ 3)[5]? = some (.int f1) ∧ v = none ∧ -f1.toInt ≤ 0 ∧ f1.toInt - 3 ≤ 0 ∧ -f1.toInt + f.toInt ≤ 0 ∧ f1.toInt - f.toInt - 3 ≤ 0 ∧ -f1.toInt + sg.toInt - 4 ≤ 0 ∧ f1.toInt - sg.toInt - 3 ≤ 0 ∧ f.toInt - f1.toInt ≤ 0 ∧ (CT By Nb σ (fOwner By Nb Sp) ∧ ((fOwner By Nb Sp).1 = 0 → KN σ a (fOwner By Nb Sp).2.2.2 (act (fOwner By Nb Sp).2.2.2)))
set_option maxRecDepth 10000 in
set_option maxHeartbeats 4000000 in
theorem c_68x {By : Int → Int} {Nb : Int} {Sp : PS} (σ0 : SG) (hσ0 : WT σ0) (a : Nat) (ha : TG a = 18) (f : Int32) (h_f : (σ0 3)[5]? = some (.int f)) (sg : Int32) (h_sg : (σ0 a)[1]? = some (.int sg)) (hp0 : -sg.toInt ≤ 0) (hC : CT By Nb σ0 Sp) (hg : Sp.1 = 0) (hP : PLA a) (hX : FXP σ0 a) (hK : KN σ0 a Sp.2.2.2 (act Sp.2.2.2)) : En 3 66 none mr_68 (P_68x σ0 By Nb Sp a f sg) 0 [(0, .ref 3), (1, .ref a)] [] σ0 := by
  obtain ⟨hl_f, hu_f⟩ := WT_int hσ0 (g := 3) (by decide +kernel) (by decide +kernel) (l := 0) (u := 3) (by decide +kernel) h_f
  obtain ⟨hl_sg, hu_sg⟩ := WT_int hσ0 (g := 18) ha (by decide +kernel) (l := (-1)) (u := 4) (by decide +kernel) h_sg
  have hF0 : Fr [(3, 1), (3, 2), (3, 3), (3, 4), (3, 5), (3, 6), (18, 6), (18, 7)] σ0 σ0 := Fr_rfl
  have h1 := CT_k hC h_f
  have h2 : Sp.2.2.2 0 = sg.toInt := KN_v hK (Or.inl (by decide)) (by decide) (by decide) (by rw [lcO_lt (by decide) (by decide), Nat.add_zero]) rfl h_sg
  have h3 : pI (Sp.2.2.2 0) = pI (sg.toInt) := by rw [h2]
  refine En_Ps 1 (pc' := 1) (lv' := [(0, .ref 3), (1, .ref a)]) (st' := [.ref 3]) rfl ?_
  obtain ⟨z5, h4, h6, h7⟩ := WT_peekI hσ0 (by decide +kernel : TG 3 = 3) (by decide +kernel : FT 3 3 = (0, 0, 1600)) (by decide +kernel)
  refine En_callV rfl rfl rfl rfl rfl rfl rfl rfl (by decide +kernel : TG 3 = 3) (by decide +kernel) rfl (c_72x σ0 hσ0 z5 h4 hC.1 (CT_at hC (by omega) h4)) (by decide) (by decide) (fun v9 σ10 h8 => ?_)
  obtain ⟨h11, h12, rfl, h13⟩ := h8
  have h14 := h13
  have h15 := Fr_trans hF0 h12 (by decide +kernel)
  obtain ⟨S16, h17⟩ : ∃ q : PS, q = adv By Nb Sp := ⟨_, rfl⟩
  have h18 : CT By Nb σ10 S16 := by rw [h17]; exact (CT_adv hC (by omega) h4 h12 (by decide +kernel) h14.2)
  have h19 := CT_k h18 ((h12 _ _ (inW (by decide +kernel : TG 3 = 3) (by decide +kernel))).trans h_f)
  have h20 : S16.2.2.2 = Sp.2.2.2 := by rw [h17]; exact adv_w
  have h21 : S16.1 = Sp.1 := by rw [h17]; exact adv_1
  have h22 := KN_fr hP hK h12 (by decide +kernel)
  have h23 : S16.2.2.2 = Sp.2.2.2 := h20.trans (rfl : Sp.2.2.2 = Sp.2.2.2)
  refine En_Ps 3 (pc' := 7) (lv' := [(0, .ref 3), (1, .ref a)]) (st' := [.ref a, .int ((Int32.ofInt 0)), .ref 3]) rfl ?_
  refine En_callV rfl rfl rfl rfl rfl rfl rfl rfl ha (by decide +kernel) rfl (c_51x σ10 h11 a ha sg ((h12 _ _ (inW ha (by decide +kernel))).trans h_sg) (by omega)) (by decide) (by decide) (fun v25 σ26 h24 => ?_)
  obtain ⟨h27, h28, z30, rfl, h29⟩ := h24
  have h31 := h29.2.2
  obtain rfl : σ10 = σ26 := Fr_nil h28
  have h32 := h31
  have h33 : pI (S16.2.2.2 0) = z30.toInt := by rw [h23]; omega
  refine En_Ps 2 (pc' := 12) (lv' := [(0, .ref 3), (1, .ref a)]) (st' := [.int ((z30 - ((Int32.ofInt 1)))), .int ((Int32.ofInt 0)), .ref 3]) rfl ?_
  refine En_top (subI rfl (by decide : (Int32.ofInt 1).toInt = 1) (by omega) (by omega)) (fun z34 h35 => ?_)
  have := (by decide : ((Int32.ofInt 0)).toInt = 0)
  refine En_callV rfl rfl rfl rfl rfl rfl rfl rfl (by decide +kernel : TG 3 = 3) (by decide +kernel) rfl (c_73x σ10 h11 ((Int32.ofInt 0)) z34 f ((h12 _ _ (inW (by decide +kernel : TG 3 = 3) (by decide +kernel))).trans h_f) h18) (by decide) (by decide) (fun v37 σ38 h36 => ?_)
  obtain ⟨h39, h40, z42, h43, z44, rfl, h41⟩ := h36
  have h45 := h41.2.2.2.2.2.2.2.2.2.2
  have h46 := Fr_trans h15 h40 (by decide +kernel)
  have h47 : tN By Nb ((Int32.ofInt 0)).toInt z34.toInt S16 = tN By Nb (0) (pI (S16.2.2.2 0) - 1) S16 := tN_cg2 (fun zz => by omega) (fun zz => by omega)
  obtain ⟨S48, h49⟩ : ∃ q : PS, q = tN By Nb (0) (pI (S16.2.2.2 0) - 1) S16 := ⟨_, rfl⟩
  have h50 : CT By Nb σ38 S48 := by rw [h49]; exact (CT_eq h45.1 h47)
  have h51 := CT_k h50 h43
  have h52 : Imp (S48.1 = 0) (z44.toInt = tV By Nb S16.2.2.1) := fun z => Imp_m h45.2 (by rw [h47, ← h49]; exact z)
  have h53 : Imp (S48.1 = 0) (S16.1 = 0 ∧ tK By Nb S16.2.2.1 = 2 ∧ 0 ≤ tV By Nb S16.2.2.1 ∧ tV By Nb S16.2.2.1 ≤ pI (S16.2.2.2 0) - 1) := fun z => tN_gg (by rw [← h49]; exact z)
  have h54 : S48.2.2.2 = S16.2.2.2 := by rw [h49]; exact tN_w
  have h55 := KN_fr hP h22 h40 (by decide +kernel)
  have h56 : S48.2.2.2 = Sp.2.2.2 := h54.trans h23
  have h57 := Imp_m h41.2.2.2.2.2.2.2.2.1 (by omega)
  have h58 := Imp_m h41.2.2.2.2.2.2.2.2.2.1 (by omega)
  refine En_Ps 3 (pc' := 18) (lv' := [(2, .int z44), (0, .ref 3), (1, .ref a)]) (st' := [.int z44, .ref 3]) rfl ?_
  refine En_callV rfl rfl rfl rfl rfl rfl rfl rfl (by decide +kernel : TG 3 = 3) (by decide +kernel) rfl (c_74x σ38 h39 z44 (geI rfl (by omega)) (leI rfl (by omega)) z42 h43 h50 (fun zz => by (try have i0 := Imp_m h53 (by omega)); (try have i1 := Imp_m h52 (by omega)); (try have i2 := Imp_m h41.2.2.2.2.2.2.1 (by omega)); (try have i3 := Imp_m h41.2.2.2.2.2.2.2.1 (by omega)); omega)) (by decide) (by decide) (fun v60 σ61 h59 => ?_)
  obtain ⟨h62, h63, z65, h66, z67, rfl, h64⟩ := h59
  have h68 := h64.2.2.2.2.2.2.2.2
  have h69 := Fr_trans h46 h63 (by decide +kernel)
  have h70 : tP By Nb z44.toInt S48 = tP By Nb (tV By Nb S16.2.2.1) S48 := tP_cg2 (fun zz => by (try have i0 := Imp_m h53 (by omega)); (try have i1 := Imp_m h52 (by omega)); (try have i2 := Imp_m h41.2.2.2.2.2.2.1 (by omega)); (try have i3 := Imp_m h41.2.2.2.2.2.2.2.1 (by omega)); omega)
  obtain ⟨S71, h72⟩ : ∃ q : PS, q = tP By Nb (tV By Nb S16.2.2.1) S48 := ⟨_, rfl⟩
  have h73 : CT By Nb σ61 S71 := by rw [h72]; exact (CT_eq h68.1 h70)
  have h74 := CT_k h73 h66
  have h75 : Imp (S71.1 = 0) (z67.toInt = tV By Nb S48.2.2.1) := fun z => Imp_m h68.2 (by rw [h70, ← h72]; exact z)
  have h76 : Imp (S71.1 = 0) (S48.1 = 0) := fun z => tP_g (by rw [← h72]; exact z)
  have h77 : S71.2.2.2 = S48.2.2.2 := by rw [h72]; exact tP_w
  have h78 := KN_fr hP h55 h63 (by decide +kernel)
  have h79 : S71.2.2.2 = Sp.2.2.2 := h77.trans h56
  refine En_Ps 2 (pc' := 23) (lv' := [(3, .int z67), (2, .int z44), (0, .ref 3), (1, .ref a)]) (st' := [.ref 3]) rfl ?_
  refine En_getK (j := 5) h66 rfl rfl rfl (by decide +kernel : TG 3 = 3) (by decide +kernel) ?_
  refine En_iNe _ rfl rfl (fun h80 => ?_) (fun h80 => ?_)
  · have h81 : fOwner By Nb Sp = S71 := by unfold fOwner fRule; (try dsimp only); first | (rw [← h17, ← h49, ← h72]; first | done | rfl) | (rw [← h17, ← h49, ← h72]; rw [if_pos (by omega)]; first | done | rfl) | (rw [← h17, ← h49, ← h72]; rw [if_neg (by omega)]; first | done | rfl) | (rw [← h17, ← h49, ← h72]; rw [if_neg (by omega), if_pos (by omega)]; first | done | rfl) | (rw [← h17, ← h49, ← h72]; rw [if_neg (by omega), if_neg (by omega)]; first | done | rfl) | (rw [← h17, ← h49, ← h72]; rw [if_neg (by omega), if_neg (by omega), if_neg (by omega)]; first | done | rfl)
    exact En_ret (v := none) rfl rfl rfl ⟨h62, h69, z65, h66, rfl, ⟨by omega, by omega, by omega, by omega, by omega, by omega, by omega, (by rw [h81]; exact ⟨h73, fun z => absurd z (by omega)⟩)⟩⟩
  · have h82 := Imp_m h41.2.2.2.2.2.2.1 (by omega)
    have h83 := Imp_m h64.2.2.2.2.2.2.2.1 (by omega)
    try have h84 := Imp_m h76 (by omega)
    try have h85 := Imp_m h75 (by omega)
    try have h86 := Imp_m h53 (by omega)
    try have h87 := Imp_m h52 (by omega)
    refine En_Ps 2 (pc' := 31) (lv' := [(3, .int z67), (2, .int z44), (0, .ref 3), (1, .ref a)]) (st' := [.int z44, .ref a]) rfl ?_
    refine En_put (j := 6) rfl rfl rfl ha (by decide +kernel) rfl (vI (l := 0) (u := 15) (by decide +kernel) rfl (by omega) (by omega)) h62 h69 (by decide +kernel) (fun σ88 h89 h90 h91 h92 => ?_)
    obtain ⟨S93, h94⟩ : ∃ q : PS, q = wst S71 (8) ((tV By Nb S16.2.2.1)) := ⟨_, rfl⟩
    have h95 : CT By Nb σ88 S93 := by rw [h94]; exact CT_wst (CT_ne h73 h92 (by have := hP; unfold PLA at this; omega))
    have h96 : KN σ88 a (uPd Sp.2.2.2 (8) ((tV By Nb S16.2.2.1))) (fun t => (act Sp.2.2.2 t ∨ t = 8)) := KN_st h78 h91 h92 (by omega) (by omega) (by rw [lcO_lt (by decide) (by decide), Nat.add_zero]) (by decide) (by (try have i0 := Imp_m h76 (by omega)); (try have i1 := Imp_m h75 (by omega)); (try have i2 := Imp_m h53 (by omega)); (try have i3 := Imp_m h52 (by omega)); (try have i4 := Imp_m h41.2.2.2.2.2.2.2.1 (by omega)); omega)
    have h97 : S93.2.2.2 = (uPd Sp.2.2.2 (8) ((tV By Nb S16.2.2.1))) := by rw [h94]; show uPd S71.2.2.2 _ _ = _; rw [h79]
    have h98 : S93.1 = S71.1 := by rw [h94]; rfl
    have h99 := CT_k h95 ((h92 _ _ (Or.inr (by decide))).trans h66)
    refine En_Ps 2 (pc' := 36) (lv' := [(3, .int z67), (2, .int z44), (0, .ref 3), (1, .ref a)]) (st' := [.int z67, .ref a]) rfl ?_
    refine En_put (j := 7) rfl rfl rfl ha (by decide +kernel) rfl (vI (l := 0) (u := 15) (by decide +kernel) rfl (by omega) (by omega)) h89 h90 (by decide +kernel) (fun σ100 h101 h102 h103 h104 => ?_)
    obtain ⟨S105, h106⟩ : ∃ q : PS, q = wst S93 (8 + 1) ((tV By Nb S48.2.2.1)) := ⟨_, rfl⟩
    have h107 : CT By Nb σ100 S105 := by rw [h106]; exact CT_wst (CT_ne h95 h104 (by have := hP; unfold PLA at this; omega))
    have h108 : KN σ100 a (uPd (uPd Sp.2.2.2 (8) ((tV By Nb S16.2.2.1))) (8 + 1) ((tV By Nb S48.2.2.1))) (fun t => ((act Sp.2.2.2 t ∨ t = 8) ∨ t = 8 + 1)) := KN_st h96 h103 h104 (by omega) (by omega) (by rw [lcO_lt (by decide) (by decide), Nat.add_zero]) (by decide) (by (try have i0 := Imp_m h76 (by omega)); (try have i1 := Imp_m h75 (by omega)); (try have i2 := Imp_m h53 (by omega)); (try have i3 := Imp_m h52 (by omega)); (try have i4 := Imp_m h41.2.2.2.2.2.2.2.1 (by omega)); omega)
    have h109 : S105.2.2.2 = (uPd (uPd Sp.2.2.2 (8) ((tV By Nb S16.2.2.1))) (8 + 1) ((tV By Nb S48.2.2.1))) := by rw [h106]; show uPd S93.2.2.2 _ _ = _; rw [h97]
    have h110 : S105.1 = S93.1 := by rw [h106]; rfl
    have h111 := CT_k h107 ((h104 _ _ (Or.inr (by decide))).trans ((h92 _ _ (Or.inr (by decide))).trans h66))
    have h112 : fOwner By Nb Sp = S105 := by unfold fOwner fRule; (try dsimp only); first | (rw [← h17, ← h49, ← h72, ← h94, ← h106]; first | done | rfl) | (rw [← h17, ← h49, ← h72, ← h94, ← h106]; rw [if_pos (by omega)]; first | done | rfl) | (rw [← h17, ← h49, ← h72, ← h94, ← h106]; rw [if_neg (by omega)]; first | done | rfl) | (rw [← h17, ← h49, ← h72, ← h94, ← h106]; rw [if_neg (by omega), if_pos (by omega)]; first | done | rfl) | (rw [← h17, ← h49, ← h72, ← h94, ← h106]; rw [if_neg (by omega), if_neg (by omega)]; first | done | rfl) | (rw [← h17, ← h49, ← h72, ← h94, ← h106]; rw [if_neg (by omega), if_neg (by omega), if_neg (by omega)]; first | done | rfl)
    exact En_ret (v := none) rfl rfl rfl ⟨h101, h102, z65, ((h104 _ _ (Or.inr (by decide))).trans ((h92 _ _ (Or.inr (by decide))).trans h66)), rfl, ⟨by omega, by omega, by omega, by omega, by omega, by omega, by omega, (by rw [h112]; exact ⟨h107, fun zz => by rw [h109]; exact KN_sub h108 (fun t t0 t1 y => Or.inl (Or.inl (act_low (by omega) (act_low (by omega) y))))⟩)⟩⟩
/-- DoorSchool$Reader.readHouse(LDoorSchool$Plan;)V -/
abbrev P_66x (σ0 : SG) (By : Int → Int) (Nb : Int) (Sp : PS) (a : Nat) (f : Int32) (sg : Int32) : PO := fun v σ => WT σ ∧ Fr [(3, 1), (3, 2), (3, 3), (3, 4), (3, 5), (3, 6), (18, 8), (23, 0), (24, 0)] σ0 σ ∧ ∃ f1 : Int32, (σ 3)[5]? = some (.int f1) ∧ v = none ∧ -f1.toInt ≤ 0 ∧ f1.toInt - 3 ≤ 0 ∧ -f1.toInt + f.toInt ≤ 0 ∧ f1.toInt - f.toInt - 3 ≤ 0 ∧ -f1.toInt + sg.toInt - 4 ≤ 0 ∧ f1.toInt - sg.toInt - 3 ≤ 0 ∧ f.toInt - f1.toInt ≤ 0 ∧ (CT By Nb σ (fHouse By Nb Sp) ∧ ((fHouse By Nb Sp).1 = 0 → KN σ a (fHouse By Nb Sp).2.2.2 (act (fHouse By Nb Sp).2.2.2)))
set_option maxRecDepth 10000 in
set_option maxHeartbeats 4000000 in
theorem c_66x {By : Int → Int} {Nb : Int} {Sp : PS} (σ0 : SG) (hσ0 : WT σ0) (a : Nat) (ha : TG a = 18) (f : Int32) (h_f : (σ0 3)[5]? = some (.int f)) (sg : Int32) (h_sg : (σ0 a)[1]? = some (.int sg)) (hp0 : -sg.toInt ≤ 0) (hC : CT By Nb σ0 Sp) (hg : Sp.1 = 0) (hP : PLA a) (hX : FXP σ0 a) (hK : KN σ0 a Sp.2.2.2 (act Sp.2.2.2)) : En 3 66 none mr_66 (P_66x σ0 By Nb Sp a f sg) 0 [(0, .ref 3), (1, .ref a)] [] σ0 := by
  obtain ⟨hl_f, hu_f⟩ := WT_int hσ0 (g := 3) (by decide +kernel) (by decide +kernel) (l := 0) (u := 3) (by decide +kernel) h_f
  obtain ⟨hl_sg, hu_sg⟩ := WT_int hσ0 (g := 18) ha (by decide +kernel) (l := (-1)) (u := 4) (by decide +kernel) h_sg
  have hF0 : Fr [(3, 1), (3, 2), (3, 3), (3, 4), (3, 5), (3, 6), (18, 8), (23, 0), (24, 0)] σ0 σ0 := Fr_rfl
  have h1 := CT_k hC h_f
  have h2 : Sp.2.2.2 0 = sg.toInt := KN_v hK (Or.inl (by decide)) (by decide) (by decide) (by rw [lcO_lt (by decide) (by decide), Nat.add_zero]) rfl h_sg
  have h3 : pI (Sp.2.2.2 0) = pI (sg.toInt) := by rw [h2]
  obtain ⟨z5, h4, h6, h7⟩ := WT_peekI hσ0 ha (by decide +kernel : FT 18 8 = (0, 0, 4)) (by decide +kernel)
  have h8 : Sp.2.2.2 4 = z5.toInt := KN_v hK (Or.inl (by decide)) (by decide) (by decide) (by rw [lcO_lt (by decide) (by decide), Nat.add_zero]) rfl h4
  refine En_Ps 1 (pc' := 1) (lv' := [(0, .ref 3), (1, .ref a)]) (st' := [.ref a]) rfl ?_
  refine En_getK (j := 8) h4 rfl rfl rfl ha (by decide +kernel) ?_
  refine En_Ps 1 (pc' := 5) (lv' := [(0, .ref 3), (1, .ref a)]) (st' := [.int ((Int32.ofInt 4)), .int z5]) rfl ?_
  refine En_icLt _ rfl (by decide : (Int32.ofInt 4).toInt = 4) rfl (fun h9 => ?_) (fun h9 => ?_)
  · refine En_Ps 1 (pc' := 15) (lv' := [(0, .ref 3), (1, .ref a)]) (st' := [.ref 3]) rfl ?_
    obtain ⟨z11, h10, h12, h13⟩ := WT_peekI hσ0 (by decide +kernel : TG 3 = 3) (by decide +kernel : FT 3 3 = (0, 0, 1600)) (by decide +kernel)
    refine En_callV rfl rfl rfl rfl rfl rfl rfl rfl (by decide +kernel : TG 3 = 3) (by decide +kernel) rfl (c_72x σ0 hσ0 z11 h10 hC.1 (CT_at hC (by omega) h10)) (by decide) (by decide) (fun v15 σ16 h14 => ?_)
    obtain ⟨h17, h18, rfl, h19⟩ := h14
    have h20 := h19
    have h21 := Fr_trans hF0 h18 (by decide +kernel)
    obtain ⟨S22, h23⟩ : ∃ q : PS, q = adv By Nb Sp := ⟨_, rfl⟩
    have h24 : CT By Nb σ16 S22 := by rw [h23]; exact (CT_adv hC (by omega) h10 h18 (by decide +kernel) h20.2)
    have h25 := CT_k h24 ((h18 _ _ (inW (by decide +kernel : TG 3 = 3) (by decide +kernel))).trans h_f)
    have h26 : S22.2.2.2 = Sp.2.2.2 := by rw [h23]; exact adv_w
    have h27 : S22.1 = Sp.1 := by rw [h23]; exact adv_1
    have h28 := KN_fr hP hK h18 (by decide +kernel)
    have h29 : S22.2.2.2 = Sp.2.2.2 := h26.trans (rfl : Sp.2.2.2 = Sp.2.2.2)
    refine En_Ps 3 (pc' := 21) (lv' := [(0, .ref 3), (1, .ref a)]) (st' := [.ref a, .int ((Int32.ofInt 0)), .ref 3]) rfl ?_
    refine En_callV rfl rfl rfl rfl rfl rfl rfl rfl ha (by decide +kernel) rfl (c_51x σ16 h17 a ha sg ((h18 _ _ (inW ha (by decide +kernel))).trans h_sg) (by omega)) (by decide) (by decide) (fun v31 σ32 h30 => ?_)
    obtain ⟨h33, h34, z36, rfl, h35⟩ := h30
    have h37 := h35.2.2
    obtain rfl : σ16 = σ32 := Fr_nil h34
    have h38 := h37
    have h39 : pI (S22.2.2.2 0) = z36.toInt := by rw [h29]; omega
    refine En_Ps 2 (pc' := 26) (lv' := [(0, .ref 3), (1, .ref a)]) (st' := [.int ((z36 - ((Int32.ofInt 1)))), .int ((Int32.ofInt 0)), .ref 3]) rfl ?_
    refine En_top (subI rfl (by decide : (Int32.ofInt 1).toInt = 1) (by omega) (by omega)) (fun z40 h41 => ?_)
    have := (by decide : ((Int32.ofInt 0)).toInt = 0)
    refine En_callV rfl rfl rfl rfl rfl rfl rfl rfl (by decide +kernel : TG 3 = 3) (by decide +kernel) rfl (c_73x σ16 h17 ((Int32.ofInt 0)) z40 f ((h18 _ _ (inW (by decide +kernel : TG 3 = 3) (by decide +kernel))).trans h_f) h24) (by decide) (by decide) (fun v43 σ44 h42 => ?_)
    obtain ⟨h45, h46, z48, h49, z50, rfl, h47⟩ := h42
    have h51 := h47.2.2.2.2.2.2.2.2.2.2
    have h52 := Fr_trans h21 h46 (by decide +kernel)
    have h53 : tN By Nb ((Int32.ofInt 0)).toInt z40.toInt S22 = tN By Nb (0) (pI (S22.2.2.2 0) - 1) S22 := tN_cg2 (fun zz => by omega) (fun zz => by omega)
    obtain ⟨S54, h55⟩ : ∃ q : PS, q = tN By Nb (0) (pI (S22.2.2.2 0) - 1) S22 := ⟨_, rfl⟩
    have h56 : CT By Nb σ44 S54 := by rw [h55]; exact (CT_eq h51.1 h53)
    have h57 := CT_k h56 h49
    have h58 : Imp (S54.1 = 0) (z50.toInt = tV By Nb S22.2.2.1) := fun z => Imp_m h51.2 (by rw [h53, ← h55]; exact z)
    have h59 : Imp (S54.1 = 0) (S22.1 = 0 ∧ tK By Nb S22.2.2.1 = 2 ∧ 0 ≤ tV By Nb S22.2.2.1 ∧ tV By Nb S22.2.2.1 ≤ pI (S22.2.2.2 0) - 1) := fun z => tN_gg (by rw [← h55]; exact z)
    have h60 : S54.2.2.2 = S22.2.2.2 := by rw [h55]; exact tN_w
    have h61 := KN_fr hP h28 h46 (by decide +kernel)
    have h62 : S54.2.2.2 = Sp.2.2.2 := h60.trans h29
    have h63 := Imp_m h47.2.2.2.2.2.2.2.2.1 (by omega)
    have h64 := Imp_m h47.2.2.2.2.2.2.2.2.2.1 (by omega)
    refine En_Ps 3 (pc' := 32) (lv' := [(2, .int z50), (0, .ref 3), (1, .ref a)]) (st' := [.int z50, .ref 3]) rfl ?_
    refine En_callV rfl rfl rfl rfl rfl rfl rfl rfl (by decide +kernel : TG 3 = 3) (by decide +kernel) rfl (c_74x σ44 h45 z50 (geI rfl (by omega)) (leI rfl (by omega)) z48 h49 h56 (fun zz => by (try have i0 := Imp_m h59 (by omega)); (try have i1 := Imp_m h58 (by omega)); (try have i2 := Imp_m h47.2.2.2.2.2.2.1 (by omega)); (try have i3 := Imp_m h47.2.2.2.2.2.2.2.1 (by omega)); omega)) (by decide) (by decide) (fun v66 σ67 h65 => ?_)
    obtain ⟨h68, h69, z71, h72, z73, rfl, h70⟩ := h65
    have h74 := h70.2.2.2.2.2.2.2.2
    have h75 := Fr_trans h52 h69 (by decide +kernel)
    have h76 : tP By Nb z50.toInt S54 = tP By Nb (tV By Nb S22.2.2.1) S54 := tP_cg2 (fun zz => by (try have i0 := Imp_m h59 (by omega)); (try have i1 := Imp_m h58 (by omega)); (try have i2 := Imp_m h47.2.2.2.2.2.2.1 (by omega)); (try have i3 := Imp_m h47.2.2.2.2.2.2.2.1 (by omega)); omega)
    obtain ⟨S77, h78⟩ : ∃ q : PS, q = tP By Nb (tV By Nb S22.2.2.1) S54 := ⟨_, rfl⟩
    have h79 : CT By Nb σ67 S77 := by rw [h78]; exact (CT_eq h74.1 h76)
    have h80 := CT_k h79 h72
    have h81 : Imp (S77.1 = 0) (z73.toInt = tV By Nb S54.2.2.1) := fun z => Imp_m h74.2 (by rw [h76, ← h78]; exact z)
    have h82 : Imp (S77.1 = 0) (S54.1 = 0) := fun z => tP_g (by rw [← h78]; exact z)
    have h83 : S77.2.2.2 = S54.2.2.2 := by rw [h78]; exact tP_w
    have h84 := KN_fr hP h61 h69 (by decide +kernel)
    have h85 : S77.2.2.2 = Sp.2.2.2 := h83.trans h62
    refine En_Ps 2 (pc' := 37) (lv' := [(3, .int z73), (2, .int z50), (0, .ref 3), (1, .ref a)]) (st' := [.ref 3]) rfl ?_
    refine En_getK (j := 5) h72 rfl rfl rfl (by decide +kernel : TG 3 = 3) (by decide +kernel) ?_
    refine En_iNe _ rfl rfl (fun h86 => ?_) (fun h86 => ?_)
    · have h87 : fRule By Nb (146 + 2 * Sp.2.2.2 4) S22 = S77 := by unfold fRule; (try dsimp only); rw [← h55, ← h78]; first | (rw [if_pos (by omega)]; first | done | rfl) | (rw [if_neg (by omega)]; first | done | rfl)
      have h88 : fHouse By Nb Sp = S77 := by unfold fHouse; (try dsimp only); first | (rw [← h23, h87]; first | done | rfl) | (rw [← h23, h87]; rw [if_pos (by omega)]; first | done | rfl) | (rw [← h23, h87]; rw [if_neg (by omega)]; first | done | rfl) | (rw [← h23, h87]; rw [if_neg (by omega), if_pos (by omega)]; first | done | rfl) | (rw [← h23, h87]; rw [if_neg (by omega), if_neg (by omega)]; first | done | rfl) | (rw [← h23, h87]; rw [if_neg (by omega), if_neg (by omega), if_neg (by omega)]; first | done | rfl)
      exact En_ret (v := none) rfl rfl rfl ⟨h68, h75, z71, h72, rfl, ⟨by omega, by omega, by omega, by omega, by omega, by omega, by omega, (by rw [h88]; exact ⟨h79, fun z => absurd z (by omega)⟩)⟩⟩
    · have h89 := Imp_m h47.2.2.2.2.2.2.1 (by omega)
      have h90 := Imp_m h70.2.2.2.2.2.2.2.1 (by omega)
      try have h91 := Imp_m h82 (by omega)
      try have h92 := Imp_m h81 (by omega)
      try have h93 := Imp_m h59 (by omega)
      try have h94 := Imp_m h58 (by omega)
      refine En_Ps 1 (pc' := 44) (lv' := [(3, .int z73), (2, .int z50), (0, .ref 3), (1, .ref a)]) (st' := [.ref a]) rfl ?_
      refine En_getR (j := 9) (g' := 23) (u := 0) rfl rfl rfl ha (by decide +kernel) h68 (by decide +kernel) (fun a96 h95 ha96 => ?_)
      refine En_Ps 1 (pc' := 48) (lv' := [(3, .int z73), (2, .int z50), (0, .ref 3), (1, .ref a)]) (st' := [.ref a, .ref a96]) rfl ?_
      refine En_getK (j := 8) ((h69 _ _ (inW ha (by decide +kernel))).trans ((h46 _ _ (inW ha (by decide +kernel))).trans ((h18 _ _ (inW ha (by decide +kernel))).trans h4))) rfl rfl rfl ha (by decide +kernel) ?_
      refine En_Ps 1 (pc' := 52) (lv' := [(3, .int z73), (2, .int z50), (0, .ref 3), (1, .ref a)]) (st' := [.int z50, .int z5, .ref a96]) rfl ?_
      refine En_iast (l := 0) (u := 15) rfl rfl ha96 (by decide +kernel) (by omega) (lnI (by decide +kernel : LN _ = 4) (by omega)) (FTsgl (by decide +kernel)) (rngI rfl (by omega) (by omega)) h68 h75 (by decide +kernel) (fun σ97 h98 h99 h100 h101 => ?_)
      have h102 : a96 = a + 5 := ref_uniq ((h101 _ _ (Or.inl (neTG ha ha96 (by decide)))).trans h95) (FXP_fr hP hX h99 (by decide +kernel)).2.2.1
      have h103 := lc_h (m := Sp.2.2.2 4) (by omega) (by omega)
      obtain ⟨S104, h105⟩ : ∃ q : PS, q = wst S77 (146 + 2 * Sp.2.2.2 4) ((tV By Nb S22.2.2.1)) := ⟨_, rfl⟩
      have h106 : CT By Nb σ97 S104 := by rw [h105]; exact CT_wst (CT_ne h79 h101 (by have := hP; unfold PLA at this; omega))
      have h107 : KN σ97 a (uPd Sp.2.2.2 (146 + 2 * Sp.2.2.2 4) ((tV By Nb S22.2.2.1))) (fun t => (act Sp.2.2.2 t ∨ t = 146 + 2 * Sp.2.2.2 4)) := KN_st h84 h100 h101 (by omega) (by omega) (by omega) (by omega) (by (try have i0 := Imp_m h82 (by omega)); (try have i1 := Imp_m h81 (by omega)); (try have i2 := Imp_m h59 (by omega)); (try have i3 := Imp_m h58 (by omega)); (try have i4 := Imp_m h47.2.2.2.2.2.2.2.1 (by omega)); omega)
      have h108 : S104.2.2.2 = (uPd Sp.2.2.2 (146 + 2 * Sp.2.2.2 4) ((tV By Nb S22.2.2.1))) := by rw [h105]; show uPd S77.2.2.2 _ _ = _; rw [h85]
      have h109 : S104.1 = S77.1 := by rw [h105]; rfl
      have h110 := CT_k h106 ((h101 _ _ (Or.inl (neTG (by decide +kernel : TG 3 = 3) ha96 (by decide)))).trans h72)
      refine En_Ps 1 (pc' := 54) (lv' := [(3, .int z73), (2, .int z50), (0, .ref 3), (1, .ref a)]) (st' := [.ref a]) rfl ?_
      refine En_getR (j := 10) (g' := 24) (u := 0) rfl rfl rfl ha (by decide +kernel) h98 (by decide +kernel) (fun a112 h111 ha112 => ?_)
      refine En_Ps 1 (pc' := 58) (lv' := [(3, .int z73), (2, .int z50), (0, .ref 3), (1, .ref a)]) (st' := [.ref a, .ref a112]) rfl ?_
      refine En_getK (j := 8) ((h101 _ _ (Or.inl (neTG ha ha96 (by decide)))).trans ((h69 _ _ (inW ha (by decide +kernel))).trans ((h46 _ _ (inW ha (by decide +kernel))).trans ((h18 _ _ (inW ha (by decide +kernel))).trans h4)))) rfl rfl rfl ha (by decide +kernel) ?_
      refine En_Ps 1 (pc' := 62) (lv' := [(3, .int z73), (2, .int z50), (0, .ref 3), (1, .ref a)]) (st' := [.int z73, .int z5, .ref a112]) rfl ?_
      refine En_iast (l := 0) (u := 15) rfl rfl ha112 (by decide +kernel) (by omega) (lnI (by decide +kernel : LN _ = 4) (by omega)) (FTsgl (by decide +kernel)) (rngI rfl (by omega) (by omega)) h98 h99 (by decide +kernel) (fun σ113 h114 h115 h116 h117 => ?_)
      have h118 : a112 = a + 6 := ref_uniq ((h117 _ _ (Or.inl (neTG ha ha112 (by decide)))).trans h111) (FXP_fr hP hX h115 (by decide +kernel)).2.2.2.1
      have h119 := lc_h (m := Sp.2.2.2 4) (by omega) (by omega)
      obtain ⟨S120, h121⟩ : ∃ q : PS, q = wst S104 (146 + 2 * Sp.2.2.2 4 + 1) ((tV By Nb S54.2.2.1)) := ⟨_, rfl⟩
      have h122 : CT By Nb σ113 S120 := by rw [h121]; exact CT_wst (CT_ne h106 h117 (by have := hP; unfold PLA at this; omega))
      have h123 : KN σ113 a (uPd (uPd Sp.2.2.2 (146 + 2 * Sp.2.2.2 4) ((tV By Nb S22.2.2.1))) (146 + 2 * Sp.2.2.2 4 + 1) ((tV By Nb S54.2.2.1))) (fun t => ((act Sp.2.2.2 t ∨ t = 146 + 2 * Sp.2.2.2 4) ∨ t = 146 + 2 * Sp.2.2.2 4 + 1)) := KN_st h107 h116 h117 (by omega) (by omega) (by omega) (by omega) (by (try have i0 := Imp_m h82 (by omega)); (try have i1 := Imp_m h81 (by omega)); (try have i2 := Imp_m h59 (by omega)); (try have i3 := Imp_m h58 (by omega)); (try have i4 := Imp_m h47.2.2.2.2.2.2.2.1 (by omega)); omega)
      have h124 : S120.2.2.2 = (uPd (uPd Sp.2.2.2 (146 + 2 * Sp.2.2.2 4) ((tV By Nb S22.2.2.1))) (146 + 2 * Sp.2.2.2 4 + 1) ((tV By Nb S54.2.2.1))) := by rw [h121]; show uPd S104.2.2.2 _ _ = _; rw [h108]
      have h125 : S120.1 = S104.1 := by rw [h121]; rfl
      have h126 := CT_k h122 ((h117 _ _ (Or.inl (neTG (by decide +kernel : TG 3 = 3) ha112 (by decide)))).trans ((h101 _ _ (Or.inl (neTG (by decide +kernel : TG 3 = 3) ha96 (by decide)))).trans h72))
      have h127 : fRule By Nb (146 + 2 * Sp.2.2.2 4) S22 = S120 := by unfold fRule; (try dsimp only); rw [← h55, ← h78, ← h105, ← h121]; first | (rw [if_pos (by omega)]; first | done | rfl) | (rw [if_neg (by omega)]; first | done | rfl)
      refine En_Ps 2 (pc' := 65) (lv' := [(3, .int z73), (2, .int z50), (0, .ref 3), (1, .ref a)]) (st' := [.ref a, .ref a]) rfl ?_
      refine En_getK (j := 8) ((h117 _ _ (Or.inl (neTG ha ha112 (by decide)))).trans ((h101 _ _ (Or.inl (neTG ha ha96 (by decide)))).trans ((h69 _ _ (inW ha (by decide +kernel))).trans ((h46 _ _ (inW ha (by decide +kernel))).trans ((h18 _ _ (inW ha (by decide +kernel))).trans h4))))) rfl rfl rfl ha (by decide +kernel) ?_
      refine En_Ps 2 (pc' := 70) (lv' := [(3, .int z73), (2, .int z50), (0, .ref 3), (1, .ref a)]) (st' := [.int ((z5 + ((Int32.ofInt 1)))), .ref a]) rfl ?_
      refine En_top (addI rfl (by decide : (Int32.ofInt 1).toInt = 1) (by omega) (by omega)) (fun z128 h129 => ?_)
      refine En_put (j := 8) rfl rfl rfl ha (by decide +kernel) rfl (vI (l := 0) (u := 4) (by decide +kernel) rfl (by omega) (by omega)) h114 h115 (by decide +kernel) (fun σ130 h131 h132 h133 h134 => ?_)
      obtain ⟨S135, h136⟩ : ∃ q : PS, q = wst S120 (4) (Sp.2.2.2 4 + 1) := ⟨_, rfl⟩
      have h137 : CT By Nb σ130 S135 := by rw [h136]; exact CT_wst (CT_ne h122 h134 (by have := hP; unfold PLA at this; omega))
      have h138 : KN σ130 a (uPd (uPd (uPd Sp.2.2.2 (146 + 2 * Sp.2.2.2 4) ((tV By Nb S22.2.2.1))) (146 + 2 * Sp.2.2.2 4 + 1) ((tV By Nb S54.2.2.1))) (4) (Sp.2.2.2 4 + 1)) (fun t => (((act Sp.2.2.2 t ∨ t = 146 + 2 * Sp.2.2.2 4) ∨ t = 146 + 2 * Sp.2.2.2 4 + 1) ∨ t = 4)) := KN_st h123 h133 h134 (by omega) (by omega) (by rw [lcO_lt (by decide) (by decide), Nat.add_zero]) (by decide) (by (try have i0 := Imp_m h82 (by omega)); (try have i1 := Imp_m h81 (by omega)); (try have i2 := Imp_m h59 (by omega)); (try have i3 := Imp_m h58 (by omega)); (try have i4 := Imp_m h47.2.2.2.2.2.2.2.1 (by omega)); omega)
      have h139 : S135.2.2.2 = (uPd (uPd (uPd Sp.2.2.2 (146 + 2 * Sp.2.2.2 4) ((tV By Nb S22.2.2.1))) (146 + 2 * Sp.2.2.2 4 + 1) ((tV By Nb S54.2.2.1))) (4) (Sp.2.2.2 4 + 1)) := by rw [h136]; show uPd S120.2.2.2 _ _ = _; rw [h124]
      have h140 : S135.1 = S120.1 := by rw [h136]; rfl
      have h141 := CT_k h137 ((h134 _ _ (Or.inr (by decide))).trans ((h117 _ _ (Or.inl (neTG (by decide +kernel : TG 3 = 3) ha112 (by decide)))).trans ((h101 _ _ (Or.inl (neTG (by decide +kernel : TG 3 = 3) ha96 (by decide)))).trans h72)))
      have h142 : fHouse By Nb Sp = S135 := by unfold fHouse; (try dsimp only); first | (rw [← h23, h127, ← h136]; first | done | rfl) | (rw [← h23, h127, ← h136]; rw [if_pos (by omega)]; first | done | rfl) | (rw [← h23, h127, ← h136]; rw [if_neg (by omega)]; first | done | rfl) | (rw [← h23, h127, ← h136]; rw [if_neg (by omega), if_pos (by omega)]; first | done | rfl) | (rw [← h23, h127, ← h136]; rw [if_neg (by omega), if_neg (by omega)]; first | done | rfl) | (rw [← h23, h127, ← h136]; rw [if_neg (by omega), if_neg (by omega), if_neg (by omega)]; first | done | rfl)
      exact En_ret (v := none) rfl rfl rfl ⟨h131, h132, z71, ((h134 _ _ (Or.inr (by decide))).trans ((h117 _ _ (Or.inl (neTG (by decide +kernel : TG 3 = 3) ha112 (by decide)))).trans ((h101 _ _ (Or.inl (neTG (by decide +kernel : TG 3 = 3) ha96 (by decide)))).trans h72))), rfl, ⟨by omega, by omega, by omega, by omega, by omega, by omega, by omega, (by rw [h142]; exact ⟨h137, fun zz => by rw [h139]; exact KN_sub h138 (fun t t0 t1 y => AHs (by omega) y)⟩)⟩⟩
  · refine En_Ps 2 (pc' := 10) (lv' := [(0, .ref 3), (1, .ref a)]) (st' := [.int ((Int32.ofInt 3)), .ref 3]) rfl ?_
    have := (by decide : ((Int32.ofInt 3)).toInt = 3)
    refine En_callV rfl rfl rfl rfl rfl rfl rfl rfl (by decide +kernel : TG 3 = 3) (by decide +kernel) rfl (c_54x σ0 hσ0 ((Int32.ofInt 3)) (geI (by decide : (Int32.ofInt 3).toInt = 3) (by omega)) (leI (by decide : (Int32.ofInt 3).toInt = 3) (by omega)) f h_f hC) (by decide) (by decide) (fun v144 σ145 h143 => ?_)
    obtain ⟨h146, h147, z149, h150, rfl, h148⟩ := h143
    have h151 := h148.2.2.2.2.2.2
    have h152 := Fr_trans hF0 h147 (by decide +kernel)
    obtain ⟨S153, h154⟩ : ∃ q : PS, q = err By Nb 3 Sp := ⟨_, rfl⟩
    have h155 : CT By Nb σ145 S153 := by rw [h154]; exact (CT_eq h151 (err_cg (by omega)))
    have h156 := CT_k h155 h150
    have h157 : S153.2.2.2 = Sp.2.2.2 := by rw [h154]; exact err_w
    have h158 := KN_fr hP hK h147 (by decide +kernel)
    have h159 : S153.2.2.2 = Sp.2.2.2 := h157.trans (rfl : Sp.2.2.2 = Sp.2.2.2)
    have h160 : fHouse By Nb Sp = S153 := by unfold fHouse; (try dsimp only); first | (rw [← h154]; first | done | rfl) | (rw [← h154]; rw [if_pos (by omega)]; first | done | rfl) | (rw [← h154]; rw [if_neg (by omega)]; first | done | rfl) | (rw [← h154]; rw [if_neg (by omega), if_pos (by omega)]; first | done | rfl) | (rw [← h154]; rw [if_neg (by omega), if_neg (by omega)]; first | done | rfl) | (rw [← h154]; rw [if_neg (by omega), if_neg (by omega), if_neg (by omega)]; first | done | rfl)
    exact En_ret (v := none) rfl rfl rfl ⟨h146, h152, z149, h150, rfl, ⟨by omega, by omega, by omega, by omega, by omega, by omega, by omega, (by rw [h160]; exact ⟨h155, fun z => absurd z (by omega)⟩)⟩⟩

