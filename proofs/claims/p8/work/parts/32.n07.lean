/-- DoorSchool$Reader.readCourse(LDoorSchool$Plan;)V -/
abbrev P_62x (σ0 : SG) (By : Int → Int) (Nb : Int) (Sp : PS) (a : Nat) (f : Int32) (sg : Int32) : PO := fun v σ => WT σ ∧ Fr [(3, 1), (3, 2), (3, 3), (3, 4), (3, 5), (3, 6), (18, 11), (25, 0)] σ0 σ ∧ ∃ f1 : Int32, (σ 3)[5]? = some (.int f1) ∧ v = none ∧ OUT σ0 σ a ∧ -f1.toInt ≤ 0 ∧ f1.toInt - 3 ≤ 0 ∧ -f1.toInt + f.toInt ≤ 0 ∧ f1.toInt - f.toInt - 3 ≤ 0 ∧ -f1.toInt + sg.toInt - 4 ≤ 0 ∧ f1.toInt - sg.toInt - 3 ≤ 0 ∧ f.toInt - f1.toInt ≤ 0 ∧ (CT By Nb σ (fCourse By Nb Sp) ∧ ((fCourse By Nb Sp).1 = 0 → KN σ a (fCourse By Nb Sp).2.2.2 (act (fCourse By Nb Sp).2.2.2)))
set_option maxRecDepth 10000 in
set_option maxHeartbeats 4000000 in
theorem c_62x {By : Int → Int} {Nb : Int} {Sp : PS} (σ0 : SG) (hσ0 : WT σ0) (a : Nat) (ha : TG a = 18) (f : Int32) (h_f : (σ0 3)[5]? = some (.int f)) (sg : Int32) (h_sg : (σ0 a)[1]? = some (.int sg)) (hp0 : -sg.toInt ≤ 0) (hC : CT By Nb σ0 Sp) (hg : Sp.1 = 0) (hP : PLA a) (hX : FXP σ0 a) (hK : KN σ0 a Sp.2.2.2 (act Sp.2.2.2)) : En 5 112 none mr_62 (P_62x σ0 By Nb Sp a f sg) 0 [(0, .ref 3), (1, .ref a)] [] σ0 := by
  obtain ⟨hl_f, hu_f⟩ := WT_int hσ0 (g := 3) (by decide +kernel) (by decide +kernel) (l := 0) (u := 3) (by decide +kernel) h_f
  obtain ⟨hl_sg, hu_sg⟩ := WT_int hσ0 (g := 18) ha (by decide +kernel) (l := (-1)) (u := 4) (by decide +kernel) h_sg
  have hF0 : Fr [(3, 1), (3, 2), (3, 3), (3, 4), (3, 5), (3, 6), (18, 11), (25, 0)] σ0 σ0 := Fr_rfl
  have h1 := CT_k hC h_f
  obtain ⟨z3, h2, h4, h5⟩ := WT_peekI hσ0 ha (by decide +kernel : FT 18 11 = (0, 0, 6)) (by decide +kernel)
  have h6 : Sp.2.2.2 5 = z3.toInt := KN_v hK (Or.inl (by decide)) (by decide) (by decide) (by rw [lcO_lt (by decide) (by decide), Nat.add_zero]) rfl h2
  refine En_Ps 1 (pc' := 1) (lv' := [(0, .ref 3), (1, .ref a)]) (st' := [.ref a]) rfl ?_
  refine En_getK (j := 11) h2 rfl rfl rfl ha (by decide +kernel) ?_
  refine En_Ps 1 (pc' := 6) (lv' := [(0, .ref 3), (1, .ref a)]) (st' := [.int (((Int8.ofInt 6).toInt32)), .int z3]) rfl ?_
  refine En_icLt _ rfl (by decide : ((Int8.ofInt 6).toInt32).toInt = 6) rfl (fun h7 => ?_) (fun h7 => ?_)
  · refine En_Ps 1 (pc' := 16) (lv' := [(0, .ref 3), (1, .ref a)]) (st' := [.ref 3]) rfl ?_
    obtain ⟨z9, h8, h10, h11⟩ := WT_peekI hσ0 (by decide +kernel : TG 3 = 3) (by decide +kernel : FT 3 3 = (0, 0, 1600)) (by decide +kernel)
    refine En_callV rfl rfl rfl rfl rfl rfl rfl rfl (by decide +kernel : TG 3 = 3) (by decide +kernel) rfl (c_72x σ0 hσ0 z9 h8 hC.1 (CT_at hC (by omega) h8)) (by decide) (by decide) (fun v13 σ14 h12 => ?_)
    obtain ⟨h15, h16, rfl, h17⟩ := h12
    have h18 := h17
    have h19 := Fr_trans hF0 h16 (by decide +kernel)
    obtain ⟨S20, h21⟩ : ∃ q : PS, q = adv By Nb Sp := ⟨_, rfl⟩
    have h22 : CT By Nb σ14 S20 := by rw [h21]; exact (CT_adv hC (by omega) h8 h16 (by decide +kernel) h18.2)
    have h23 := CT_k h22 ((h16 _ _ (inW (by decide +kernel : TG 3 = 3) (by decide +kernel))).trans h_f)
    have h24 : S20.2.2.2 = Sp.2.2.2 := by rw [h21]; exact adv_w
    have h25 : S20.1 = Sp.1 := by rw [h21]; exact adv_1
    have h26 := KN_fr hP hK h16 (by decide +kernel)
    have h27 : S20.2.2.2 = Sp.2.2.2 := h24.trans (rfl : Sp.2.2.2 = Sp.2.2.2)
    have o28 := OUT_fr OUT_0 h16 (by decide +kernel)
    refine En_Ps 2 (pc' := 21) (lv' := [(0, .ref 3), (1, .ref a)]) (st' := [.ref 3, .ref 3]) rfl ?_
    refine En_ldcS (i := 15) rfl rfl rfl ?_
    refine En_callV rfl rfl rfl rfl rfl rfl rfl rfl (by decide +kernel : TG 3 = 3) (by decide +kernel) rfl (c_71s15x σ14 h15 h22) (by decide) (by decide) (fun v30 σ31 h29 => ?_)
    obtain ⟨h32, h33, z35, rfl, h34⟩ := h29
    have h36 := h34.2.2
    obtain rfl : σ14 = σ31 := Fr_nil h33
    have h37 := h36
    refine En_callV rfl rfl rfl rfl rfl rfl rfl rfl (by decide +kernel : TG 3 = 3) (by decide +kernel) rfl (c_59x σ14 h15 z35 (geI rfl (by omega)) (leI rfl (by omega)) f ((h16 _ _ (inW (by decide +kernel : TG 3 = 3) (by decide +kernel))).trans h_f) h22) (by decide) (by decide) (fun v39 σ40 h38 => ?_)
    obtain ⟨h41, h42, z44, h45, rfl, h43⟩ := h38
    have h46 := h43.2.2.2.2.2.2.2
    have h47 := Fr_trans h19 h42 (by decide +kernel)
    have h48 : pss By Nb z35.toInt S20 = pss By Nb (iW By Nb 15 S20) S20 := pss_cg2 (fun zz => by (try have i0 := Imp_m h37 (by omega)); omega)
    obtain ⟨S49, h50⟩ : ∃ q : PS, q = pss By Nb (iW By Nb 15 S20) S20 := ⟨_, rfl⟩
    have h51 : CT By Nb σ40 S49 := by rw [h50]; exact (CT_eq h46 h48)
    have h52 := CT_k h51 h45
    have h53 : S49.2.2.2 = S20.2.2.2 := by rw [h50]; exact pss_w
    have h54 : Imp (S49.1 = 0) (S20.1 = 0) := fun z => (pss_g (by rw [h48, ← h50]; exact z)).1
    have h55 : Imp (S49.1 = 0) (z35.toInt = 1) := fun z => (pss_g (by rw [h48, ← h50]; exact z)).2.1
    have h56 := KN_fr hP h26 h42 (by decide +kernel)
    have h57 : S49.2.2.2 = Sp.2.2.2 := h53.trans h27
    have o58 := OUT_fr o28 h42 (by decide +kernel)
    refine En_Ps 3 (pc' := 33) (lv' := [(0, .ref 3), (1, .ref a)]) (st' := [.int (((Int8.ofInt 9).toInt32)), .int ((Int32.ofInt 1)), .ref 3]) rfl ?_
    have := (by decide : ((Int32.ofInt 1)).toInt = 1)
    have := (by decide : (((Int8.ofInt 9).toInt32)).toInt = 9)
    refine En_callV rfl rfl rfl rfl rfl rfl rfl rfl (by decide +kernel : TG 3 = 3) (by decide +kernel) rfl (c_73x σ40 h41 ((Int32.ofInt 1)) (((Int8.ofInt 9).toInt32)) z44 h45 h51) (by decide) (by decide) (fun v60 σ61 h59 => ?_)
    obtain ⟨h62, h63, z65, h66, z67, rfl, h64⟩ := h59
    have h68 := h64.2.2.2.2.2.2.2.2.2.2
    have h69 := Fr_trans h47 h63 (by decide +kernel)
    have h70 : tN By Nb ((Int32.ofInt 1)).toInt (((Int8.ofInt 9).toInt32)).toInt S49 = tN By Nb (1) (9) S49 := tN_cg2 (fun zz => by omega) (fun zz => by omega)
    obtain ⟨S71, h72⟩ : ∃ q : PS, q = tN By Nb (1) (9) S49 := ⟨_, rfl⟩
    have h73 : CT By Nb σ61 S71 := by rw [h72]; exact (CT_eq h68.1 h70)
    have h74 := CT_k h73 h66
    have h75 : Imp (S71.1 = 0) (z67.toInt = tV By Nb S49.2.2.1) := fun z => Imp_m h68.2 (by rw [h70, ← h72]; exact z)
    have h76 : Imp (S71.1 = 0) (S49.1 = 0 ∧ tK By Nb S49.2.2.1 = 2 ∧ 1 ≤ tV By Nb S49.2.2.1 ∧ tV By Nb S49.2.2.1 ≤ 9) := fun z => tN_gg (by rw [← h72]; exact z)
    have h77 : S71.2.2.2 = S49.2.2.2 := by rw [h72]; exact tN_w
    have h78 := KN_fr hP h56 h63 (by decide +kernel)
    have h79 : S71.2.2.2 = Sp.2.2.2 := h77.trans h57
    have o80 := OUT_fr o58 h63 (by decide +kernel)
    have h81 := Imp_m h64.2.2.2.2.2.2.2.2.1 (by omega)
    have h82 := Imp_m h64.2.2.2.2.2.2.2.2.2.1 (by omega)
    refine En_Ps 2 (pc' := 38) (lv' := [(2, .int z67), (0, .ref 3), (1, .ref a)]) (st' := [.ref 3]) rfl ?_
    refine En_getK (j := 5) h66 rfl rfl rfl (by decide +kernel : TG 3 = 3) (by decide +kernel) ?_
    refine En_iNe _ rfl rfl (fun h83 => ?_) (fun h83 => ?_)
    · have h84 := Imp_m h64.2.2.2.2.2.2.2.1 (by omega)
      have h85 : fCourse By Nb Sp = S71 := by unfold fCourse; (try dsimp only); first | (rw [← h21, ← h50, ← h72]; first | done | rfl) | (rw [← h21, ← h50, ← h72]; rw [if_pos (by omega)]; first | done | rfl) | (rw [← h21, ← h50, ← h72]; rw [if_neg (by omega)]; first | done | rfl) | (rw [← h21, ← h50, ← h72]; rw [if_neg (by omega), if_pos (by omega)]; first | done | rfl) | (rw [← h21, ← h50, ← h72]; rw [if_neg (by omega), if_neg (by omega)]; first | done | rfl) | (rw [← h21, ← h50, ← h72]; rw [if_neg (by omega), if_neg (by omega), if_neg (by omega)]; first | done | rfl)
      exact En_ret (v := none) rfl rfl rfl ⟨h62, h69, z65, h66, rfl, ⟨o80, by omega, by omega, by omega, by omega, by omega, by omega, by omega, (by rw [h85]; exact ⟨h73, fun z => absurd z (by omega)⟩)⟩⟩
    · have h86 := Imp_m h64.2.2.2.2.2.2.1 (by omega)
      try have h87 := Imp_m h76 (by omega)
      try have h88 := Imp_m h75 (by omega)
      try have h89 := Imp_m h55 (by omega)
      try have h90 := Imp_m h54 (by omega)
      try have h91 := Imp_m h37 (by omega)
      refine En_Ps 1 (pc' := 45) (lv' := [(2, .int z67), (0, .ref 3), (1, .ref a)]) (st' := [.ref a]) rfl ?_
      refine En_getR (j := 12) (g' := 25) (u := 0) rfl rfl rfl ha (by decide +kernel) h62 (by decide +kernel) (fun a93 h92 ha93 => ?_)
      refine En_Ps 1 (pc' := 49) (lv' := [(2, .int z67), (0, .ref 3), (1, .ref a)]) (st' := [.ref a, .ref a93]) rfl ?_
      refine En_getK (j := 11) ((h63 _ _ (inW ha (by decide +kernel))).trans ((h42 _ _ (inW ha (by decide +kernel))).trans ((h16 _ _ (inW ha (by decide +kernel))).trans h2))) rfl rfl rfl ha (by decide +kernel) ?_
      refine En_Ps 1 (pc' := 53) (lv' := [(2, .int z67), (0, .ref 3), (1, .ref a)]) (st' := [.int z67, .int z3, .ref a93]) rfl ?_
      refine En_iast (l := 0) (u := 9) rfl rfl ha93 (by decide +kernel) (by omega) (lnI (by decide +kernel : LN _ = 6) (by omega)) (FTsgl (by decide +kernel)) (rngI rfl (by omega) (by omega)) h62 h69 (by decide +kernel) (fun σ94 h95 h96 h97 h98 => ?_)
      have h99 : a93 = a + 7 := ref_uniq ((h98 _ _ (Or.inl (neTG ha ha93 (by decide)))).trans h92) (FXP_fr hP hX h96 (by decide +kernel)).2.2.2.2.1
      have h100 := lc_c (m := Sp.2.2.2 5) (by omega) (by omega)
      obtain ⟨S101, h102⟩ : ∃ q : PS, q = wst S71 (154 + 2 * Sp.2.2.2 5) ((tV By Nb S49.2.2.1)) := ⟨_, rfl⟩
      have h103 : CT By Nb σ94 S101 := by rw [h102]; exact CT_wst (CT_ne h73 h98 (by have := hP; unfold PLA at this; omega))
      have h104 : KN σ94 a (uPd Sp.2.2.2 (154 + 2 * Sp.2.2.2 5) ((tV By Nb S49.2.2.1))) (fun t => (act Sp.2.2.2 t ∨ t = 154 + 2 * Sp.2.2.2 5)) := KN_st h78 h97 h98 (by omega) (by omega) (by omega) (by omega) (by (try have i0 := Imp_m h76 (by omega)); (try have i1 := Imp_m h75 (by omega)); (try have i2 := Imp_m h55 (by omega)); (try have i3 := Imp_m h54 (by omega)); (try have i4 := Imp_m h37 (by omega)); (try have i5 := Imp_m h43.2.2.2.2.1 (by omega)); (try have i6 := Imp_m h43.2.2.2.2.2.2.1 (by omega)); (try have i7 := Imp_m h64.2.2.2.2.2.2.2.1 (by omega)); omega)
      have h105 : S101.2.2.2 = (uPd Sp.2.2.2 (154 + 2 * Sp.2.2.2 5) ((tV By Nb S49.2.2.1))) := by rw [h102]; show uPd S71.2.2.2 _ _ = _; rw [h79]
      have h106 : S101.1 = S71.1 := by rw [h102]; rfl
      have h107 := CT_k h103 ((h98 _ _ (Or.inl (neTG (by decide +kernel : TG 3 = 3) ha93 (by decide)))).trans h66)
      have o108 := OUT_st o80 h98 (by omega)
      refine En_Ps 2 (pc' := 56) (lv' := [(2, .int z67), (0, .ref 3), (1, .ref a)]) (st' := [.ref a, .ref a]) rfl ?_
      refine En_getK (j := 11) ((h98 _ _ (Or.inl (neTG ha ha93 (by decide)))).trans ((h63 _ _ (inW ha (by decide +kernel))).trans ((h42 _ _ (inW ha (by decide +kernel))).trans ((h16 _ _ (inW ha (by decide +kernel))).trans h2)))) rfl rfl rfl ha (by decide +kernel) ?_
      refine En_Ps 2 (pc' := 61) (lv' := [(2, .int z67), (0, .ref 3), (1, .ref a)]) (st' := [.int ((z3 + ((Int32.ofInt 1)))), .ref a]) rfl ?_
      refine En_top (addI rfl (by decide : (Int32.ofInt 1).toInt = 1) (by omega) (by omega)) (fun z109 h110 => ?_)
      refine En_put (j := 11) rfl rfl rfl ha (by decide +kernel) rfl (vI (l := 0) (u := 6) (by decide +kernel) rfl (by omega) (by omega)) h95 h96 (by decide +kernel) (fun σ111 h112 h113 h114 h115 => ?_)
      obtain ⟨S116, h117⟩ : ∃ q : PS, q = wst S101 (5) (Sp.2.2.2 5 + 1) := ⟨_, rfl⟩
      have h118 : CT By Nb σ111 S116 := by rw [h117]; exact CT_wst (CT_ne h103 h115 (by have := hP; unfold PLA at this; omega))
      have h119 : KN σ111 a (uPd (uPd Sp.2.2.2 (154 + 2 * Sp.2.2.2 5) ((tV By Nb S49.2.2.1))) (5) (Sp.2.2.2 5 + 1)) (fun t => ((act Sp.2.2.2 t ∨ t = 154 + 2 * Sp.2.2.2 5) ∨ t = 5)) := KN_st h104 h114 h115 (by omega) (by omega) (by rw [lcO_lt (by decide) (by decide), Nat.add_zero]) (by decide) (by (try have i0 := Imp_m h76 (by omega)); (try have i1 := Imp_m h75 (by omega)); (try have i2 := Imp_m h55 (by omega)); (try have i3 := Imp_m h54 (by omega)); (try have i4 := Imp_m h37 (by omega)); (try have i5 := Imp_m h43.2.2.2.2.1 (by omega)); (try have i6 := Imp_m h43.2.2.2.2.2.2.1 (by omega)); (try have i7 := Imp_m h64.2.2.2.2.2.2.2.1 (by omega)); omega)
      have h120 : S116.2.2.2 = (uPd (uPd Sp.2.2.2 (154 + 2 * Sp.2.2.2 5) ((tV By Nb S49.2.2.1))) (5) (Sp.2.2.2 5 + 1)) := by rw [h117]; show uPd S101.2.2.2 _ _ = _; rw [h105]
      have h121 : S116.1 = S101.1 := by rw [h117]; rfl
      have h122 := CT_k h118 ((h115 _ _ (Or.inr (by decide))).trans ((h98 _ _ (Or.inl (neTG (by decide +kernel : TG 3 = 3) ha93 (by decide)))).trans h66))
      have o123 := OUT_st o108 h115 (by omega)
      have h124 : fCourse By Nb Sp = S116 := by unfold fCourse; (try dsimp only); first | (rw [← h21, ← h50, ← h72, ← h102, ← h117]; first | done | rfl) | (rw [← h21, ← h50, ← h72, ← h102, ← h117]; rw [if_pos (by omega)]; first | done | rfl) | (rw [← h21, ← h50, ← h72, ← h102, ← h117]; rw [if_neg (by omega)]; first | done | rfl) | (rw [← h21, ← h50, ← h72, ← h102, ← h117]; rw [if_neg (by omega), if_pos (by omega)]; first | done | rfl) | (rw [← h21, ← h50, ← h72, ← h102, ← h117]; rw [if_neg (by omega), if_neg (by omega)]; first | done | rfl) | (rw [← h21, ← h50, ← h72, ← h102, ← h117]; rw [if_neg (by omega), if_neg (by omega), if_neg (by omega)]; first | done | rfl)
      exact En_ret (v := none) rfl rfl rfl ⟨h112, h113, z65, ((h115 _ _ (Or.inr (by decide))).trans ((h98 _ _ (Or.inl (neTG (by decide +kernel : TG 3 = 3) ha93 (by decide)))).trans h66)), rfl, ⟨o123, by omega, by omega, by omega, by omega, by omega, by omega, by omega, (by rw [h124]; exact ⟨h118, fun zz => by rw [h120]; exact KN_sub h119 (fun t t0 t1 y => ACs (by omega) y)⟩)⟩⟩
  · refine En_Ps 2 (pc' := 11) (lv' := [(0, .ref 3), (1, .ref a)]) (st' := [.int ((Int32.ofInt 3)), .ref 3]) rfl ?_
    have := (by decide : ((Int32.ofInt 3)).toInt = 3)
    refine En_callV rfl rfl rfl rfl rfl rfl rfl rfl (by decide +kernel : TG 3 = 3) (by decide +kernel) rfl (c_54x σ0 hσ0 ((Int32.ofInt 3)) (geI (by decide : (Int32.ofInt 3).toInt = 3) (by omega)) (leI (by decide : (Int32.ofInt 3).toInt = 3) (by omega)) f h_f hC) (by decide) (by decide) (fun v126 σ127 h125 => ?_)
    obtain ⟨h128, h129, z131, h132, rfl, h130⟩ := h125
    have h133 := h130.2.2.2.2.2.2
    have h134 := Fr_trans hF0 h129 (by decide +kernel)
    obtain ⟨S135, h136⟩ : ∃ q : PS, q = err By Nb 3 Sp := ⟨_, rfl⟩
    have h137 : CT By Nb σ127 S135 := by rw [h136]; exact (CT_eq h133 (err_cg (by omega)))
    have h138 := CT_k h137 h132
    have h139 : S135.2.2.2 = Sp.2.2.2 := by rw [h136]; exact err_w
    have h140 := KN_fr hP hK h129 (by decide +kernel)
    have h141 : S135.2.2.2 = Sp.2.2.2 := h139.trans (rfl : Sp.2.2.2 = Sp.2.2.2)
    have o142 := OUT_fr OUT_0 h129 (by decide +kernel)
    have h143 : fCourse By Nb Sp = S135 := by unfold fCourse; (try dsimp only); first | (rw [← h136]; first | done | rfl) | (rw [← h136]; rw [if_pos (by omega)]; first | done | rfl) | (rw [← h136]; rw [if_neg (by omega)]; first | done | rfl) | (rw [← h136]; rw [if_neg (by omega), if_pos (by omega)]; first | done | rfl) | (rw [← h136]; rw [if_neg (by omega), if_neg (by omega)]; first | done | rfl) | (rw [← h136]; rw [if_neg (by omega), if_neg (by omega), if_neg (by omega)]; first | done | rfl)
    exact En_ret (v := none) rfl rfl rfl ⟨h128, h134, z131, h132, rfl, ⟨o142, by omega, by omega, by omega, by omega, by omega, by omega, by omega, (by rw [h143]; exact ⟨h137, fun z => absurd z (by omega)⟩)⟩⟩
/-- DoorSchool$Reader.readAhead(LDoorSchool$Plan;)V -/
abbrev P_61x (σ0 : SG) (By : Int → Int) (Nb : Int) (Sp : PS) (a : Nat) (f : Int32) (sg : Int32) : PO := fun v σ => WT σ ∧ Fr [(3, 1), (3, 2), (3, 3), (3, 4), (3, 5), (3, 6), (26, 0)] σ0 σ ∧ ∃ f1 : Int32, (σ 3)[5]? = some (.int f1) ∧ v = none ∧ OUT σ0 σ a ∧ -f1.toInt ≤ 0 ∧ f1.toInt - 3 ≤ 0 ∧ -f1.toInt + f.toInt ≤ 0 ∧ f1.toInt - f.toInt - 3 ≤ 0 ∧ -f1.toInt + sg.toInt - 4 ≤ 0 ∧ f1.toInt - sg.toInt - 3 ≤ 0 ∧ f.toInt - f1.toInt ≤ 0 ∧ (CT By Nb σ (fAhead By Nb Sp) ∧ ((fAhead By Nb Sp).1 = 0 → KN σ a (fAhead By Nb Sp).2.2.2 (act (fAhead By Nb Sp).2.2.2)))
set_option maxRecDepth 10000 in
set_option maxHeartbeats 4000000 in
theorem c_61x {By : Int → Int} {Nb : Int} {Sp : PS} (σ0 : SG) (hσ0 : WT σ0) (a : Nat) (ha : TG a = 18) (f : Int32) (h_f : (σ0 3)[5]? = some (.int f)) (sg : Int32) (h_sg : (σ0 a)[1]? = some (.int sg)) (hp0 : -sg.toInt ≤ 0) (hC : CT By Nb σ0 Sp) (hg : Sp.1 = 0) (hP : PLA a) (hX : FXP σ0 a) (hK : KN σ0 a Sp.2.2.2 (act Sp.2.2.2)) : En 3 66 none mr_61 (P_61x σ0 By Nb Sp a f sg) 0 [(0, .ref 3), (1, .ref a)] [] σ0 := by
  obtain ⟨hl_f, hu_f⟩ := WT_int hσ0 (g := 3) (by decide +kernel) (by decide +kernel) (l := 0) (u := 3) (by decide +kernel) h_f
  obtain ⟨hl_sg, hu_sg⟩ := WT_int hσ0 (g := 18) ha (by decide +kernel) (l := (-1)) (u := 4) (by decide +kernel) h_sg
  have hF0 : Fr [(3, 1), (3, 2), (3, 3), (3, 4), (3, 5), (3, 6), (26, 0)] σ0 σ0 := Fr_rfl
  have h1 := CT_k hC h_f
  obtain ⟨z3, h2, h4, h5⟩ := WT_peekI hσ0 ha (by decide +kernel : FT 18 11 = (0, 0, 6)) (by decide +kernel)
  have h6 : Sp.2.2.2 5 = z3.toInt := KN_v hK (Or.inl (by decide)) (by decide) (by decide) (by rw [lcO_lt (by decide) (by decide), Nat.add_zero]) rfl h2
  refine En_Ps 1 (pc' := 1) (lv' := [(0, .ref 3), (1, .ref a)]) (st' := [.ref 3]) rfl ?_
  obtain ⟨z8, h7, h9, h10⟩ := WT_peekI hσ0 (by decide +kernel : TG 3 = 3) (by decide +kernel : FT 3 3 = (0, 0, 1600)) (by decide +kernel)
  refine En_callV rfl rfl rfl rfl rfl rfl rfl rfl (by decide +kernel : TG 3 = 3) (by decide +kernel) rfl (c_72x σ0 hσ0 z8 h7 hC.1 (CT_at hC (by omega) h7)) (by decide) (by decide) (fun v12 σ13 h11 => ?_)
  obtain ⟨h14, h15, rfl, h16⟩ := h11
  have h17 := h16
  have h18 := Fr_trans hF0 h15 (by decide +kernel)
  obtain ⟨S19, h20⟩ : ∃ q : PS, q = adv By Nb Sp := ⟨_, rfl⟩
  have h21 : CT By Nb σ13 S19 := by rw [h20]; exact (CT_adv hC (by omega) h7 h15 (by decide +kernel) h17.2)
  have h22 := CT_k h21 ((h15 _ _ (inW (by decide +kernel : TG 3 = 3) (by decide +kernel))).trans h_f)
  have h23 : S19.2.2.2 = Sp.2.2.2 := by rw [h20]; exact adv_w
  have h24 : S19.1 = Sp.1 := by rw [h20]; exact adv_1
  have h25 := KN_fr hP hK h15 (by decide +kernel)
  have h26 : S19.2.2.2 = Sp.2.2.2 := h23.trans (rfl : Sp.2.2.2 = Sp.2.2.2)
  have o27 := OUT_fr OUT_0 h15 (by decide +kernel)
  refine En_Ps 3 (pc' := 7) (lv' := [(0, .ref 3), (1, .ref a)]) (st' := [.ref a, .int ((Int32.ofInt 0)), .ref 3]) rfl ?_
  refine En_getK (j := 11) ((h15 _ _ (inW ha (by decide +kernel))).trans h2) rfl rfl rfl ha (by decide +kernel) ?_
  refine En_Ps 2 (pc' := 12) (lv' := [(0, .ref 3), (1, .ref a)]) (st' := [.int ((z3 - ((Int32.ofInt 1)))), .int ((Int32.ofInt 0)), .ref 3]) rfl ?_
  refine En_top (subI rfl (by decide : (Int32.ofInt 1).toInt = 1) (by omega) (by omega)) (fun z28 h29 => ?_)
  have := (by decide : ((Int32.ofInt 0)).toInt = 0)
  refine En_callV rfl rfl rfl rfl rfl rfl rfl rfl (by decide +kernel : TG 3 = 3) (by decide +kernel) rfl (c_73x σ13 h14 ((Int32.ofInt 0)) z28 f ((h15 _ _ (inW (by decide +kernel : TG 3 = 3) (by decide +kernel))).trans h_f) h21) (by decide) (by decide) (fun v31 σ32 h30 => ?_)
  obtain ⟨h33, h34, z36, h37, z38, rfl, h35⟩ := h30
  have h39 := h35.2.2.2.2.2.2.2.2.2.2
  have h40 := Fr_trans h18 h34 (by decide +kernel)
  have h41 : tN By Nb ((Int32.ofInt 0)).toInt z28.toInt S19 = tN By Nb (0) (Sp.2.2.2 5 - 1) S19 := tN_cg2 (fun zz => by omega) (fun zz => by omega)
  obtain ⟨S42, h43⟩ : ∃ q : PS, q = tN By Nb (0) (Sp.2.2.2 5 - 1) S19 := ⟨_, rfl⟩
  have h44 : CT By Nb σ32 S42 := by rw [h43]; exact (CT_eq h39.1 h41)
  have h45 := CT_k h44 h37
  have h46 : Imp (S42.1 = 0) (z38.toInt = tV By Nb S19.2.2.1) := fun z => Imp_m h39.2 (by rw [h41, ← h43]; exact z)
  have h47 : Imp (S42.1 = 0) (S19.1 = 0 ∧ tK By Nb S19.2.2.1 = 2 ∧ 0 ≤ tV By Nb S19.2.2.1 ∧ tV By Nb S19.2.2.1 ≤ Sp.2.2.2 5 - 1) := fun z => tN_gg (by rw [← h43]; exact z)
  have h48 : S42.2.2.2 = S19.2.2.2 := by rw [h43]; exact tN_w
  have h49 := KN_fr hP h25 h34 (by decide +kernel)
  have h50 : S42.2.2.2 = Sp.2.2.2 := h48.trans h26
  have o51 := OUT_fr o27 h34 (by decide +kernel)
  have h52 := Imp_m h35.2.2.2.2.2.2.2.2.1 (by omega)
  have h53 := Imp_m h35.2.2.2.2.2.2.2.2.2.1 (by omega)
  refine En_Ps 5 (pc' := 20) (lv' := [(2, .int z38), (0, .ref 3), (1, .ref a)]) (st' := [.int ((z38 + ((Int32.ofInt 1)))), .ref 3]) rfl ?_
  refine En_top (addI rfl (by decide : (Int32.ofInt 1).toInt = 1) (by omega) (by omega)) (fun z54 h55 => ?_)
  refine En_Ps 1 (pc' := 21) (lv' := [(2, .int z38), (0, .ref 3), (1, .ref a)]) (st' := [.ref a, .int z54, .ref 3]) rfl ?_
  refine En_getK (j := 11) ((h34 _ _ (inW ha (by decide +kernel))).trans ((h15 _ _ (inW ha (by decide +kernel))).trans h2)) rfl rfl rfl ha (by decide +kernel) ?_
  refine En_Ps 2 (pc' := 26) (lv' := [(2, .int z38), (0, .ref 3), (1, .ref a)]) (st' := [.int ((z3 - ((Int32.ofInt 1)))), .int z54, .ref 3]) rfl ?_
  refine En_top (subI rfl (by decide : (Int32.ofInt 1).toInt = 1) (by omega) (by omega)) (fun z56 h57 => ?_)
  refine En_callV rfl rfl rfl rfl rfl rfl rfl rfl (by decide +kernel : TG 3 = 3) (by decide +kernel) rfl (c_73x σ32 h33 z54 z56 z36 h37 h44) (by decide) (by decide) (fun v59 σ60 h58 => ?_)
  obtain ⟨h61, h62, z64, h65, z66, rfl, h63⟩ := h58
  have h67 := h63.2.2.2.2.2.2.2.2.2.2
  have h68 := Fr_trans h40 h62 (by decide +kernel)
  have h69 : tN By Nb z54.toInt z56.toInt S42 = tN By Nb ((tV By Nb S19.2.2.1) + 1) (Sp.2.2.2 5 - 1) S42 := tN_cg2 (fun zz => by (try have i0 := Imp_m h47 (by omega)); (try have i1 := Imp_m h46 (by omega)); (try have i2 := Imp_m h35.2.2.2.2.2.2.1 (by omega)); (try have i3 := Imp_m h35.2.2.2.2.2.2.2.1 (by omega)); omega) (fun zz => by (try have i0 := Imp_m h47 (by omega)); (try have i1 := Imp_m h46 (by omega)); (try have i2 := Imp_m h35.2.2.2.2.2.2.1 (by omega)); (try have i3 := Imp_m h35.2.2.2.2.2.2.2.1 (by omega)); omega)
  obtain ⟨S70, h71⟩ : ∃ q : PS, q = tN By Nb ((tV By Nb S19.2.2.1) + 1) (Sp.2.2.2 5 - 1) S42 := ⟨_, rfl⟩
  have h72 : CT By Nb σ60 S70 := by rw [h71]; exact (CT_eq h67.1 h69)
  have h73 := CT_k h72 h65
  have h74 : Imp (S70.1 = 0) (z66.toInt = tV By Nb S42.2.2.1) := fun z => Imp_m h67.2 (by rw [h69, ← h71]; exact z)
  have h75 : Imp (S70.1 = 0) (S42.1 = 0 ∧ tK By Nb S42.2.2.1 = 2 ∧ (tV By Nb S19.2.2.1) + 1 ≤ tV By Nb S42.2.2.1 ∧ tV By Nb S42.2.2.1 ≤ Sp.2.2.2 5 - 1) := fun z => tN_gg (by rw [← h71]; exact z)
  have h76 : S70.2.2.2 = S42.2.2.2 := by rw [h71]; exact tN_w
  have h77 := KN_fr hP h49 h62 (by decide +kernel)
  have h78 : S70.2.2.2 = Sp.2.2.2 := h76.trans h50
  have o79 := OUT_fr o51 h62 (by decide +kernel)
  have h80 := Imp_m h63.2.2.2.2.2.2.2.2.1 (by omega)
  have h81 := Imp_m h63.2.2.2.2.2.2.2.2.2.1 (by omega)
  refine En_Ps 2 (pc' := 31) (lv' := [(3, .int z66), (2, .int z38), (0, .ref 3), (1, .ref a)]) (st' := [.ref 3]) rfl ?_
  refine En_getK (j := 5) h65 rfl rfl rfl (by decide +kernel : TG 3 = 3) (by decide +kernel) ?_
  refine En_iNe _ rfl rfl (fun h82 => ?_) (fun h82 => ?_)
  · have h83 := Imp_m h63.2.2.2.2.2.2.2.1 (by omega)
    have h84 : fAhead By Nb Sp = S70 := by unfold fAhead; (try dsimp only); first | (rw [← h20, ← h43, ← h71]; first | done | rfl) | (rw [← h20, ← h43, ← h71]; rw [if_pos (by omega)]; first | done | rfl) | (rw [← h20, ← h43, ← h71]; rw [if_neg (by omega)]; first | done | rfl) | (rw [← h20, ← h43, ← h71]; rw [if_neg (by omega), if_pos (by omega)]; first | done | rfl) | (rw [← h20, ← h43, ← h71]; rw [if_neg (by omega), if_neg (by omega)]; first | done | rfl) | (rw [← h20, ← h43, ← h71]; rw [if_neg (by omega), if_neg (by omega), if_neg (by omega)]; first | done | rfl)
    exact En_ret (v := none) rfl rfl rfl ⟨h61, h68, z64, h65, rfl, ⟨o79, by omega, by omega, by omega, by omega, by omega, by omega, by omega, (by rw [h84]; exact ⟨h72, fun z => absurd z (by omega)⟩)⟩⟩
  · have h85 := Imp_m h35.2.2.2.2.2.2.1 (by omega)
    have h86 := Imp_m h63.2.2.2.2.2.2.1 (by omega)
    try have h87 := Imp_m h75 (by omega)
    try have h88 := Imp_m h74 (by omega)
    try have h89 := Imp_m h47 (by omega)
    try have h90 := Imp_m h46 (by omega)
    refine En_Ps 1 (pc' := 38) (lv' := [(3, .int z66), (2, .int z38), (0, .ref 3), (1, .ref a)]) (st' := [.ref a]) rfl ?_
    refine En_getR (j := 13) (g' := 26) (u := 0) rfl rfl rfl ha (by decide +kernel) h61 (by decide +kernel) (fun a92 h91 ha92 => ?_)
    refine En_Ps 2 (pc' := 43) (lv' := [(3, .int z66), (2, .int z38), (0, .ref 3), (1, .ref a)]) (st' := [.int z66, .ref a92, .int z66, .ref a92]) rfl ?_
    refine En_iald (l := 0) (u := 63) rfl rfl ha92 (by decide +kernel) h61 (by omega) (lnI (by decide +kernel : LN _ = 6) (by omega)) (FTsgl (by decide +kernel)) (fun z94 h93 h95 h96 => ?_)
    have h99 : a92 = a + 8 := ref_uniq h91 (FXP_fr hP hX h68 (by decide +kernel)).2.2.2.2.2.1
    have h98 := lc_c (m := (tV By Nb S42.2.2.1)) (by omega) (by omega)
    have h97 : Sp.2.2.2 (155 + 2 * (tV By Nb S42.2.2.1)) = z94.toInt := KN_v h77 (Or.inr (Or.inr (Or.inr (Or.inr (Or.inr (Or.inl ⟨by omega, by omega, Or.inl (by omega)⟩)))))) (by omega) (by omega) (by omega) (by omega) h93
    refine En_Ps 4 (pc' := 48) (lv' := [(3, .int z66), (2, .int z38), (0, .ref 3), (1, .ref a)]) (st' := [.int ((z94 ||| ((Int32.ofInt 1) <<< (z38 &&& 31)))), .int z66, .ref a92]) rfl ?_
    refine En_nam (fun z100 h101 => ?_)
    have h102 := orP_v (x := z94) (y := z38) h101 rfl rfl (by omega) (by omega) (by omega) (by omega)
    have h103 : z100.toInt = orP (Sp.2.2.2 (155 + 2 * (tV By Nb S42.2.2.1))) (tV By Nb S19.2.2.1) := by rw [h102.1]; exact orP_cg (by omega) (by omega)
    refine En_iast (l := 0) (u := 63) rfl rfl ha92 (by decide +kernel) (by omega) (lnI (by decide +kernel : LN _ = 6) (by omega)) (FTsgl (by decide +kernel)) (rngI rfl (by omega) (by omega)) h61 h68 (by decide +kernel) (fun σ104 h105 h106 h107 h108 => ?_)
    have h109 : a92 = a + 8 := ref_uniq ((h108 _ _ (Or.inl (neTG ha ha92 (by decide)))).trans h91) (FXP_fr hP hX h106 (by decide +kernel)).2.2.2.2.2.1
    have h110 := lc_c (m := (tV By Nb S42.2.2.1)) (by omega) (by omega)
    obtain ⟨S111, h112⟩ : ∃ q : PS, q = wst S70 (155 + 2 * (tV By Nb S42.2.2.1)) (orP (Sp.2.2.2 (155 + 2 * (tV By Nb S42.2.2.1))) (tV By Nb S19.2.2.1)) := ⟨_, rfl⟩
    have h113 : CT By Nb σ104 S111 := by rw [h112]; exact CT_wst (CT_ne h72 h108 (by have := hP; unfold PLA at this; omega))
    have h114 : KN σ104 a (uPd Sp.2.2.2 (155 + 2 * (tV By Nb S42.2.2.1)) (orP (Sp.2.2.2 (155 + 2 * (tV By Nb S42.2.2.1))) (tV By Nb S19.2.2.1))) (fun t => (act Sp.2.2.2 t ∨ t = 155 + 2 * (tV By Nb S42.2.2.1))) := KN_st h77 h107 h108 (by omega) (by omega) (by omega) (by omega) (by (try have i0 := Imp_m h75 (by omega)); (try have i1 := Imp_m h74 (by omega)); (try have i2 := Imp_m h47 (by omega)); (try have i3 := Imp_m h46 (by omega)); (try have i4 := Imp_m h35.2.2.2.2.2.2.2.1 (by omega)); (try have i5 := Imp_m h63.2.2.2.2.2.2.2.1 (by omega)); omega)
    have h115 : S111.2.2.2 = (uPd Sp.2.2.2 (155 + 2 * (tV By Nb S42.2.2.1)) (orP (Sp.2.2.2 (155 + 2 * (tV By Nb S42.2.2.1))) (tV By Nb S19.2.2.1))) := by rw [h112]; show uPd S70.2.2.2 _ _ = _; rw [h78]
    have h116 : S111.1 = S70.1 := by rw [h112]; rfl
    have h117 := CT_k h113 ((h108 _ _ (Or.inl (neTG (by decide +kernel : TG 3 = 3) ha92 (by decide)))).trans h65)
    have o118 := OUT_st o79 h108 (by omega)
    have h119 : fAhead By Nb Sp = S111 := by unfold fAhead; (try dsimp only); first | (rw [← h20, ← h43, ← h71, ← h112]; first | done | rfl) | (rw [← h20, ← h43, ← h71, ← h112]; rw [if_pos (by omega)]; first | done | rfl) | (rw [← h20, ← h43, ← h71, ← h112]; rw [if_neg (by omega)]; first | done | rfl) | (rw [← h20, ← h43, ← h71, ← h112]; rw [if_neg (by omega), if_pos (by omega)]; first | done | rfl) | (rw [← h20, ← h43, ← h71, ← h112]; rw [if_neg (by omega), if_neg (by omega)]; first | done | rfl) | (rw [← h20, ← h43, ← h71, ← h112]; rw [if_neg (by omega), if_neg (by omega), if_neg (by omega)]; first | done | rfl)
    exact En_ret (v := none) rfl rfl rfl ⟨h105, h106, z64, ((h108 _ _ (Or.inl (neTG (by decide +kernel : TG 3 = 3) ha92 (by decide)))).trans h65), rfl, ⟨o118, by omega, by omega, by omega, by omega, by omega, by omega, by omega, (by rw [h119]; exact ⟨h113, fun zz => by rw [h115]; exact KN_sub h114 (fun t t0 t1 y => Or.inl (act_in (by omega) (by omega) y))⟩)⟩⟩
/-- DoorSchool$Reader.read(LDoorSchool$Plan;)V -/
abbrev P_60x (σ0 : SG) (By : Int → Int) (Nb : Int) (a : Nat) : PO := fun v σ => WT σ ∧ Fr [(3, 1), (3, 2), (3, 3), (3, 4), (3, 5), (3, 6), (18, 0), (18, 1), (18, 2), (18, 3), (18, 6), (18, 7), (18, 8), (18, 11), (18, 14), (20, 2), (21, 0), (22, 0), (23, 0), (24, 0), (25, 0), (26, 0), (28, 1), (28, 2), (28, 3)] σ0 σ ∧ ∃ f1 : Int32, (σ 3)[5]? = some (.int f1) ∧ ∃ sg1 : Int32, (σ a)[1]? = some (.int sg1) ∧ v = none ∧ OUT σ0 σ a ∧ -f1.toInt ≤ 0 ∧ f1.toInt - 3 ≤ 0 ∧ -sg1.toInt - 1 ≤ 0 ∧ sg1.toInt - 4 ≤ 0 ∧ -sg1.toInt - f1.toInt ≤ 0 ∧ (OTH a σ0 σ ∧ RDC By Nb a σ)
set_option maxRecDepth 10000 in
set_option maxHeartbeats 4000000 in
theorem c_60x {By : Int → Int} {Nb : Int} (σ0 : SG) (hσ0 : WT σ0) (a : Nat) (ha : TG a = 18) (hB : TPc By Nb σ0) (hP : PLA a) (hX : FXP σ0 a) : En 7 159 none mr_60 (P_60x σ0 By Nb a) 0 [(0, .ref 3), (1, .ref a)] [] σ0 := by
  have hF0 : Fr [(3, 1), (3, 2), (3, 3), (3, 4), (3, 5), (3, 6), (18, 0), (18, 1), (18, 2), (18, 3), (18, 6), (18, 7), (18, 8), (18, 11), (18, 14), (20, 2), (21, 0), (22, 0), (23, 0), (24, 0), (25, 0), (26, 0), (28, 1), (28, 2), (28, 3)] σ0 σ0 := Fr_rfl
  refine En_Ps 2 (pc' := 2) (lv' := [(0, .ref 3), (1, .ref a)]) (st' := [.int ((Int32.ofInt 0)), .ref 3]) rfl ?_
  refine En_put (j := 5) rfl rfl rfl (by decide +kernel : TG 3 = 3) (by decide +kernel) rfl (vI (l := 0) (u := 3) (by decide +kernel) (by decide : (Int32.ofInt 0).toInt = 0) (by omega) (by omega)) hσ0 hF0 (by decide +kernel) (fun σ1 h2 h3 h4 h5 => ?_)
  have h6 := OTH_pn (OTH_0 (a := a) (σ := σ0)) h5 (by decide +kernel : TG 3 = 3) (by decide)
  have o7 := OUT_pn OUT_0 h5 (by decide +kernel : TG 3 = 3) (by decide)
  refine En_Ps 2 (pc' := 7) (lv' := [(0, .ref 3), (1, .ref a)]) (st' := [.int ((Int32.ofInt (-1))), .ref 3]) rfl ?_
  refine En_put (j := 6) rfl rfl rfl (by decide +kernel : TG 3 = 3) (by decide +kernel) rfl (vI (l := (-1)) (u := 1600) (by decide +kernel) (by decide : (Int32.ofInt (-1)).toInt = -1) (by omega) (by omega)) h2 h3 (by decide +kernel) (fun σ8 h9 h10 h11 h12 => ?_)
  have h13 := OTH_pn h6 h12 (by decide +kernel : TG 3 = 3) (by decide)
  have o14 := OUT_pn o7 h12 (by decide +kernel : TG 3 = 3) (by decide)
  refine En_Ps 2 (pc' := 12) (lv' := [(0, .ref 3), (1, .ref a)]) (st' := [.int ((Int32.ofInt 0)), .ref 3]) rfl ?_
  refine En_put (j := 3) rfl rfl rfl (by decide +kernel : TG 3 = 3) (by decide +kernel) rfl (vI (l := 0) (u := 1600) (by decide +kernel) (by decide : (Int32.ofInt 0).toInt = 0) (by omega) (by omega)) h9 h10 (by decide +kernel) (fun σ15 h16 h17 h18 h19 => ?_)
  have h20 := OTH_pn h13 h19 (by decide +kernel : TG 3 = 3) (by decide)
  have o21 := OUT_pn o14 h19 (by decide +kernel : TG 3 = 3) (by decide)
  refine En_Ps 1 (pc' := 16) (lv' := [(0, .ref 3), (1, .ref a)]) (st' := [.ref a]) rfl ?_
  refine En_callV rfl rfl rfl rfl rfl rfl rfl rfl ha (by decide +kernel) rfl (c_42x σ15 h16 a ha hP (FXP_fr hP hX h17 (by decide +kernel))) (by decide) (by decide) (fun v23 σ24 h22 => ?_)
  obtain ⟨h25, h26, z28, h29, z30, h31, rfl, h27⟩ := h22
  have h32 := h27.2.2.2.2.2.2.2.2.2
  have h33 := Fr_trans h17 h26 (by decide +kernel)
  have h34 := OTH_tr h20 h32.1
  have o35 := OUT_tr o21 h27.1
  refine En_Ps 1 (pc' := 20) (lv' := [(0, .ref 3), (1, .ref a)]) (st' := [.ref 3]) rfl ?_
  refine En_callV rfl rfl rfl rfl rfl rfl rfl rfl (by decide +kernel : TG 3 = 3) (by decide +kernel) rfl (c_72x σ24 h25 ((Int32.ofInt 0)) ((h26 _ _ (inW (by decide +kernel : TG 3 = 3) (by decide +kernel))).trans h18) (TPc_fr hB h33 (by decide +kernel)) (by have := (by decide : (Int32.ofInt 0).toInt = 0); have := hB.1; omega)) (by decide) (by decide) (fun v37 σ38 h36 => ?_)
  obtain ⟨h39, h40, rfl, h41⟩ := h36
  have h42 := h41
  have h43 := Fr_trans h33 h40 (by decide +kernel)
  have h44 := OTH_fr h34 h40 (by decide +kernel)
  have h45 := KN_fr hP h32.2 h40 (by decide +kernel)
  have o46 := OUT_fr o35 h40 (by decide +kernel)
  refine En_Ps 2 (pc' := 25) (lv' := [(2, .int ((Int32.ofInt 0))), (0, .ref 3), (1, .ref a)]) (st' := []) rfl ?_
  have key25 : ∀ (n25 : Nat) (σ195 : SG) (y47 : Int32) (y48 : Int32) (y49 : Int32) (y50 : Int32), WT σ195 → Fr [(3, 1), (3, 2), (3, 3), (3, 4), (3, 5), (3, 6), (18, 0), (18, 1), (18, 2), (18, 3), (18, 6), (18, 7), (18, 8), (18, 11), (18, 14), (20, 2), (21, 0), (22, 0), (23, 0), (24, 0), (25, 0), (26, 0), (28, 1), (28, 2), (28, 3)] σ0 σ195 → (σ195 3)[5]? = some (.int y48) → (σ195 a)[0]? = some (.int y49) → (σ195 a)[1]? = some (.int y50) → 0 ≤ y47.toInt → y47.toInt ≤ 1601 → 0 ≤ y48.toInt → y48.toInt ≤ 3 → 0 ≤ y49.toInt → y49.toInt ≤ 1601 → (-1) ≤ y50.toInt → y50.toInt ≤ 4 → -y50.toInt - y48.toInt ≤ 0 → -y50.toInt - y49.toInt ≤ 0 → y47.toInt - y49.toInt + z28.toInt ≤ 0 → -z28.toInt - y47.toInt + y49.toInt ≤ 0 → -y47.toInt + 1601 < (n25 : Int) → OTH a σ0 σ195 → RLI By Nb a σ195 y47.toInt → OUT σ0 σ195 a → En 7 159 none mr_60 (P_60x σ0 By Nb a) 25 [(0, .ref 3), (1, .ref a), (2, .int y47)] [] σ195 := by
    intro n25
    induction n25 with
    | zero =>
      intro σ195 y47 y48 y49 y50 h196 h197 h198 h199 h200 h201 h202 h203 h204 h205 h206 h207 h208 h209 h210 h211 h212 h213 h214 h215 h216
      obtain ⟨S217, f218, h219, h220, h221, h222⟩ := h215
      exfalso; omega
    | succ n25 ih25 =>
      intro σ195 y47 y48 y49 y50 h196 h197 h198 h199 h200 h201 h202 h203 h204 h205 h206 h207 h208 h209 h210 h211 h212 h213 h214 h215 h216
      obtain ⟨S235, f236, h237, h238, h239, h240⟩ := h215
      refine En_Ps 2 (pc' := 29) (lv' := [(0, .ref 3), (1, .ref a), (2, .int y47)]) (st' := [.int (((Int16.ofInt 1600).toInt32)), .int y47]) rfl ?_
      refine En_icGt _ rfl (by decide : ((Int16.ofInt 1600).toInt32).toInt = 1600) rfl (fun h241 => ?_) (fun h241 => ?_)
      · exact En_ret (v := none) rfl rfl rfl ⟨h196, h197, y48, h198, y50, h200, rfl, ⟨h216, by omega, by omega, by omega, by omega, by omega, ⟨h214, RLI_x h237 h238 h239 (fun zz => by omega)⟩⟩⟩
      · refine En_Ps 1 (pc' := 33) (lv' := [(0, .ref 3), (1, .ref a), (2, .int y47)]) (st' := [.ref 3]) rfl ?_
        refine En_getI (j := 1) (l := 0) (u := 4) rfl rfl rfl (by decide +kernel : TG 3 = 3) (by decide +kernel) h196 (by decide +kernel) (fun z243 h242 h244 h245 => ?_)
        have h246 := CT_k h237 h198
        have h247 : Imp (S235.1 = 0) (tK By Nb S235.2.2.1 = z243.toInt) := CT_t h237 h242
        refine En_iEq _ rfl rfl (fun h248 => ?_) (fun h248 => ?_)
        · exact En_ret (v := none) rfl rfl rfl ⟨h196, h197, y48, h198, y50, h200, rfl, ⟨h216, by omega, by omega, by omega, by omega, by omega, ⟨h214, RLI_x h237 h238 h239 (fun zz => by (try have i0 := Imp_m h247 (by omega)); omega)⟩⟩⟩
        · refine En_Ps 1 (pc' := 40) (lv' := [(0, .ref 3), (1, .ref a), (2, .int y47)]) (st' := [.ref 3]) rfl ?_
          refine En_getK (j := 5) h198 rfl rfl rfl (by decide +kernel : TG 3 = 3) (by decide +kernel) ?_
          have h249 := CT_k h237 h198
          refine En_iNe _ rfl rfl (fun h250 => ?_) (fun h250 => ?_)
          · exact En_ret (v := none) rfl rfl rfl ⟨h196, h197, y48, h198, y50, h200, rfl, ⟨h216, by omega, by omega, by omega, by omega, by omega, ⟨h214, RLI_x h237 h238 h239 (fun zz => by (try have i0 := Imp_m h247 (by omega)); omega)⟩⟩⟩
          · have h251 : S235.1 = 0 := by omega
            try have h255 := Imp_m h247 (by omega)
            obtain ⟨h252, h253⟩ := h238 h251
            have h254 : S235.2.2.2 7 = y49.toInt := KN_v h252 (Or.inl (by decide)) (by decide) (by decide) (by rw [lcO_lt (by decide) (by decide), Nat.add_zero]) (by decide) h199
            have keyj199 : ∀ (σ256 : SG) (y259 : Int32) (y263 : Int32) (y267 : Int32), WT σ256 → Fr [(3, 1), (3, 2), (3, 3), (3, 4), (3, 5), (3, 6), (18, 0), (18, 1), (18, 2), (18, 3), (18, 6), (18, 7), (18, 8), (18, 11), (18, 14), (20, 2), (21, 0), (22, 0), (23, 0), (24, 0), (25, 0), (26, 0), (28, 1), (28, 2), (28, 3)] σ0 σ256 → (σ256 3)[5]? = some (.int y259) → 0 ≤ y259.toInt → y259.toInt ≤ 3 → (σ256 a)[1]? = some (.int y263) → (-1) ≤ y263.toInt → y263.toInt ≤ 4 → (σ256 a)[0]? = some (.int y267) → 0 ≤ y267.toInt → y267.toInt ≤ 1601 → -y263.toInt - y259.toInt ≤ 0 → y267.toInt - y49.toInt ≤ 0 ∧ -y267.toInt + y49.toInt ≤ 0 → OTH a σ0 σ256 → CT By Nb σ256 (fL1 By Nb S235) → Imp ((fL1 By Nb S235).1 = 0) (KN σ256 a (fL1 By Nb S235).2.2.2 (act (fL1 By Nb S235).2.2.2)) → En 7 159 none mr_60 (P_60x σ0 By Nb a) 199 [(0, .ref 3), (1, .ref a), (2, .int y47)] [] σ256 := by
              intro σ256 y259 y263 y267 h257 h258 h260 h261 h262 h264 h265 h266 h268 h269 h270 h271 h272 h273 h274 h275
              refine En_Ps 2 (pc' := 201) (lv' := [(0, .ref 3), (1, .ref a), (2, .int y47)]) (st' := [.ref 3, .ref 3]) rfl ?_
              refine En_getI (j := 1) (l := 0) (u := 4) rfl rfl rfl (by decide +kernel : TG 3 = 3) (by decide +kernel) h257 (by decide +kernel) (fun z277 h276 h278 h279 => ?_)
              have h280 := CT_k h274 h260
              have h281 : Imp ((fL1 By Nb S235).1 = 0) (tK By Nb (fL1 By Nb S235).2.2.1 = z277.toInt) := CT_t h274 h276
              refine En_Ps 1 (pc' := 205) (lv' := [(0, .ref 3), (1, .ref a), (2, .int y47)]) (st' := [.int ((Int32.ofInt 3)), .int z277, .ref 3]) rfl ?_
              refine En_icNe _ rfl (by decide : (Int32.ofInt 3).toInt = 3) rfl (fun h282 => ?_) (fun h282 => ?_)
              · refine En_Ps 1 (pc' := 213) (lv' := [(0, .ref 3), (1, .ref a), (2, .int y47)]) (st' := [.int ((Int32.ofInt 0)), .ref 3]) rfl ?_
                have := (by decide : ((Int32.ofInt 0)).toInt = 0)
                refine En_callV rfl rfl rfl rfl rfl rfl rfl rfl (by decide +kernel : TG 3 = 3) (by decide +kernel) rfl (c_59x σ256 h257 ((Int32.ofInt 0)) (geI (by decide : (Int32.ofInt 0).toInt = 0) (by omega)) (leI (by decide : (Int32.ofInt 0).toInt = 0) (by omega)) y259 h260 h274) (by decide) (by decide) (fun v284 σ285 h283 => ?_)
                obtain ⟨h286, h287, z289, h290, rfl, h288⟩ := h283
                have h291 := h288.2.2.2.2.2.2.2
                have h292 := Fr_trans h258 h287 (by decide +kernel)
                have h293 := OTH_fr h273 h287 (by decide +kernel)
                have h294 : pss By Nb ((Int32.ofInt 0)).toInt (fL1 By Nb S235) = pss By Nb (if tK By Nb (fL1 By Nb S235).2.2.1 = 3 then 1 else 0) (fL1 By Nb S235) := pss_cg2 (fun zz => by (try have i0 := Imp_m h281 (by omega)); first | (rw [if_pos (by omega)]; omega) | (rw [if_neg (by omega)]; omega))
                obtain ⟨S295, h296⟩ : ∃ q : PS, q = pss By Nb (if tK By Nb (fL1 By Nb S235).2.2.1 = 3 then 1 else 0) (fL1 By Nb S235) := ⟨_, rfl⟩
                have h297 : CT By Nb σ285 S295 := by rw [h296]; exact (CT_eq h291 h294)
                have h298 := CT_k h297 h290
                have h299 : S295.2.2.2 = (fL1 By Nb S235).2.2.2 := by rw [h296]; exact pss_w
                have h300 : Imp (S295.1 = 0) ((fL1 By Nb S235).1 = 0) := fun z => (pss_g (by rw [h294, ← h296]; exact z)).1
                have h301 : Imp (S295.1 = 0) (((Int32.ofInt 0)).toInt = 1) := fun z => (pss_g (by rw [h294, ← h296]; exact z)).2.1
                have h302 : Imp (S295.1 = 0) (KN σ285 a S295.2.2.2 (act S295.2.2.2)) := fun z => by (try have i0 := Imp_m h301 (by omega)); (try have i1 := Imp_m h300 (by omega)); (try have i2 := Imp_m h281 (by omega)); rw [h299]; exact KN_fr hP (Imp_m h275 (by omega)) h287 (by decide +kernel)
                have o303 := OUT_fr h216 h287 (by decide +kernel)
                have h304 := Imp_m h288.2.2.2.2.2.2.1 (by omega)
                refine En_Ps 2 (pc' := 218) (lv' := [(0, .ref 3), (1, .ref a), (2, .int y47)]) (st' := [.ref a, .ref a]) rfl ?_
                refine En_getK (j := 0) ((h287 _ _ (inW ha (by decide +kernel))).trans h268) rfl rfl rfl ha (by decide +kernel) ?_
                refine En_Ps 2 (pc' := 223) (lv' := [(0, .ref 3), (1, .ref a), (2, .int y47)]) (st' := [.int ((y267 + ((Int32.ofInt 1)))), .ref a]) rfl ?_
                refine En_top (addI rfl (by decide : (Int32.ofInt 1).toInt = 1) (by omega) (by omega)) (fun z305 h306 => ?_)
                refine En_put (j := 0) rfl rfl rfl ha (by decide +kernel) rfl (vI (l := 0) (u := 1601) (by decide +kernel) rfl (by omega) (by omega)) h286 h292 (by decide +kernel) (fun σ307 h308 h309 h310 h311 => ?_)
                have h312 := OTH_pj h293 h311 (by decide)
                obtain ⟨S313, h314⟩ : ∃ q : PS, q = wst S295 7 (S235.2.2.2 7 + 1) := ⟨_, rfl⟩
                have h315 : CT By Nb σ307 S313 := by rw [h314]; exact CT_wst (CT_ne h297 h311 (by have := hP; unfold PLA at this; omega))
                have h316 : Imp (S313.1 = 0) (KN σ307 a S313.2.2.2 (act S313.2.2.2)) := fun zz => by rw [h314] at zz ⊢; exact KN_sub (KN_st (j := 7) (v := S235.2.2.2 7 + 1) (Imp_m h302 zz) h310 h311 (by decide) (by decide) (by rw [lcO_lt (by decide) (by decide), Nat.add_zero]) (by decide) (by omega)) (fun t t0 t1 y => Or.inl (act_low (by decide) y))
                have h317 : fLine By Nb S235 = S313 := fL_line h296 h314
                have h318 : S313.2.2.2 7 = S235.2.2.2 7 + 1 := by rw [h314]; show (if (7 : Int) = 7 then S235.2.2.2 7 + 1 else S295.2.2.2 7) = S235.2.2.2 7 + 1; exact if_pos rfl
                have o319 := OUT_st o303 h311 (by omega)
                refine En_Ps 1 (pc' := 229) (lv' := [(2, .int ((y47 + Int32.ofInt 1))), (0, .ref 3), (1, .ref a)]) (st' := []) rfl ?_
                refine En_lv1 (addI rfl (by decide : (Int32.ofInt 1).toInt = 1) (by omega) (by omega)) (fun z320 h321 => ?_)
                refine En_Ps 1 (pc' := 25) (lv' := [(2, .int z320), (0, .ref 3), (1, .ref a)]) (st' := []) rfl ?_
                refine En_lv (lv := [(0, .ref 3), (1, .ref a), (2, .int z320)]) ⟨rfl, rfl, rfl, trivial⟩ ?_
                exact ih25 σ307 z320 z289 z305 y263 h308 h309 ((h311 _ _ (Or.inr (by decide))).trans h290) h310 ((h311 _ _ (Or.inr (by decide))).trans ((h287 _ _ (inW ha (by decide +kernel))).trans h264)) (by omega) (by omega) (by omega) (by omega) (by omega) (by omega) (by omega) (by omega) (by omega) (by omega) (by omega) (by omega) (by omega) (h312) (RLI_s h239 h240 (by omega) h251 (by omega) h317 h315 h316 h318 (by omega)) (o319)
              · refine En_Ps 2 (pc' := 213) (lv' := [(0, .ref 3), (1, .ref a), (2, .int y47)]) (st' := [.int ((Int32.ofInt 1)), .ref 3]) rfl ?_
                have := (by decide : ((Int32.ofInt 1)).toInt = 1)
                refine En_callV rfl rfl rfl rfl rfl rfl rfl rfl (by decide +kernel : TG 3 = 3) (by decide +kernel) rfl (c_59x σ256 h257 ((Int32.ofInt 1)) (geI (by decide : (Int32.ofInt 1).toInt = 1) (by omega)) (leI (by decide : (Int32.ofInt 1).toInt = 1) (by omega)) y259 h260 h274) (by decide) (by decide) (fun v323 σ324 h322 => ?_)
                obtain ⟨h325, h326, z328, h329, rfl, h327⟩ := h322
                have h330 := h327.2.2.2.2.2.2.2
                have h331 := Fr_trans h258 h326 (by decide +kernel)
                have h332 := OTH_fr h273 h326 (by decide +kernel)
                have h333 : pss By Nb ((Int32.ofInt 1)).toInt (fL1 By Nb S235) = pss By Nb (if tK By Nb (fL1 By Nb S235).2.2.1 = 3 then 1 else 0) (fL1 By Nb S235) := pss_cg2 (fun zz => by (try have i0 := Imp_m h281 (by omega)); first | (rw [if_pos (by omega)]; omega) | (rw [if_neg (by omega)]; omega))
                obtain ⟨S334, h335⟩ : ∃ q : PS, q = pss By Nb (if tK By Nb (fL1 By Nb S235).2.2.1 = 3 then 1 else 0) (fL1 By Nb S235) := ⟨_, rfl⟩
                have h336 : CT By Nb σ324 S334 := by rw [h335]; exact (CT_eq h330 h333)
                have h337 := CT_k h336 h329
                have h338 : S334.2.2.2 = (fL1 By Nb S235).2.2.2 := by rw [h335]; exact pss_w
                have h339 : Imp (S334.1 = 0) ((fL1 By Nb S235).1 = 0) := fun z => (pss_g (by rw [h333, ← h335]; exact z)).1
                have h340 : Imp (S334.1 = 0) (((Int32.ofInt 1)).toInt = 1) := fun z => (pss_g (by rw [h333, ← h335]; exact z)).2.1
                have h341 : Imp (S334.1 = 0) (KN σ324 a S334.2.2.2 (act S334.2.2.2)) := fun z => by (try have i0 := Imp_m h340 (by omega)); (try have i1 := Imp_m h339 (by omega)); (try have i2 := Imp_m h281 (by omega)); rw [h338]; exact KN_fr hP (Imp_m h275 (by omega)) h326 (by decide +kernel)
                have o342 := OUT_fr h216 h326 (by decide +kernel)
                have h343 := Imp_m h327.2.2.2.2.1 (by omega)
                refine En_Ps 2 (pc' := 218) (lv' := [(0, .ref 3), (1, .ref a), (2, .int y47)]) (st' := [.ref a, .ref a]) rfl ?_
                refine En_getK (j := 0) ((h326 _ _ (inW ha (by decide +kernel))).trans h268) rfl rfl rfl ha (by decide +kernel) ?_
                refine En_Ps 2 (pc' := 223) (lv' := [(0, .ref 3), (1, .ref a), (2, .int y47)]) (st' := [.int ((y267 + ((Int32.ofInt 1)))), .ref a]) rfl ?_
                refine En_top (addI rfl (by decide : (Int32.ofInt 1).toInt = 1) (by omega) (by omega)) (fun z344 h345 => ?_)
                refine En_put (j := 0) rfl rfl rfl ha (by decide +kernel) rfl (vI (l := 0) (u := 1601) (by decide +kernel) rfl (by omega) (by omega)) h325 h331 (by decide +kernel) (fun σ346 h347 h348 h349 h350 => ?_)
                have h351 := OTH_pj h332 h350 (by decide)
                obtain ⟨S352, h353⟩ : ∃ q : PS, q = wst S334 7 (S235.2.2.2 7 + 1) := ⟨_, rfl⟩
                have h354 : CT By Nb σ346 S352 := by rw [h353]; exact CT_wst (CT_ne h336 h350 (by have := hP; unfold PLA at this; omega))
                have h355 : Imp (S352.1 = 0) (KN σ346 a S352.2.2.2 (act S352.2.2.2)) := fun zz => by rw [h353] at zz ⊢; exact KN_sub (KN_st (j := 7) (v := S235.2.2.2 7 + 1) (Imp_m h341 zz) h349 h350 (by decide) (by decide) (by rw [lcO_lt (by decide) (by decide), Nat.add_zero]) (by decide) (by omega)) (fun t t0 t1 y => Or.inl (act_low (by decide) y))
                have h356 : fLine By Nb S235 = S352 := fL_line h335 h353
                have h357 : S352.2.2.2 7 = S235.2.2.2 7 + 1 := by rw [h353]; show (if (7 : Int) = 7 then S235.2.2.2 7 + 1 else S334.2.2.2 7) = S235.2.2.2 7 + 1; exact if_pos rfl
                have o358 := OUT_st o342 h350 (by omega)
                refine En_Ps 1 (pc' := 229) (lv' := [(2, .int ((y47 + Int32.ofInt 1))), (0, .ref 3), (1, .ref a)]) (st' := []) rfl ?_
                refine En_lv1 (addI rfl (by decide : (Int32.ofInt 1).toInt = 1) (by omega) (by omega)) (fun z359 h360 => ?_)
                refine En_Ps 1 (pc' := 25) (lv' := [(2, .int z359), (0, .ref 3), (1, .ref a)]) (st' := []) rfl ?_
                refine En_lv (lv := [(0, .ref 3), (1, .ref a), (2, .int z359)]) ⟨rfl, rfl, rfl, trivial⟩ ?_
                exact ih25 σ346 z359 z328 z344 y263 h347 h348 ((h350 _ _ (Or.inr (by decide))).trans h329) h349 ((h350 _ _ (Or.inr (by decide))).trans ((h326 _ _ (inW ha (by decide +kernel))).trans h264)) (by omega) (by omega) (by omega) (by omega) (by omega) (by omega) (by omega) (by omega) (by omega) (by omega) (by omega) (by omega) (by omega) (h351) (RLI_s h239 h240 (by omega) h251 (by omega) h356 h354 h355 h357 (by omega)) (o358)
            refine En_Ps 1 (pc' := 47) (lv' := [(0, .ref 3), (1, .ref a), (2, .int y47)]) (st' := [.int y47]) rfl ?_
            refine En_iNe _ rfl rfl (fun h361 => ?_) (fun h361 => ?_)
            · refine En_Ps 1 (pc' := 59) (lv' := [(0, .ref 3), (1, .ref a), (2, .int y47)]) (st' := [.ref 3]) rfl ?_
              refine En_ldcS (i := 2) rfl rfl rfl ?_
              refine En_callV rfl rfl rfl rfl rfl rfl rfl rfl (by decide +kernel : TG 3 = 3) (by decide +kernel) rfl (c_71s2x σ195 h196 h237) (by decide) (by decide) (fun v363 σ364 h362 => ?_)
              obtain ⟨h365, h366, z368, rfl, h367⟩ := h362
              have h369 := h367.2.2
              obtain rfl : σ195 = σ364 := Fr_nil h366
              have h370 := h369
              try have h371 := Imp_m h370 (by omega)
              try have h372 := Imp_m h247 (by omega)
              refine En_iEq _ rfl rfl (fun h373 => ?_) (fun h373 => ?_)
              · refine En_Ps 1 (pc' := 76) (lv' := [(0, .ref 3), (1, .ref a), (2, .int y47)]) (st' := [.ref 3]) rfl ?_
                refine En_ldcS (i := 6) rfl rfl rfl ?_
                refine En_callV rfl rfl rfl rfl rfl rfl rfl rfl (by decide +kernel : TG 3 = 3) (by decide +kernel) rfl (c_71s6x σ195 h196 h237) (by decide) (by decide) (fun v375 σ376 h374 => ?_)
                obtain ⟨h377, h378, z380, rfl, h379⟩ := h374
                have h381 := h379.2.2
                obtain rfl : σ195 = σ376 := Fr_nil h378
                have h382 := h381
                try have h383 := Imp_m h382 (by omega)
                try have h384 := Imp_m h370 (by omega)
                try have h385 := Imp_m h247 (by omega)
                refine En_iEq _ rfl rfl (fun h386 => ?_) (fun h386 => ?_)
                · refine En_Ps 1 (pc' := 93) (lv' := [(0, .ref 3), (1, .ref a), (2, .int y47)]) (st' := [.ref 3]) rfl ?_
                  refine En_ldcS (i := 3) rfl rfl rfl ?_
                  refine En_callV rfl rfl rfl rfl rfl rfl rfl rfl (by decide +kernel : TG 3 = 3) (by decide +kernel) rfl (c_71s3x σ195 h196 h237) (by decide) (by decide) (fun v388 σ389 h387 => ?_)
                  obtain ⟨h390, h391, z393, rfl, h392⟩ := h387
                  have h394 := h392.2.2
                  obtain rfl : σ195 = σ389 := Fr_nil h391
                  have h395 := h394
                  try have h396 := Imp_m h395 (by omega)
                  try have h397 := Imp_m h382 (by omega)
                  try have h398 := Imp_m h370 (by omega)
                  try have h399 := Imp_m h247 (by omega)
                  refine En_iEq _ rfl rfl (fun h400 => ?_) (fun h400 => ?_)
                  · refine En_Ps 1 (pc' := 110) (lv' := [(0, .ref 3), (1, .ref a), (2, .int y47)]) (st' := [.ref 3]) rfl ?_
                    refine En_ldcS (i := 17) rfl rfl rfl ?_
                    refine En_callV rfl rfl rfl rfl rfl rfl rfl rfl (by decide +kernel : TG 3 = 3) (by decide +kernel) rfl (c_71s17x σ195 h196 h237) (by decide) (by decide) (fun v402 σ403 h401 => ?_)
                    obtain ⟨h404, h405, z407, rfl, h406⟩ := h401
                    have h408 := h406.2.2
                    obtain rfl : σ195 = σ403 := Fr_nil h405
                    have h409 := h408
                    try have h410 := Imp_m h409 (by omega)
                    try have h411 := Imp_m h395 (by omega)
                    try have h412 := Imp_m h382 (by omega)
                    try have h413 := Imp_m h370 (by omega)
                    try have h414 := Imp_m h247 (by omega)
                    refine En_iEq _ rfl rfl (fun h415 => ?_) (fun h415 => ?_)
                    · refine En_Ps 1 (pc' := 127) (lv' := [(0, .ref 3), (1, .ref a), (2, .int y47)]) (st' := [.ref 3]) rfl ?_
                      refine En_ldcS (i := 9) rfl rfl rfl ?_
                      refine En_callV rfl rfl rfl rfl rfl rfl rfl rfl (by decide +kernel : TG 3 = 3) (by decide +kernel) rfl (c_71s9x σ195 h196 h237) (by decide) (by decide) (fun v417 σ418 h416 => ?_)
                      obtain ⟨h419, h420, z422, rfl, h421⟩ := h416
                      have h423 := h421.2.2
                      obtain rfl : σ195 = σ418 := Fr_nil h420
                      have h424 := h423
                      try have h425 := Imp_m h424 (by omega)
                      try have h426 := Imp_m h409 (by omega)
                      try have h427 := Imp_m h395 (by omega)
                      try have h428 := Imp_m h382 (by omega)
                      try have h429 := Imp_m h370 (by omega)
                      try have h430 := Imp_m h247 (by omega)
                      refine En_iEq _ rfl rfl (fun h431 => ?_) (fun h431 => ?_)
                      · refine En_Ps 1 (pc' := 144) (lv' := [(0, .ref 3), (1, .ref a), (2, .int y47)]) (st' := [.ref 3]) rfl ?_
                        refine En_ldcS (i := 5) rfl rfl rfl ?_
                        refine En_callV rfl rfl rfl rfl rfl rfl rfl rfl (by decide +kernel : TG 3 = 3) (by decide +kernel) rfl (c_71s5x σ195 h196 h237) (by decide) (by decide) (fun v433 σ434 h432 => ?_)
                        obtain ⟨h435, h436, z438, rfl, h437⟩ := h432
                        have h439 := h437.2.2
                        obtain rfl : σ195 = σ434 := Fr_nil h436
                        have h440 := h439
                        try have h441 := Imp_m h440 (by omega)
                        try have h442 := Imp_m h424 (by omega)
                        try have h443 := Imp_m h409 (by omega)
                        try have h444 := Imp_m h395 (by omega)
                        try have h445 := Imp_m h382 (by omega)
                        try have h446 := Imp_m h370 (by omega)
                        try have h447 := Imp_m h247 (by omega)
                        refine En_iEq _ rfl rfl (fun h448 => ?_) (fun h448 => ?_)
                        · refine En_Ps 1 (pc' := 161) (lv' := [(0, .ref 3), (1, .ref a), (2, .int y47)]) (st' := [.ref 3]) rfl ?_
                          refine En_ldcS (i := 1) rfl rfl rfl ?_
                          refine En_callV rfl rfl rfl rfl rfl rfl rfl rfl (by decide +kernel : TG 3 = 3) (by decide +kernel) rfl (c_71s1x σ195 h196 h237) (by decide) (by decide) (fun v450 σ451 h449 => ?_)
                          obtain ⟨h452, h453, z455, rfl, h454⟩ := h449
                          have h456 := h454.2.2
                          obtain rfl : σ195 = σ451 := Fr_nil h453
                          have h457 := h456
                          try have h458 := Imp_m h457 (by omega)
                          try have h459 := Imp_m h440 (by omega)
                          try have h460 := Imp_m h424 (by omega)
                          try have h461 := Imp_m h409 (by omega)
                          try have h462 := Imp_m h395 (by omega)
                          try have h463 := Imp_m h382 (by omega)
                          try have h464 := Imp_m h370 (by omega)
                          try have h465 := Imp_m h247 (by omega)
                          refine En_iEq _ rfl rfl (fun h466 => ?_) (fun h466 => ?_)
                          · refine En_Ps 1 (pc' := 178) (lv' := [(0, .ref 3), (1, .ref a), (2, .int y47)]) (st' := [.ref 3]) rfl ?_
                            refine En_ldcS (i := 0) rfl rfl rfl ?_
                            refine En_callV rfl rfl rfl rfl rfl rfl rfl rfl (by decide +kernel : TG 3 = 3) (by decide +kernel) rfl (c_71s0x σ195 h196 h237) (by decide) (by decide) (fun v468 σ469 h467 => ?_)
                            obtain ⟨h470, h471, z473, rfl, h472⟩ := h467
                            have h474 := h472.2.2
                            obtain rfl : σ195 = σ469 := Fr_nil h471
                            have h475 := h474
                            try have h476 := Imp_m h475 (by omega)
                            try have h477 := Imp_m h457 (by omega)
                            try have h478 := Imp_m h440 (by omega)
                            try have h479 := Imp_m h424 (by omega)
                            try have h480 := Imp_m h409 (by omega)
                            try have h481 := Imp_m h395 (by omega)
                            try have h482 := Imp_m h382 (by omega)
                            try have h483 := Imp_m h370 (by omega)
                            try have h484 := Imp_m h247 (by omega)
                            refine En_iEq _ rfl rfl (fun h485 => ?_) (fun h485 => ?_)
                            · refine En_Ps 2 (pc' := 196) (lv' := [(0, .ref 3), (1, .ref a), (2, .int y47)]) (st' := [.int ((Int32.ofInt 1)), .ref 3]) rfl ?_
                              have := (by decide : ((Int32.ofInt 1)).toInt = 1)
                              refine En_callV rfl rfl rfl rfl rfl rfl rfl rfl (by decide +kernel : TG 3 = 3) (by decide +kernel) rfl (c_54x σ195 h196 ((Int32.ofInt 1)) (geI (by decide : (Int32.ofInt 1).toInt = 1) (by omega)) (leI (by decide : (Int32.ofInt 1).toInt = 1) (by omega)) y48 h198 h237) (by decide) (by decide) (fun v487 σ488 h486 => ?_)
                              obtain ⟨h489, h490, z492, h493, rfl, h491⟩ := h486
                              have h494 := h491.2.2.2.2.2.2
                              have h495 := Fr_trans h197 h490 (by decide +kernel)
                              have h496 := OTH_fr h214 h490 (by decide +kernel)
                              obtain ⟨S497, h498⟩ : ∃ q : PS, q = err By Nb 1 S235 := ⟨_, rfl⟩
                              have h499 : CT By Nb σ488 S497 := by rw [h498]; exact (CT_eq h494 (err_cg (by omega)))
                              have h500 := CT_k h499 h493
                              have h501 : Imp (S497.1 = 0) (tK By Nb S497.2.2.1 = z243.toInt) := CT_t h499 ((h490 _ _ (inW (by decide +kernel : TG 3 = 3) (by decide +kernel))).trans h242)
                              have h502 : Imp (S497.1 = 0) (KN σ488 a S497.2.2.2 (act S497.2.2.2)) := fun z => by rw [h498] at z; exact absurd z (err_ne (by decide))
                              have o503 := OUT_fr h216 h490 (by decide +kernel)
                              have h504 := Imp_m h491.2.2.2.2.1 (by omega)
                              have h505 : fL1 By Nb S235 = S497 := by rw [h498]; exact (fL1_1 (by omega)).trans (fNx_n (by omega) (by omega) (by omega) (by omega) (by omega) (by omega) (by omega) (by omega))
                              exact keyj199 σ488 z492 y50 y49 h489 h495 h493 (by omega) (by omega) ((h490 _ _ (inW ha (by decide +kernel))).trans h200) (by omega) (by omega) ((h490 _ _ (inW ha (by decide +kernel))).trans h199) (by omega) (by omega) (by omega) (by omega) (h496) (CT_eq h499 h505.symm) (by rw [h505]; exact h502)
                            · refine En_Ps 2 (pc' := 188) (lv' := [(0, .ref 3), (1, .ref a), (2, .int y47)]) (st' := [.ref a, .ref 3]) rfl ?_
                              refine En_callV rfl rfl rfl rfl rfl rfl rfl rfl (by decide +kernel : TG 3 = 3) (by decide +kernel) rfl (c_61x σ195 h196 a ha y48 h198 y50 h200 (by omega) h237 (by omega) hP (FXP_fr hP hX h197 (by decide +kernel)) h252) (by decide) (by decide) (fun v507 σ508 h506 => ?_)
                              obtain ⟨h509, h510, z512, h513, rfl, h511⟩ := h506
                              have h514 := h511.2.2.2.2.2.2.2.2
                              have h515 := Fr_trans h197 h510 (by decide +kernel)
                              have h516 := OTH_fr h214 h510 (by decide +kernel)
                              obtain ⟨S517, h518⟩ : ∃ q : PS, q = fAhead By Nb S235 := ⟨_, rfl⟩
                              have h519 : CT By Nb σ508 S517 := by rw [h518]; exact h514.1
                              have h520 := CT_k h519 h513
                              have h521 : Imp (S517.1 = 0) (KN σ508 a S517.2.2.2 (act S517.2.2.2)) := fun z => by rw [h518] at z ⊢; exact h514.2 z
                              have o522 := OUT_tr h216 h511.1
                              refine En_Ps 1 (pc' := 199) (lv' := [(0, .ref 3), (1, .ref a), (2, .int y47)]) (st' := []) rfl ?_
                              have h523 : fL1 By Nb S235 = S517 := by rw [h518]; exact (fL1_1 (by omega)).trans (fNx_0 (by omega) (by omega) (by omega) (by omega) (by omega) (by omega) (by omega) (by omega))
                              exact keyj199 σ508 z512 y50 y49 h509 h515 h513 (by omega) (by omega) ((h510 _ _ (inW ha (by decide +kernel))).trans h200) (by omega) (by omega) ((h510 _ _ (inW ha (by decide +kernel))).trans h199) (by omega) (by omega) (by omega) (by omega) (h516) (CT_eq h519 h523.symm) (by rw [h523]; exact h521)
                          · refine En_Ps 2 (pc' := 171) (lv' := [(0, .ref 3), (1, .ref a), (2, .int y47)]) (st' := [.ref a, .ref 3]) rfl ?_
                            refine En_callV rfl rfl rfl rfl rfl rfl rfl rfl (by decide +kernel : TG 3 = 3) (by decide +kernel) rfl (c_62x σ195 h196 a ha y48 h198 y50 h200 (by omega) h237 (by omega) hP (FXP_fr hP hX h197 (by decide +kernel)) h252) (by decide) (by decide) (fun v525 σ526 h524 => ?_)
                            obtain ⟨h527, h528, z530, h531, rfl, h529⟩ := h524
                            have h532 := h529.2.2.2.2.2.2.2.2
                            have h533 := Fr_trans h197 h528 (by decide +kernel)
                            have h534 := OTH_fr h214 h528 (by decide +kernel)
                            obtain ⟨S535, h536⟩ : ∃ q : PS, q = fCourse By Nb S235 := ⟨_, rfl⟩
                            have h537 : CT By Nb σ526 S535 := by rw [h536]; exact h532.1
                            have h538 := CT_k h537 h531
                            have h539 : Imp (S535.1 = 0) (KN σ526 a S535.2.2.2 (act S535.2.2.2)) := fun z => by rw [h536] at z ⊢; exact h532.2 z
                            have o540 := OUT_tr h216 h529.1
                            refine En_Ps 1 (pc' := 199) (lv' := [(0, .ref 3), (1, .ref a), (2, .int y47)]) (st' := []) rfl ?_
                            have h541 : fL1 By Nb S235 = S535 := by rw [h536]; exact (fL1_1 (by omega)).trans (fNx_1 (by omega) (by omega) (by omega) (by omega) (by omega) (by omega) (by omega))
                            exact keyj199 σ526 z530 y50 y49 h527 h533 h531 (by omega) (by omega) ((h528 _ _ (inW ha (by decide +kernel))).trans h200) (by omega) (by omega) ((h528 _ _ (inW ha (by decide +kernel))).trans h199) (by omega) (by omega) (by omega) (by omega) (h534) (CT_eq h537 h541.symm) (by rw [h541]; exact h539)
                        · refine En_Ps 2 (pc' := 154) (lv' := [(0, .ref 3), (1, .ref a), (2, .int y47)]) (st' := [.ref a, .ref 3]) rfl ?_
                          refine En_callV rfl rfl rfl rfl rfl rfl rfl rfl (by decide +kernel : TG 3 = 3) (by decide +kernel) rfl (c_66x σ195 h196 a ha y48 h198 y50 h200 (by omega) h237 (by omega) hP (FXP_fr hP hX h197 (by decide +kernel)) h252) (by decide) (by decide) (fun v543 σ544 h542 => ?_)
                          obtain ⟨h545, h546, z548, h549, rfl, h547⟩ := h542
                          have h550 := h547.2.2.2.2.2.2.2.2
                          have h551 := Fr_trans h197 h546 (by decide +kernel)
                          have h552 := OTH_fr h214 h546 (by decide +kernel)
                          obtain ⟨S553, h554⟩ : ∃ q : PS, q = fHouse By Nb S235 := ⟨_, rfl⟩
                          have h555 : CT By Nb σ544 S553 := by rw [h554]; exact h550.1
                          have h556 := CT_k h555 h549
                          have h557 : Imp (S553.1 = 0) (KN σ544 a S553.2.2.2 (act S553.2.2.2)) := fun z => by rw [h554] at z ⊢; exact h550.2 z
                          have o558 := OUT_tr h216 h547.1
                          refine En_Ps 1 (pc' := 199) (lv' := [(0, .ref 3), (1, .ref a), (2, .int y47)]) (st' := []) rfl ?_
                          have h559 : fL1 By Nb S235 = S553 := by rw [h554]; exact (fL1_1 (by omega)).trans (fNx_5 (by omega) (by omega) (by omega) (by omega) (by omega) (by omega))
                          exact keyj199 σ544 z548 y50 y49 h545 h551 h549 (by omega) (by omega) ((h546 _ _ (inW ha (by decide +kernel))).trans h200) (by omega) (by omega) ((h546 _ _ (inW ha (by decide +kernel))).trans h199) (by omega) (by omega) (by omega) (by omega) (h552) (CT_eq h555 h559.symm) (by rw [h559]; exact h557)
                      · refine En_Ps 2 (pc' := 137) (lv' := [(0, .ref 3), (1, .ref a), (2, .int y47)]) (st' := [.ref a, .ref 3]) rfl ?_
                        refine En_callV rfl rfl rfl rfl rfl rfl rfl rfl (by decide +kernel : TG 3 = 3) (by decide +kernel) rfl (c_68x σ195 h196 a ha y48 h198 y50 h200 (by omega) h237 (by omega) hP (FXP_fr hP hX h197 (by decide +kernel)) h252) (by decide) (by decide) (fun v561 σ562 h560 => ?_)
                        obtain ⟨h563, h564, z566, h567, rfl, h565⟩ := h560
                        have h568 := h565.2.2.2.2.2.2.2.2
                        have h569 := Fr_trans h197 h564 (by decide +kernel)
                        have h570 := OTH_fr h214 h564 (by decide +kernel)
                        obtain ⟨S571, h572⟩ : ∃ q : PS, q = fOwner By Nb S235 := ⟨_, rfl⟩
                        have h573 : CT By Nb σ562 S571 := by rw [h572]; exact h568.1
                        have h574 := CT_k h573 h567
                        have h575 : Imp (S571.1 = 0) (KN σ562 a S571.2.2.2 (act S571.2.2.2)) := fun z => by rw [h572] at z ⊢; exact h568.2 z
                        have o576 := OUT_tr h216 h565.1
                        refine En_Ps 1 (pc' := 199) (lv' := [(0, .ref 3), (1, .ref a), (2, .int y47)]) (st' := []) rfl ?_
                        have h577 : fL1 By Nb S235 = S571 := by rw [h572]; exact (fL1_1 (by omega)).trans (fNx_9 (by omega) (by omega) (by omega) (by omega) (by omega))
                        exact keyj199 σ562 z566 y50 y49 h563 h569 h567 (by omega) (by omega) ((h564 _ _ (inW ha (by decide +kernel))).trans h200) (by omega) (by omega) ((h564 _ _ (inW ha (by decide +kernel))).trans h199) (by omega) (by omega) (by omega) (by omega) (h570) (CT_eq h573 h577.symm) (by rw [h577]; exact h575)
                    · refine En_Ps 2 (pc' := 120) (lv' := [(0, .ref 3), (1, .ref a), (2, .int y47)]) (st' := [.ref a, .ref 3]) rfl ?_
                      refine En_callV rfl rfl rfl rfl rfl rfl rfl rfl (by decide +kernel : TG 3 = 3) (by decide +kernel) rfl (c_70x σ195 h196 a ha y48 h198 y50 h200 (by omega) h237 (by omega) hP (FXP_fr hP hX h197 (by decide +kernel)) h252) (by decide) (by decide) (fun v579 σ580 h578 => ?_)
                      obtain ⟨h581, h582, z584, h585, rfl, h583⟩ := h578
                      have h586 := h583.2.2.2.2.2.2.2.2
                      have h587 := Fr_trans h197 h582 (by decide +kernel)
                      have h588 := OTH_fr h214 h582 (by decide +kernel)
                      obtain ⟨S589, h590⟩ : ∃ q : PS, q = fTwin By Nb S235 := ⟨_, rfl⟩
                      have h591 : CT By Nb σ580 S589 := by rw [h590]; exact h586.1
                      have h592 := CT_k h591 h585
                      have h593 : Imp (S589.1 = 0) (KN σ580 a S589.2.2.2 (act S589.2.2.2)) := fun z => by rw [h590] at z ⊢; exact h586.2 z
                      have o594 := OUT_tr h216 h583.1
                      refine En_Ps 1 (pc' := 199) (lv' := [(0, .ref 3), (1, .ref a), (2, .int y47)]) (st' := []) rfl ?_
                      have h595 : fL1 By Nb S235 = S589 := by rw [h590]; exact (fL1_1 (by omega)).trans (fNx_17 (by omega) (by omega) (by omega) (by omega))
                      exact keyj199 σ580 z584 y50 y49 h581 h587 h585 (by omega) (by omega) ((h582 _ _ (inW ha (by decide +kernel))).trans h200) (by omega) (by omega) ((h582 _ _ (inW ha (by decide +kernel))).trans h199) (by omega) (by omega) (by omega) (by omega) (h588) (CT_eq h591 h595.symm) (by rw [h595]; exact h593)
                  · refine En_Ps 2 (pc' := 103) (lv' := [(0, .ref 3), (1, .ref a), (2, .int y47)]) (st' := [.ref a, .ref 3]) rfl ?_
                    refine En_callV rfl rfl rfl rfl rfl rfl rfl rfl (by decide +kernel : TG 3 = 3) (by decide +kernel) rfl (c_64x σ195 h196 a ha y48 h198 y50 h200 (by omega) h237 (by omega) hP (FXP_fr hP hX h197 (by decide +kernel)) h252) (by decide) (by decide) (fun v597 σ598 h596 => ?_)
                    obtain ⟨h599, h600, z602, h603, rfl, h601⟩ := h596
                    have h604 := h601.2.2.2.2.2.2.2.2
                    have h605 := Fr_trans h197 h600 (by decide +kernel)
                    have h606 := OTH_fr h214 h600 (by decide +kernel)
                    obtain ⟨S607, h608⟩ : ∃ q : PS, q = fExam By Nb S235 := ⟨_, rfl⟩
                    have h609 : CT By Nb σ598 S607 := by rw [h608]; exact h604.1
                    have h610 := CT_k h609 h603
                    have h611 : Imp (S607.1 = 0) (KN σ598 a S607.2.2.2 (act S607.2.2.2)) := fun z => by rw [h608] at z ⊢; exact h604.2 z
                    have o612 := OUT_tr h216 h601.1
                    refine En_Ps 1 (pc' := 199) (lv' := [(0, .ref 3), (1, .ref a), (2, .int y47)]) (st' := []) rfl ?_
                    have h613 : fL1 By Nb S235 = S607 := by rw [h608]; exact (fL1_1 (by omega)).trans (fNx_3 (by omega) (by omega) (by omega))
                    exact keyj199 σ598 z602 y50 y49 h599 h605 h603 (by omega) (by omega) ((h600 _ _ (inW ha (by decide +kernel))).trans h200) (by omega) (by omega) ((h600 _ _ (inW ha (by decide +kernel))).trans h199) (by omega) (by omega) (by omega) (by omega) (h606) (CT_eq h609 h613.symm) (by rw [h613]; exact h611)
                · refine En_Ps 2 (pc' := 86) (lv' := [(0, .ref 3), (1, .ref a), (2, .int y47)]) (st' := [.ref a, .ref 3]) rfl ?_
                  refine En_callV rfl rfl rfl rfl rfl rfl rfl rfl (by decide +kernel : TG 3 = 3) (by decide +kernel) rfl (c_67x σ195 h196 a ha y48 h198 y50 h200 (by omega) h237 (by omega) hP (FXP_fr hP hX h197 (by decide +kernel)) h252) (by decide) (by decide) (fun v615 σ616 h614 => ?_)
                  obtain ⟨h617, h618, z620, h621, rfl, h619⟩ := h614
                  have h622 := h619.2.2.2.2.2.2.2.2
                  have h623 := Fr_trans h197 h618 (by decide +kernel)
                  have h624 := OTH_fr h214 h618 (by decide +kernel)
                  obtain ⟨S625, h626⟩ : ∃ q : PS, q = fLesson By Nb S235 := ⟨_, rfl⟩
                  have h627 : CT By Nb σ616 S625 := by rw [h626]; exact h622.1
                  have h628 := CT_k h627 h621
                  have h629 : Imp (S625.1 = 0) (KN σ616 a S625.2.2.2 (act S625.2.2.2)) := fun z => by rw [h626] at z ⊢; exact h622.2 z
                  have o630 := OUT_tr h216 h619.1
                  refine En_Ps 1 (pc' := 199) (lv' := [(0, .ref 3), (1, .ref a), (2, .int y47)]) (st' := []) rfl ?_
                  have h631 : fL1 By Nb S235 = S625 := by rw [h626]; exact (fL1_1 (by omega)).trans (fNx_6 (by omega) (by omega))
                  exact keyj199 σ616 z620 y50 y49 h617 h623 h621 (by omega) (by omega) ((h618 _ _ (inW ha (by decide +kernel))).trans h200) (by omega) (by omega) ((h618 _ _ (inW ha (by decide +kernel))).trans h199) (by omega) (by omega) (by omega) (by omega) (h624) (CT_eq h627 h631.symm) (by rw [h631]; exact h629)
              · refine En_Ps 2 (pc' := 69) (lv' := [(0, .ref 3), (1, .ref a), (2, .int y47)]) (st' := [.ref a, .ref 3]) rfl ?_
                refine En_callV rfl rfl rfl rfl rfl rfl rfl rfl (by decide +kernel : TG 3 = 3) (by decide +kernel) rfl (c_63x σ195 h196 a ha y48 h198 y50 h200 (by omega) h237 (by omega) hP (FXP_fr hP hX h197 (by decide +kernel)) h252) (by decide) (by decide) (fun v633 σ634 h632 => ?_)
                obtain ⟨h635, h636, z638, h639, rfl, h637⟩ := h632
                have h640 := h637.2.2.2.2.2.2.2.2
                have h641 := Fr_trans h197 h636 (by decide +kernel)
                have h642 := OTH_fr h214 h636 (by decide +kernel)
                obtain ⟨S643, h644⟩ : ∃ q : PS, q = fDoor By Nb S235 := ⟨_, rfl⟩
                have h645 : CT By Nb σ634 S643 := by rw [h644]; exact h640.1
                have h646 := CT_k h645 h639
                have h647 : Imp (S643.1 = 0) (KN σ634 a S643.2.2.2 (act S643.2.2.2)) := fun z => by rw [h644] at z ⊢; exact h640.2 z
                have o648 := OUT_tr h216 h637.1
                refine En_Ps 1 (pc' := 199) (lv' := [(0, .ref 3), (1, .ref a), (2, .int y47)]) (st' := []) rfl ?_
                have h649 : fL1 By Nb S235 = S643 := by rw [h644]; exact (fL1_1 (by omega)).trans (fNx_2 (by omega))
                exact keyj199 σ634 z638 y50 y49 h635 h641 h639 (by omega) (by omega) ((h636 _ _ (inW ha (by decide +kernel))).trans h200) (by omega) (by omega) ((h636 _ _ (inW ha (by decide +kernel))).trans h199) (by omega) (by omega) (by omega) (by omega) (h642) (CT_eq h645 h649.symm) (by rw [h649]; exact h647)
            · refine En_Ps 2 (pc' := 52) (lv' := [(0, .ref 3), (1, .ref a), (2, .int y47)]) (st' := [.ref a, .ref 3]) rfl ?_
              refine En_callV rfl rfl rfl rfl rfl rfl rfl rfl (by decide +kernel : TG 3 = 3) (by decide +kernel) rfl (c_65x σ195 h196 a ha y48 h198 h237 (by omega) hP (FXP_fr hP hX h197 (by decide +kernel)) h252) (by decide) (by decide) (fun v651 σ652 h650 => ?_)
              obtain ⟨h653, h654, z656, h657, z658, h659, rfl, h655⟩ := h650
              have h660 := h655.2.2.2.2.2.2.2.2.2.2.2
              have h661 := Fr_trans h197 h654 (by decide +kernel)
              have h662 := OTH_tr h214 h660.1
              obtain ⟨S663, h664⟩ : ∃ q : PS, q = fFirst By Nb S235 := ⟨_, rfl⟩
              have h665 : CT By Nb σ652 S663 := by rw [h664]; exact h660.2.1
              have h666 := CT_k h665 h657
              have h667 : Imp (S663.1 = 0) (KN σ652 a S663.2.2.2 (act S663.2.2.2)) := fun z => by rw [h664] at z ⊢; exact h660.2.2 z
              have o668 := OUT_tr h216 h655.1
              refine En_Ps 1 (pc' := 199) (lv' := [(0, .ref 3), (1, .ref a), (2, .int y47)]) (st' := []) rfl ?_
              have h669 : fL1 By Nb S235 = S663 := by rw [h664]; exact fL1_0 (by omega)
              exact keyj199 σ652 z656 z658 y49 h653 h661 h657 (by omega) (by omega) h659 (by omega) (by omega) ((h654 _ _ (inW ha (by decide +kernel))).trans h199) (by omega) (by omega) (by omega) (by omega) (h662) (CT_eq h665 h669.symm) (by rw [h669]; exact h667)
  have := (by decide : (Int32.ofInt 0).toInt = 0)
  have := (by decide : (Int32.ofInt 0).toInt = 0)
  refine En_lv (lv := [(0, .ref 3), (1, .ref a), (2, .int ((Int32.ofInt 0)))]) ⟨rfl, rfl, rfl, trivial⟩ ?_
  exact key25 (Int.toNat (1601) + 1) σ38 ((Int32.ofInt 0)) ((Int32.ofInt 0)) z28 z30 h39 h43 ((h40 _ _ (inW (by decide +kernel : TG 3 = 3) (by decide +kernel))).trans ((h26 _ _ (inW (by decide +kernel : TG 3 = 3) (by decide +kernel))).trans ((h19 _ _ (Or.inr (by decide))).trans ((h12 _ _ (Or.inr (by decide))).trans h4)))) ((h40 _ _ (inW ha (by decide +kernel))).trans h29) ((h40 _ _ (inW ha (by decide +kernel))).trans h31) (by omega) (by omega) (by omega) (by omega) (by omega) (by omega) (by omega) (by omega) (by omega) (by omega) (by omega) (by omega) (by omega) (h44) (RLI_0 h42 (by decide) ((h40 _ _ (inW (by decide +kernel : TG 3 = 3) (by decide +kernel))).trans ((h26 _ _ (inW (by decide +kernel : TG 3 = 3) (by decide +kernel))).trans ((h19 _ _ (Or.inr (by decide))).trans ((h12 _ _ (Or.inr (by decide))).trans h4)))) (by decide) ((h40 _ _ (inW (by decide +kernel : TG 3 = 3) (by decide +kernel))).trans ((h26 _ _ (inW (by decide +kernel : TG 3 = 3) (by decide +kernel))).trans ((h19 _ _ (Or.inr (by decide))).trans h11))) (by decide) h45 (by decide)) (o46)

