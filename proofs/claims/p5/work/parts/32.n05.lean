/-- DoorSchool$Reader.readCourse(LDoorSchool$Plan;)V -/
abbrev P_62x (σ0 : SG) (By : Int → Int) (Nb : Int) (Sp : PS) (a : Nat) (f : Int32) (sg : Int32) : PO := fun v σ => WT σ ∧ Fr [(3, 1), (3, 2), (3, 3), (3, 4), (3, 5), (3, 6), (18, 11), (25, 0)] σ0 σ ∧ ∃ f1 : Int32, (σ 3)[5]? = some (.int f1) ∧ v = none ∧ -f1.toInt ≤ 0 ∧ f1.toInt - 3 ≤ 0 ∧ -f1.toInt + f.toInt ≤ 0 ∧ f1.toInt - f.toInt - 3 ≤ 0 ∧ -f1.toInt + sg.toInt - 4 ≤ 0 ∧ f1.toInt - sg.toInt - 3 ≤ 0 ∧ f.toInt - f1.toInt ≤ 0 ∧ (CT By Nb σ (fCourse By Nb Sp) ∧ ((fCourse By Nb Sp).1 = 0 → KN σ a (fCourse By Nb Sp).2.2.2 (act (fCourse By Nb Sp).2.2.2)))
set_option maxRecDepth 10000 in
set_option maxHeartbeats 4000000 in
theorem c_62x {By : Int → Int} {Nb : Int} {Sp : PS} (σ0 : SG) (hσ0 : WT σ0) (a : Nat) (ha : TG a = 18) (f : Int32) (h_f : (σ0 3)[5]? = some (.int f)) (sg : Int32) (h_sg : (σ0 a)[1]? = some (.int sg)) (hp0 : -sg.toInt ≤ 0) (hC : CT By Nb σ0 Sp) (hg : Sp.1 = 0) (hP : PLA a) (hX : FXP σ0 a) (hK : KN σ0 a Sp.2.2.2 (act Sp.2.2.2)) : En 5 112 none mr_62 (P_62x σ0 By Nb Sp a f sg) 0 [(0, .ref 3), (1, .ref a)] [] σ0 := by
  obtain ⟨hl_f, hu_f⟩ := WT_int hσ0 (g := 3) (by decide +kernel) (by decide +kernel) (l := 0) (u := 3) (by decide +kernel) h_f
  obtain ⟨hl_sg, hu_sg⟩ := WT_int hσ0 (g := 18) ha (by decide +kernel) (l := (-1)) (u := 4) (by decide +kernel) h_sg
  have hF0 : Fr [(3, 1), (3, 2), (3, 3), (3, 4), (3, 5), (3, 6), (18, 11), (25, 0)] σ0 σ0 := Fr_rfl
  have h1 := CT_k hC h_f
  obtain ⟨z3, h2, h4, h5⟩ := WT_peekI hσ0 ha (by decide +kernel : FT 18 11 = (0, 0, 6)) (by decide +kernel)
  have h6 : Sp.2.2.2 5 = z3.toInt := KN_v hK (Or.inl (by decide)) (by decide) (by decide) (by rw [lcO_lt (by decide) (by decide), Nat.add_zero]) rfl h2
  refine En_Ps 1 (pc' := 1) (lv' := [(0, .ref 3), (1, .ref a)]) (st' := [.ref a]) rfl ?_
  refine En_getK (j := 11) h2 rfl rfl rfl ha (by decide +kernel) ?_
  refine En_Ps 1 (pc' := 6) (lv' := [(0, .ref 3), (1, .ref a)]) (st' := [.int (((Int8.ofInt 6).toInt32)), .int z3]) rfl ?_
  refine En_icLt _ rfl (by decide : ((Int8.ofInt 6).toInt32).toInt = 6) rfl (fun h7 => ?_) (fun h7 => ?_)
  · refine En_Ps 1 (pc' := 16) (lv' := [(0, .ref 3), (1, .ref a)]) (st' := [.ref 3]) rfl ?_
    obtain ⟨z9, h8, h10, h11⟩ := WT_peekI hσ0 (by decide +kernel : TG 3 = 3) (by decide +kernel : FT 3 3 = (0, 0, 1600)) (by decide +kernel)
    refine En_callV rfl rfl rfl rfl rfl rfl rfl rfl (by decide +kernel : TG 3 = 3) (by decide +kernel) rfl (c_72x σ0 hσ0 z9 h8 hC.1 (CT_at hC (by omega) h8)) (by decide) (by decide) (fun v13 σ14 h12 => ?_)
    obtain ⟨h15, h16, rfl, h17⟩ := h12
    have h18 := h17
    have h19 := Fr_trans hF0 h16 (by decide +kernel)
    obtain ⟨S20, h21⟩ : ∃ q : PS, q = adv By Nb Sp := ⟨_, rfl⟩
    have h22 : CT By Nb σ14 S20 := by rw [h21]; exact (CT_adv hC (by omega) h8 h16 (by decide +kernel) h18.2)
    have h23 := CT_k h22 ((h16 _ _ (inW (by decide +kernel : TG 3 = 3) (by decide +kernel))).trans h_f)
    have h24 : S20.2.2.2 = Sp.2.2.2 := by rw [h21]; exact adv_w
    have h25 : S20.1 = Sp.1 := by rw [h21]; exact adv_1
    have h26 := KN_fr hP hK h16 (by decide +kernel)
    have h27 : S20.2.2.2 = Sp.2.2.2 := h24.trans (rfl : Sp.2.2.2 = Sp.2.2.2)
    refine En_Ps 2 (pc' := 21) (lv' := [(0, .ref 3), (1, .ref a)]) (st' := [.ref 3, .ref 3]) rfl ?_
    refine En_ldcS (i := 15) rfl rfl rfl ?_
    refine En_callV rfl rfl rfl rfl rfl rfl rfl rfl (by decide +kernel : TG 3 = 3) (by decide +kernel) rfl (c_71s15x σ14 h15 h22) (by decide) (by decide) (fun v29 σ30 h28 => ?_)
    obtain ⟨h31, h32, z34, rfl, h33⟩ := h28
    have h35 := h33.2.2
    obtain rfl : σ14 = σ30 := Fr_nil h32
    have h36 := h35
    refine En_callV rfl rfl rfl rfl rfl rfl rfl rfl (by decide +kernel : TG 3 = 3) (by decide +kernel) rfl (c_59x σ14 h15 z34 (geI rfl (by omega)) (leI rfl (by omega)) f ((h16 _ _ (inW (by decide +kernel : TG 3 = 3) (by decide +kernel))).trans h_f) h22) (by decide) (by decide) (fun v38 σ39 h37 => ?_)
    obtain ⟨h40, h41, z43, h44, rfl, h42⟩ := h37
    have h45 := h42.2.2.2.2.2.2.2
    have h46 := Fr_trans h19 h41 (by decide +kernel)
    have h47 : pss By Nb z34.toInt S20 = pss By Nb (iW By Nb 15 S20) S20 := pss_cg2 (fun zz => by (try have i0 := Imp_m h36 (by omega)); omega)
    obtain ⟨S48, h49⟩ : ∃ q : PS, q = pss By Nb (iW By Nb 15 S20) S20 := ⟨_, rfl⟩
    have h50 : CT By Nb σ39 S48 := by rw [h49]; exact (CT_eq h45 h47)
    have h51 := CT_k h50 h44
    have h52 : S48.2.2.2 = S20.2.2.2 := by rw [h49]; exact pss_w
    have h53 : Imp (S48.1 = 0) (S20.1 = 0) := fun z => (pss_g (by rw [h47, ← h49]; exact z)).1
    have h54 : Imp (S48.1 = 0) (z34.toInt = 1) := fun z => (pss_g (by rw [h47, ← h49]; exact z)).2.1
    have h55 := KN_fr hP h26 h41 (by decide +kernel)
    have h56 : S48.2.2.2 = Sp.2.2.2 := h52.trans h27
    refine En_Ps 3 (pc' := 33) (lv' := [(0, .ref 3), (1, .ref a)]) (st' := [.int (((Int8.ofInt 9).toInt32)), .int ((Int32.ofInt 1)), .ref 3]) rfl ?_
    have := (by decide : ((Int32.ofInt 1)).toInt = 1)
    have := (by decide : (((Int8.ofInt 9).toInt32)).toInt = 9)
    refine En_callV rfl rfl rfl rfl rfl rfl rfl rfl (by decide +kernel : TG 3 = 3) (by decide +kernel) rfl (c_73x σ39 h40 ((Int32.ofInt 1)) (((Int8.ofInt 9).toInt32)) z43 h44 h50) (by decide) (by decide) (fun v58 σ59 h57 => ?_)
    obtain ⟨h60, h61, z63, h64, z65, rfl, h62⟩ := h57
    have h66 := h62.2.2.2.2.2.2.2.2.2.2
    have h67 := Fr_trans h46 h61 (by decide +kernel)
    have h68 : tN By Nb ((Int32.ofInt 1)).toInt (((Int8.ofInt 9).toInt32)).toInt S48 = tN By Nb (1) (9) S48 := tN_cg2 (fun zz => by omega) (fun zz => by omega)
    obtain ⟨S69, h70⟩ : ∃ q : PS, q = tN By Nb (1) (9) S48 := ⟨_, rfl⟩
    have h71 : CT By Nb σ59 S69 := by rw [h70]; exact (CT_eq h66.1 h68)
    have h72 := CT_k h71 h64
    have h73 : Imp (S69.1 = 0) (z65.toInt = tV By Nb S48.2.2.1) := fun z => Imp_m h66.2 (by rw [h68, ← h70]; exact z)
    have h74 : Imp (S69.1 = 0) (S48.1 = 0 ∧ tK By Nb S48.2.2.1 = 2 ∧ 1 ≤ tV By Nb S48.2.2.1 ∧ tV By Nb S48.2.2.1 ≤ 9) := fun z => tN_gg (by rw [← h70]; exact z)
    have h75 : S69.2.2.2 = S48.2.2.2 := by rw [h70]; exact tN_w
    have h76 := KN_fr hP h55 h61 (by decide +kernel)
    have h77 : S69.2.2.2 = Sp.2.2.2 := h75.trans h56
    have h78 := Imp_m h62.2.2.2.2.2.2.2.2.1 (by omega)
    have h79 := Imp_m h62.2.2.2.2.2.2.2.2.2.1 (by omega)
    refine En_Ps 2 (pc' := 38) (lv' := [(2, .int z65), (0, .ref 3), (1, .ref a)]) (st' := [.ref 3]) rfl ?_
    refine En_getK (j := 5) h64 rfl rfl rfl (by decide +kernel : TG 3 = 3) (by decide +kernel) ?_
    refine En_iNe _ rfl rfl (fun h80 => ?_) (fun h80 => ?_)
    · have h81 := Imp_m h62.2.2.2.2.2.2.2.1 (by omega)
      have h82 : fCourse By Nb Sp = S69 := by unfold fCourse; (try dsimp only); first | (rw [← h21, ← h49, ← h70]; first | done | rfl) | (rw [← h21, ← h49, ← h70]; rw [if_pos (by omega)]; first | done | rfl) | (rw [← h21, ← h49, ← h70]; rw [if_neg (by omega)]; first | done | rfl) | (rw [← h21, ← h49, ← h70]; rw [if_neg (by omega), if_pos (by omega)]; first | done | rfl) | (rw [← h21, ← h49, ← h70]; rw [if_neg (by omega), if_neg (by omega)]; first | done | rfl) | (rw [← h21, ← h49, ← h70]; rw [if_neg (by omega), if_neg (by omega), if_neg (by omega)]; first | done | rfl)
      exact En_ret (v := none) rfl rfl rfl ⟨h60, h67, z63, h64, rfl, ⟨by omega, by omega, by omega, by omega, by omega, by omega, by omega, (by rw [h82]; exact ⟨h71, fun z => absurd z (by omega)⟩)⟩⟩
    · have h83 := Imp_m h62.2.2.2.2.2.2.1 (by omega)
      try have h84 := Imp_m h74 (by omega)
      try have h85 := Imp_m h73 (by omega)
      try have h86 := Imp_m h54 (by omega)
      try have h87 := Imp_m h53 (by omega)
      try have h88 := Imp_m h36 (by omega)
      refine En_Ps 1 (pc' := 45) (lv' := [(2, .int z65), (0, .ref 3), (1, .ref a)]) (st' := [.ref a]) rfl ?_
      refine En_getR (j := 12) (g' := 25) (u := 0) rfl rfl rfl ha (by decide +kernel) h60 (by decide +kernel) (fun a90 h89 ha90 => ?_)
      refine En_Ps 1 (pc' := 49) (lv' := [(2, .int z65), (0, .ref 3), (1, .ref a)]) (st' := [.ref a, .ref a90]) rfl ?_
      refine En_getK (j := 11) ((h61 _ _ (inW ha (by decide +kernel))).trans ((h41 _ _ (inW ha (by decide +kernel))).trans ((h16 _ _ (inW ha (by decide +kernel))).trans h2))) rfl rfl rfl ha (by decide +kernel) ?_
      refine En_Ps 1 (pc' := 53) (lv' := [(2, .int z65), (0, .ref 3), (1, .ref a)]) (st' := [.int z65, .int z3, .ref a90]) rfl ?_
      refine En_iast (l := 0) (u := 9) rfl rfl ha90 (by decide +kernel) (by omega) (lnI (by decide +kernel : LN _ = 6) (by omega)) (FTsgl (by decide +kernel)) (rngI rfl (by omega) (by omega)) h60 h67 (by decide +kernel) (fun σ91 h92 h93 h94 h95 => ?_)
      have h96 : a90 = a + 7 := ref_uniq ((h95 _ _ (Or.inl (neTG ha ha90 (by decide)))).trans h89) (FXP_fr hP hX h93 (by decide +kernel)).2.2.2.2.1
      have h97 := lc_c (m := Sp.2.2.2 5) (by omega) (by omega)
      obtain ⟨S98, h99⟩ : ∃ q : PS, q = wst S69 (154 + 2 * Sp.2.2.2 5) ((tV By Nb S48.2.2.1)) := ⟨_, rfl⟩
      have h100 : CT By Nb σ91 S98 := by rw [h99]; exact CT_wst (CT_ne h71 h95 (by have := hP; unfold PLA at this; omega))
      have h101 : KN σ91 a (uPd Sp.2.2.2 (154 + 2 * Sp.2.2.2 5) ((tV By Nb S48.2.2.1))) (fun t => (act Sp.2.2.2 t ∨ t = 154 + 2 * Sp.2.2.2 5)) := KN_st h76 h94 h95 (by omega) (by omega) (by omega) (by omega) (by (try have i0 := Imp_m h74 (by omega)); (try have i1 := Imp_m h73 (by omega)); (try have i2 := Imp_m h54 (by omega)); (try have i3 := Imp_m h53 (by omega)); (try have i4 := Imp_m h36 (by omega)); (try have i5 := Imp_m h42.2.2.2.2.1 (by omega)); (try have i6 := Imp_m h42.2.2.2.2.2.2.1 (by omega)); (try have i7 := Imp_m h62.2.2.2.2.2.2.2.1 (by omega)); omega)
      have h102 : S98.2.2.2 = (uPd Sp.2.2.2 (154 + 2 * Sp.2.2.2 5) ((tV By Nb S48.2.2.1))) := by rw [h99]; show uPd S69.2.2.2 _ _ = _; rw [h77]
      have h103 : S98.1 = S69.1 := by rw [h99]; rfl
      have h104 := CT_k h100 ((h95 _ _ (Or.inl (neTG (by decide +kernel : TG 3 = 3) ha90 (by decide)))).trans h64)
      refine En_Ps 2 (pc' := 56) (lv' := [(2, .int z65), (0, .ref 3), (1, .ref a)]) (st' := [.ref a, .ref a]) rfl ?_
      refine En_getK (j := 11) ((h95 _ _ (Or.inl (neTG ha ha90 (by decide)))).trans ((h61 _ _ (inW ha (by decide +kernel))).trans ((h41 _ _ (inW ha (by decide +kernel))).trans ((h16 _ _ (inW ha (by decide +kernel))).trans h2)))) rfl rfl rfl ha (by decide +kernel) ?_
      refine En_Ps 2 (pc' := 61) (lv' := [(2, .int z65), (0, .ref 3), (1, .ref a)]) (st' := [.int ((z3 + ((Int32.ofInt 1)))), .ref a]) rfl ?_
      refine En_top (addI rfl (by decide : (Int32.ofInt 1).toInt = 1) (by omega) (by omega)) (fun z105 h106 => ?_)
      refine En_put (j := 11) rfl rfl rfl ha (by decide +kernel) rfl (vI (l := 0) (u := 6) (by decide +kernel) rfl (by omega) (by omega)) h92 h93 (by decide +kernel) (fun σ107 h108 h109 h110 h111 => ?_)
      obtain ⟨S112, h113⟩ : ∃ q : PS, q = wst S98 (5) (Sp.2.2.2 5 + 1) := ⟨_, rfl⟩
      have h114 : CT By Nb σ107 S112 := by rw [h113]; exact CT_wst (CT_ne h100 h111 (by have := hP; unfold PLA at this; omega))
      have h115 : KN σ107 a (uPd (uPd Sp.2.2.2 (154 + 2 * Sp.2.2.2 5) ((tV By Nb S48.2.2.1))) (5) (Sp.2.2.2 5 + 1)) (fun t => ((act Sp.2.2.2 t ∨ t = 154 + 2 * Sp.2.2.2 5) ∨ t = 5)) := KN_st h101 h110 h111 (by omega) (by omega) (by rw [lcO_lt (by decide) (by decide), Nat.add_zero]) (by decide) (by (try have i0 := Imp_m h74 (by omega)); (try have i1 := Imp_m h73 (by omega)); (try have i2 := Imp_m h54 (by omega)); (try have i3 := Imp_m h53 (by omega)); (try have i4 := Imp_m h36 (by omega)); (try have i5 := Imp_m h42.2.2.2.2.1 (by omega)); (try have i6 := Imp_m h42.2.2.2.2.2.2.1 (by omega)); (try have i7 := Imp_m h62.2.2.2.2.2.2.2.1 (by omega)); omega)
      have h116 : S112.2.2.2 = (uPd (uPd Sp.2.2.2 (154 + 2 * Sp.2.2.2 5) ((tV By Nb S48.2.2.1))) (5) (Sp.2.2.2 5 + 1)) := by rw [h113]; show uPd S98.2.2.2 _ _ = _; rw [h102]
      have h117 : S112.1 = S98.1 := by rw [h113]; rfl
      have h118 := CT_k h114 ((h111 _ _ (Or.inr (by decide))).trans ((h95 _ _ (Or.inl (neTG (by decide +kernel : TG 3 = 3) ha90 (by decide)))).trans h64))
      have h119 : fCourse By Nb Sp = S112 := by unfold fCourse; (try dsimp only); first | (rw [← h21, ← h49, ← h70, ← h99, ← h113]; first | done | rfl) | (rw [← h21, ← h49, ← h70, ← h99, ← h113]; rw [if_pos (by omega)]; first | done | rfl) | (rw [← h21, ← h49, ← h70, ← h99, ← h113]; rw [if_neg (by omega)]; first | done | rfl) | (rw [← h21, ← h49, ← h70, ← h99, ← h113]; rw [if_neg (by omega), if_pos (by omega)]; first | done | rfl) | (rw [← h21, ← h49, ← h70, ← h99, ← h113]; rw [if_neg (by omega), if_neg (by omega)]; first | done | rfl) | (rw [← h21, ← h49, ← h70, ← h99, ← h113]; rw [if_neg (by omega), if_neg (by omega), if_neg (by omega)]; first | done | rfl)
      exact En_ret (v := none) rfl rfl rfl ⟨h108, h109, z63, ((h111 _ _ (Or.inr (by decide))).trans ((h95 _ _ (Or.inl (neTG (by decide +kernel : TG 3 = 3) ha90 (by decide)))).trans h64)), rfl, ⟨by omega, by omega, by omega, by omega, by omega, by omega, by omega, (by rw [h119]; exact ⟨h114, fun zz => by rw [h116]; exact KN_sub h115 (fun t t0 t1 y => ACs (by omega) y)⟩)⟩⟩
  · refine En_Ps 2 (pc' := 11) (lv' := [(0, .ref 3), (1, .ref a)]) (st' := [.int ((Int32.ofInt 3)), .ref 3]) rfl ?_
    have := (by decide : ((Int32.ofInt 3)).toInt = 3)
    refine En_callV rfl rfl rfl rfl rfl rfl rfl rfl (by decide +kernel : TG 3 = 3) (by decide +kernel) rfl (c_54x σ0 hσ0 ((Int32.ofInt 3)) (geI (by decide : (Int32.ofInt 3).toInt = 3) (by omega)) (leI (by decide : (Int32.ofInt 3).toInt = 3) (by omega)) f h_f hC) (by decide) (by decide) (fun v121 σ122 h120 => ?_)
    obtain ⟨h123, h124, z126, h127, rfl, h125⟩ := h120
    have h128 := h125.2.2.2.2.2.2
    have h129 := Fr_trans hF0 h124 (by decide +kernel)
    obtain ⟨S130, h131⟩ : ∃ q : PS, q = err By Nb 3 Sp := ⟨_, rfl⟩
    have h132 : CT By Nb σ122 S130 := by rw [h131]; exact (CT_eq h128 (err_cg (by omega)))
    have h133 := CT_k h132 h127
    have h134 : S130.2.2.2 = Sp.2.2.2 := by rw [h131]; exact err_w
    have h135 := KN_fr hP hK h124 (by decide +kernel)
    have h136 : S130.2.2.2 = Sp.2.2.2 := h134.trans (rfl : Sp.2.2.2 = Sp.2.2.2)
    have h137 : fCourse By Nb Sp = S130 := by unfold fCourse; (try dsimp only); first | (rw [← h131]; first | done | rfl) | (rw [← h131]; rw [if_pos (by omega)]; first | done | rfl) | (rw [← h131]; rw [if_neg (by omega)]; first | done | rfl) | (rw [← h131]; rw [if_neg (by omega), if_pos (by omega)]; first | done | rfl) | (rw [← h131]; rw [if_neg (by omega), if_neg (by omega)]; first | done | rfl) | (rw [← h131]; rw [if_neg (by omega), if_neg (by omega), if_neg (by omega)]; first | done | rfl)
    exact En_ret (v := none) rfl rfl rfl ⟨h123, h129, z126, h127, rfl, ⟨by omega, by omega, by omega, by omega, by omega, by omega, by omega, (by rw [h137]; exact ⟨h132, fun z => absurd z (by omega)⟩)⟩⟩
/-- DoorSchool$Reader.readAhead(LDoorSchool$Plan;)V -/
abbrev P_61x (σ0 : SG) (By : Int → Int) (Nb : Int) (Sp : PS) (a : Nat) (f : Int32) (sg : Int32) : PO := fun v σ => WT σ ∧ Fr [(3, 1), (3, 2), (3, 3), (3, 4), (3, 5), (3, 6), (26, 0)] σ0 σ ∧ ∃ f1 : Int32, (σ 3)[5]? = some (.int f1) ∧ v = none ∧ -f1.toInt ≤ 0 ∧ f1.toInt - 3 ≤ 0 ∧ -f1.toInt + f.toInt ≤ 0 ∧ f1.toInt - f.toInt - 3 ≤ 0 ∧ -f1.toInt + sg.toInt - 4 ≤ 0 ∧ f1.toInt - sg.toInt - 3 ≤ 0 ∧ f.toInt - f1.toInt ≤ 0 ∧ (CT By Nb σ (fAhead By Nb Sp) ∧ ((fAhead By Nb Sp).1 = 0 → KN σ a (fAhead By Nb Sp).2.2.2 (act (fAhead By Nb Sp).2.2.2)))
set_option maxRecDepth 10000 in
set_option maxHeartbeats 4000000 in
theorem c_61x {By : Int → Int} {Nb : Int} {Sp : PS} (σ0 : SG) (hσ0 : WT σ0) (a : Nat) (ha : TG a = 18) (f : Int32) (h_f : (σ0 3)[5]? = some (.int f)) (sg : Int32) (h_sg : (σ0 a)[1]? = some (.int sg)) (hp0 : -sg.toInt ≤ 0) (hC : CT By Nb σ0 Sp) (hg : Sp.1 = 0) (hP : PLA a) (hX : FXP σ0 a) (hK : KN σ0 a Sp.2.2.2 (act Sp.2.2.2)) : En 3 66 none mr_61 (P_61x σ0 By Nb Sp a f sg) 0 [(0, .ref 3), (1, .ref a)] [] σ0 := by
  obtain ⟨hl_f, hu_f⟩ := WT_int hσ0 (g := 3) (by decide +kernel) (by decide +kernel) (l := 0) (u := 3) (by decide +kernel) h_f
  obtain ⟨hl_sg, hu_sg⟩ := WT_int hσ0 (g := 18) ha (by decide +kernel) (l := (-1)) (u := 4) (by decide +kernel) h_sg
  have hF0 : Fr [(3, 1), (3, 2), (3, 3), (3, 4), (3, 5), (3, 6), (26, 0)] σ0 σ0 := Fr_rfl
  have h1 := CT_k hC h_f
  obtain ⟨z3, h2, h4, h5⟩ := WT_peekI hσ0 ha (by decide +kernel : FT 18 11 = (0, 0, 6)) (by decide +kernel)
  have h6 : Sp.2.2.2 5 = z3.toInt := KN_v hK (Or.inl (by decide)) (by decide) (by decide) (by rw [lcO_lt (by decide) (by decide), Nat.add_zero]) rfl h2
  refine En_Ps 1 (pc' := 1) (lv' := [(0, .ref 3), (1, .ref a)]) (st' := [.ref 3]) rfl ?_
  obtain ⟨z8, h7, h9, h10⟩ := WT_peekI hσ0 (by decide +kernel : TG 3 = 3) (by decide +kernel : FT 3 3 = (0, 0, 1600)) (by decide +kernel)
  refine En_callV rfl rfl rfl rfl rfl rfl rfl rfl (by decide +kernel : TG 3 = 3) (by decide +kernel) rfl (c_72x σ0 hσ0 z8 h7 hC.1 (CT_at hC (by omega) h7)) (by decide) (by decide) (fun v12 σ13 h11 => ?_)
  obtain ⟨h14, h15, rfl, h16⟩ := h11
  have h17 := h16
  have h18 := Fr_trans hF0 h15 (by decide +kernel)
  obtain ⟨S19, h20⟩ : ∃ q : PS, q = adv By Nb Sp := ⟨_, rfl⟩
  have h21 : CT By Nb σ13 S19 := by rw [h20]; exact (CT_adv hC (by omega) h7 h15 (by decide +kernel) h17.2)
  have h22 := CT_k h21 ((h15 _ _ (inW (by decide +kernel : TG 3 = 3) (by decide +kernel))).trans h_f)
  have h23 : S19.2.2.2 = Sp.2.2.2 := by rw [h20]; exact adv_w
  have h24 : S19.1 = Sp.1 := by rw [h20]; exact adv_1
  have h25 := KN_fr hP hK h15 (by decide +kernel)
  have h26 : S19.2.2.2 = Sp.2.2.2 := h23.trans (rfl : Sp.2.2.2 = Sp.2.2.2)
  refine En_Ps 3 (pc' := 7) (lv' := [(0, .ref 3), (1, .ref a)]) (st' := [.ref a, .int ((Int32.ofInt 0)), .ref 3]) rfl ?_
  refine En_getK (j := 11) ((h15 _ _ (inW ha (by decide +kernel))).trans h2) rfl rfl rfl ha (by decide +kernel) ?_
  refine En_Ps 2 (pc' := 12) (lv' := [(0, .ref 3), (1, .ref a)]) (st' := [.int ((z3 - ((Int32.ofInt 1)))), .int ((Int32.ofInt 0)), .ref 3]) rfl ?_
  refine En_top (subI rfl (by decide : (Int32.ofInt 1).toInt = 1) (by omega) (by omega)) (fun z27 h28 => ?_)
  have := (by decide : ((Int32.ofInt 0)).toInt = 0)
  refine En_callV rfl rfl rfl rfl rfl rfl rfl rfl (by decide +kernel : TG 3 = 3) (by decide +kernel) rfl (c_73x σ13 h14 ((Int32.ofInt 0)) z27 f ((h15 _ _ (inW (by decide +kernel : TG 3 = 3) (by decide +kernel))).trans h_f) h21) (by decide) (by decide) (fun v30 σ31 h29 => ?_)
  obtain ⟨h32, h33, z35, h36, z37, rfl, h34⟩ := h29
  have h38 := h34.2.2.2.2.2.2.2.2.2.2
  have h39 := Fr_trans h18 h33 (by decide +kernel)
  have h40 : tN By Nb ((Int32.ofInt 0)).toInt z27.toInt S19 = tN By Nb (0) (Sp.2.2.2 5 - 1) S19 := tN_cg2 (fun zz => by omega) (fun zz => by omega)
  obtain ⟨S41, h42⟩ : ∃ q : PS, q = tN By Nb (0) (Sp.2.2.2 5 - 1) S19 := ⟨_, rfl⟩
  have h43 : CT By Nb σ31 S41 := by rw [h42]; exact (CT_eq h38.1 h40)
  have h44 := CT_k h43 h36
  have h45 : Imp (S41.1 = 0) (z37.toInt = tV By Nb S19.2.2.1) := fun z => Imp_m h38.2 (by rw [h40, ← h42]; exact z)
  have h46 : Imp (S41.1 = 0) (S19.1 = 0 ∧ tK By Nb S19.2.2.1 = 2 ∧ 0 ≤ tV By Nb S19.2.2.1 ∧ tV By Nb S19.2.2.1 ≤ Sp.2.2.2 5 - 1) := fun z => tN_gg (by rw [← h42]; exact z)
  have h47 : S41.2.2.2 = S19.2.2.2 := by rw [h42]; exact tN_w
  have h48 := KN_fr hP h25 h33 (by decide +kernel)
  have h49 : S41.2.2.2 = Sp.2.2.2 := h47.trans h26
  have h50 := Imp_m h34.2.2.2.2.2.2.2.2.1 (by omega)
  have h51 := Imp_m h34.2.2.2.2.2.2.2.2.2.1 (by omega)
  refine En_Ps 5 (pc' := 20) (lv' := [(2, .int z37), (0, .ref 3), (1, .ref a)]) (st' := [.int ((z37 + ((Int32.ofInt 1)))), .ref 3]) rfl ?_
  refine En_top (addI rfl (by decide : (Int32.ofInt 1).toInt = 1) (by omega) (by omega)) (fun z52 h53 => ?_)
  refine En_Ps 1 (pc' := 21) (lv' := [(2, .int z37), (0, .ref 3), (1, .ref a)]) (st' := [.ref a, .int z52, .ref 3]) rfl ?_
  refine En_getK (j := 11) ((h33 _ _ (inW ha (by decide +kernel))).trans ((h15 _ _ (inW ha (by decide +kernel))).trans h2)) rfl rfl rfl ha (by decide +kernel) ?_
  refine En_Ps 2 (pc' := 26) (lv' := [(2, .int z37), (0, .ref 3), (1, .ref a)]) (st' := [.int ((z3 - ((Int32.ofInt 1)))), .int z52, .ref 3]) rfl ?_
  refine En_top (subI rfl (by decide : (Int32.ofInt 1).toInt = 1) (by omega) (by omega)) (fun z54 h55 => ?_)
  refine En_callV rfl rfl rfl rfl rfl rfl rfl rfl (by decide +kernel : TG 3 = 3) (by decide +kernel) rfl (c_73x σ31 h32 z52 z54 z35 h36 h43) (by decide) (by decide) (fun v57 σ58 h56 => ?_)
  obtain ⟨h59, h60, z62, h63, z64, rfl, h61⟩ := h56
  have h65 := h61.2.2.2.2.2.2.2.2.2.2
  have h66 := Fr_trans h39 h60 (by decide +kernel)
  have h67 : tN By Nb z52.toInt z54.toInt S41 = tN By Nb ((tV By Nb S19.2.2.1) + 1) (Sp.2.2.2 5 - 1) S41 := tN_cg2 (fun zz => by (try have i0 := Imp_m h46 (by omega)); (try have i1 := Imp_m h45 (by omega)); (try have i2 := Imp_m h34.2.2.2.2.2.2.1 (by omega)); (try have i3 := Imp_m h34.2.2.2.2.2.2.2.1 (by omega)); omega) (fun zz => by (try have i0 := Imp_m h46 (by omega)); (try have i1 := Imp_m h45 (by omega)); (try have i2 := Imp_m h34.2.2.2.2.2.2.1 (by omega)); (try have i3 := Imp_m h34.2.2.2.2.2.2.2.1 (by omega)); omega)
  obtain ⟨S68, h69⟩ : ∃ q : PS, q = tN By Nb ((tV By Nb S19.2.2.1) + 1) (Sp.2.2.2 5 - 1) S41 := ⟨_, rfl⟩
  have h70 : CT By Nb σ58 S68 := by rw [h69]; exact (CT_eq h65.1 h67)
  have h71 := CT_k h70 h63
  have h72 : Imp (S68.1 = 0) (z64.toInt = tV By Nb S41.2.2.1) := fun z => Imp_m h65.2 (by rw [h67, ← h69]; exact z)
  have h73 : Imp (S68.1 = 0) (S41.1 = 0 ∧ tK By Nb S41.2.2.1 = 2 ∧ (tV By Nb S19.2.2.1) + 1 ≤ tV By Nb S41.2.2.1 ∧ tV By Nb S41.2.2.1 ≤ Sp.2.2.2 5 - 1) := fun z => tN_gg (by rw [← h69]; exact z)
  have h74 : S68.2.2.2 = S41.2.2.2 := by rw [h69]; exact tN_w
  have h75 := KN_fr hP h48 h60 (by decide +kernel)
  have h76 : S68.2.2.2 = Sp.2.2.2 := h74.trans h49
  have h77 := Imp_m h61.2.2.2.2.2.2.2.2.1 (by omega)
  have h78 := Imp_m h61.2.2.2.2.2.2.2.2.2.1 (by omega)
  refine En_Ps 2 (pc' := 31) (lv' := [(3, .int z64), (2, .int z37), (0, .ref 3), (1, .ref a)]) (st' := [.ref 3]) rfl ?_
  refine En_getK (j := 5) h63 rfl rfl rfl (by decide +kernel : TG 3 = 3) (by decide +kernel) ?_
  refine En_iNe _ rfl rfl (fun h79 => ?_) (fun h79 => ?_)
  · have h80 := Imp_m h61.2.2.2.2.2.2.2.1 (by omega)
    have h81 : fAhead By Nb Sp = S68 := by unfold fAhead; (try dsimp only); first | (rw [← h20, ← h42, ← h69]; first | done | rfl) | (rw [← h20, ← h42, ← h69]; rw [if_pos (by omega)]; first | done | rfl) | (rw [← h20, ← h42, ← h69]; rw [if_neg (by omega)]; first | done | rfl) | (rw [← h20, ← h42, ← h69]; rw [if_neg (by omega), if_pos (by omega)]; first | done | rfl) | (rw [← h20, ← h42, ← h69]; rw [if_neg (by omega), if_neg (by omega)]; first | done | rfl) | (rw [← h20, ← h42, ← h69]; rw [if_neg (by omega), if_neg (by omega), if_neg (by omega)]; first | done | rfl)
    exact En_ret (v := none) rfl rfl rfl ⟨h59, h66, z62, h63, rfl, ⟨by omega, by omega, by omega, by omega, by omega, by omega, by omega, (by rw [h81]; exact ⟨h70, fun z => absurd z (by omega)⟩)⟩⟩
  · have h82 := Imp_m h34.2.2.2.2.2.2.1 (by omega)
    have h83 := Imp_m h61.2.2.2.2.2.2.1 (by omega)
    try have h84 := Imp_m h73 (by omega)
    try have h85 := Imp_m h72 (by omega)
    try have h86 := Imp_m h46 (by omega)
    try have h87 := Imp_m h45 (by omega)
    refine En_Ps 1 (pc' := 38) (lv' := [(3, .int z64), (2, .int z37), (0, .ref 3), (1, .ref a)]) (st' := [.ref a]) rfl ?_
    refine En_getR (j := 13) (g' := 26) (u := 0) rfl rfl rfl ha (by decide +kernel) h59 (by decide +kernel) (fun a89 h88 ha89 => ?_)
    refine En_Ps 2 (pc' := 43) (lv' := [(3, .int z64), (2, .int z37), (0, .ref 3), (1, .ref a)]) (st' := [.int z64, .ref a89, .int z64, .ref a89]) rfl ?_
    refine En_iald (l := 0) (u := 63) rfl rfl ha89 (by decide +kernel) h59 (by omega) (lnI (by decide +kernel : LN _ = 6) (by omega)) (FTsgl (by decide +kernel)) (fun z91 h90 h92 h93 => ?_)
    have h96 : a89 = a + 8 := ref_uniq h88 (FXP_fr hP hX h66 (by decide +kernel)).2.2.2.2.2.1
    have h95 := lc_c (m := (tV By Nb S41.2.2.1)) (by omega) (by omega)
    have h94 : Sp.2.2.2 (155 + 2 * (tV By Nb S41.2.2.1)) = z91.toInt := KN_v h75 (Or.inr (Or.inr (Or.inr (Or.inr (Or.inr (Or.inl ⟨by omega, by omega, Or.inl (by omega)⟩)))))) (by omega) (by omega) (by omega) (by omega) h90
    refine En_Ps 4 (pc' := 48) (lv' := [(3, .int z64), (2, .int z37), (0, .ref 3), (1, .ref a)]) (st' := [.int ((z91 ||| ((Int32.ofInt 1) <<< (z37 &&& 31)))), .int z64, .ref a89]) rfl ?_
    refine En_nam (fun z97 h98 => ?_)
    have h99 := orP_v (x := z91) (y := z37) h98 rfl rfl (by omega) (by omega) (by omega) (by omega)
    have h100 : z97.toInt = orP (Sp.2.2.2 (155 + 2 * (tV By Nb S41.2.2.1))) (tV By Nb S19.2.2.1) := by rw [h99.1]; exact orP_cg (by omega) (by omega)
    refine En_iast (l := 0) (u := 63) rfl rfl ha89 (by decide +kernel) (by omega) (lnI (by decide +kernel : LN _ = 6) (by omega)) (FTsgl (by decide +kernel)) (rngI rfl (by omega) (by omega)) h59 h66 (by decide +kernel) (fun σ101 h102 h103 h104 h105 => ?_)
    have h106 : a89 = a + 8 := ref_uniq ((h105 _ _ (Or.inl (neTG ha ha89 (by decide)))).trans h88) (FXP_fr hP hX h103 (by decide +kernel)).2.2.2.2.2.1
    have h107 := lc_c (m := (tV By Nb S41.2.2.1)) (by omega) (by omega)
    obtain ⟨S108, h109⟩ : ∃ q : PS, q = wst S68 (155 + 2 * (tV By Nb S41.2.2.1)) (orP (Sp.2.2.2 (155 + 2 * (tV By Nb S41.2.2.1))) (tV By Nb S19.2.2.1)) := ⟨_, rfl⟩
    have h110 : CT By Nb σ101 S108 := by rw [h109]; exact CT_wst (CT_ne h70 h105 (by have := hP; unfold PLA at this; omega))
    have h111 : KN σ101 a (uPd Sp.2.2.2 (155 + 2 * (tV By Nb S41.2.2.1)) (orP (Sp.2.2.2 (155 + 2 * (tV By Nb S41.2.2.1))) (tV By Nb S19.2.2.1))) (fun t => (act Sp.2.2.2 t ∨ t = 155 + 2 * (tV By Nb S41.2.2.1))) := KN_st h75 h104 h105 (by omega) (by omega) (by omega) (by omega) (by (try have i0 := Imp_m h73 (by omega)); (try have i1 := Imp_m h72 (by omega)); (try have i2 := Imp_m h46 (by omega)); (try have i3 := Imp_m h45 (by omega)); (try have i4 := Imp_m h34.2.2.2.2.2.2.2.1 (by omega)); (try have i5 := Imp_m h61.2.2.2.2.2.2.2.1 (by omega)); omega)
    have h112 : S108.2.2.2 = (uPd Sp.2.2.2 (155 + 2 * (tV By Nb S41.2.2.1)) (orP (Sp.2.2.2 (155 + 2 * (tV By Nb S41.2.2.1))) (tV By Nb S19.2.2.1))) := by rw [h109]; show uPd S68.2.2.2 _ _ = _; rw [h76]
    have h113 : S108.1 = S68.1 := by rw [h109]; rfl
    have h114 := CT_k h110 ((h105 _ _ (Or.inl (neTG (by decide +kernel : TG 3 = 3) ha89 (by decide)))).trans h63)
    have h115 : fAhead By Nb Sp = S108 := by unfold fAhead; (try dsimp only); first | (rw [← h20, ← h42, ← h69, ← h109]; first | done | rfl) | (rw [← h20, ← h42, ← h69, ← h109]; rw [if_pos (by omega)]; first | done | rfl) | (rw [← h20, ← h42, ← h69, ← h109]; rw [if_neg (by omega)]; first | done | rfl) | (rw [← h20, ← h42, ← h69, ← h109]; rw [if_neg (by omega), if_pos (by omega)]; first | done | rfl) | (rw [← h20, ← h42, ← h69, ← h109]; rw [if_neg (by omega), if_neg (by omega)]; first | done | rfl) | (rw [← h20, ← h42, ← h69, ← h109]; rw [if_neg (by omega), if_neg (by omega), if_neg (by omega)]; first | done | rfl)
    exact En_ret (v := none) rfl rfl rfl ⟨h102, h103, z62, ((h105 _ _ (Or.inl (neTG (by decide +kernel : TG 3 = 3) ha89 (by decide)))).trans h63), rfl, ⟨by omega, by omega, by omega, by omega, by omega, by omega, by omega, (by rw [h115]; exact ⟨h110, fun zz => by rw [h112]; exact KN_sub h111 (fun t t0 t1 y => Or.inl (act_in (by omega) (by omega) y))⟩)⟩⟩
/-- DoorSchool$Reader.read(LDoorSchool$Plan;)V -/
abbrev P_60x (σ0 : SG) (By : Int → Int) (Nb : Int) (a : Nat) : PO := fun v σ => WT σ ∧ Fr [(3, 1), (3, 2), (3, 3), (3, 4), (3, 5), (3, 6), (18, 0), (18, 1), (18, 2), (18, 3), (18, 6), (18, 7), (18, 8), (18, 11), (18, 14), (20, 2), (21, 0), (22, 0), (23, 0), (24, 0), (25, 0), (26, 0), (28, 1), (28, 2), (28, 3)] σ0 σ ∧ ∃ f1 : Int32, (σ 3)[5]? = some (.int f1) ∧ ∃ sg1 : Int32, (σ a)[1]? = some (.int sg1) ∧ v = none ∧ -f1.toInt ≤ 0 ∧ f1.toInt - 3 ≤ 0 ∧ -sg1.toInt - 1 ≤ 0 ∧ sg1.toInt - 4 ≤ 0 ∧ -sg1.toInt - f1.toInt ≤ 0 ∧ (OTH a σ0 σ ∧ RDC By Nb a σ)
set_option maxRecDepth 10000 in
set_option maxHeartbeats 4000000 in
theorem c_60x {By : Int → Int} {Nb : Int} (σ0 : SG) (hσ0 : WT σ0) (a : Nat) (ha : TG a = 18) (hB : TPc By Nb σ0) (hP : PLA a) (hX : FXP σ0 a) : En 7 159 none mr_60 (P_60x σ0 By Nb a) 0 [(0, .ref 3), (1, .ref a)] [] σ0 := by
  have hF0 : Fr [(3, 1), (3, 2), (3, 3), (3, 4), (3, 5), (3, 6), (18, 0), (18, 1), (18, 2), (18, 3), (18, 6), (18, 7), (18, 8), (18, 11), (18, 14), (20, 2), (21, 0), (22, 0), (23, 0), (24, 0), (25, 0), (26, 0), (28, 1), (28, 2), (28, 3)] σ0 σ0 := Fr_rfl
  refine En_Ps 2 (pc' := 2) (lv' := [(0, .ref 3), (1, .ref a)]) (st' := [.int ((Int32.ofInt 0)), .ref 3]) rfl ?_
  refine En_put (j := 5) rfl rfl rfl (by decide +kernel : TG 3 = 3) (by decide +kernel) rfl (vI (l := 0) (u := 3) (by decide +kernel) (by decide : (Int32.ofInt 0).toInt = 0) (by omega) (by omega)) hσ0 hF0 (by decide +kernel) (fun σ1 h2 h3 h4 h5 => ?_)
  have h6 := OTH_pn (OTH_0 (a := a) (σ := σ0)) h5 (by decide +kernel : TG 3 = 3) (by decide)
  refine En_Ps 2 (pc' := 7) (lv' := [(0, .ref 3), (1, .ref a)]) (st' := [.int ((Int32.ofInt (-1))), .ref 3]) rfl ?_
  refine En_put (j := 6) rfl rfl rfl (by decide +kernel : TG 3 = 3) (by decide +kernel) rfl (vI (l := (-1)) (u := 1600) (by decide +kernel) (by decide : (Int32.ofInt (-1)).toInt = -1) (by omega) (by omega)) h2 h3 (by decide +kernel) (fun σ7 h8 h9 h10 h11 => ?_)
  have h12 := OTH_pn h6 h11 (by decide +kernel : TG 3 = 3) (by decide)
  refine En_Ps 2 (pc' := 12) (lv' := [(0, .ref 3), (1, .ref a)]) (st' := [.int ((Int32.ofInt 0)), .ref 3]) rfl ?_
  refine En_put (j := 3) rfl rfl rfl (by decide +kernel : TG 3 = 3) (by decide +kernel) rfl (vI (l := 0) (u := 1600) (by decide +kernel) (by decide : (Int32.ofInt 0).toInt = 0) (by omega) (by omega)) h8 h9 (by decide +kernel) (fun σ13 h14 h15 h16 h17 => ?_)
  have h18 := OTH_pn h12 h17 (by decide +kernel : TG 3 = 3) (by decide)
  refine En_Ps 1 (pc' := 16) (lv' := [(0, .ref 3), (1, .ref a)]) (st' := [.ref a]) rfl ?_
  refine En_callV rfl rfl rfl rfl rfl rfl rfl rfl ha (by decide +kernel) rfl (c_42x σ13 h14 a ha hP (FXP_fr hP hX h15 (by decide +kernel))) (by decide) (by decide) (fun v20 σ21 h19 => ?_)
  obtain ⟨h22, h23, z25, h26, z27, h28, rfl, h24⟩ := h19
  have h29 := h24.2.2.2.2.2.2.2.2
  have h30 := Fr_trans h15 h23 (by decide +kernel)
  have h31 := OTH_tr h18 h29.1
  refine En_Ps 1 (pc' := 20) (lv' := [(0, .ref 3), (1, .ref a)]) (st' := [.ref 3]) rfl ?_
  refine En_callV rfl rfl rfl rfl rfl rfl rfl rfl (by decide +kernel : TG 3 = 3) (by decide +kernel) rfl (c_72x σ21 h22 ((Int32.ofInt 0)) ((h23 _ _ (inW (by decide +kernel : TG 3 = 3) (by decide +kernel))).trans h16) (TPc_fr hB h30 (by decide +kernel)) (by have := (by decide : (Int32.ofInt 0).toInt = 0); have := hB.1; omega)) (by decide) (by decide) (fun v33 σ34 h32 => ?_)
  obtain ⟨h35, h36, rfl, h37⟩ := h32
  have h38 := h37
  have h39 := Fr_trans h30 h36 (by decide +kernel)
  have h40 := OTH_fr h31 h36 (by decide +kernel)
  have h41 := KN_fr hP h29.2 h36 (by decide +kernel)
  refine En_Ps 2 (pc' := 25) (lv' := [(2, .int ((Int32.ofInt 0))), (0, .ref 3), (1, .ref a)]) (st' := []) rfl ?_
  have key25 : ∀ (n25 : Nat) (σ190 : SG) (y42 : Int32) (y43 : Int32) (y44 : Int32) (y45 : Int32), WT σ190 → Fr [(3, 1), (3, 2), (3, 3), (3, 4), (3, 5), (3, 6), (18, 0), (18, 1), (18, 2), (18, 3), (18, 6), (18, 7), (18, 8), (18, 11), (18, 14), (20, 2), (21, 0), (22, 0), (23, 0), (24, 0), (25, 0), (26, 0), (28, 1), (28, 2), (28, 3)] σ0 σ190 → (σ190 3)[5]? = some (.int y43) → (σ190 a)[0]? = some (.int y44) → (σ190 a)[1]? = some (.int y45) → 0 ≤ y42.toInt → y42.toInt ≤ 1601 → 0 ≤ y43.toInt → y43.toInt ≤ 3 → 0 ≤ y44.toInt → y44.toInt ≤ 1601 → (-1) ≤ y45.toInt → y45.toInt ≤ 4 → -y45.toInt - y43.toInt ≤ 0 → -y45.toInt - y44.toInt ≤ 0 → y42.toInt - y44.toInt + z25.toInt ≤ 0 → -z25.toInt - y42.toInt + y44.toInt ≤ 0 → -y42.toInt + 1601 < (n25 : Int) → OTH a σ0 σ190 → RLI By Nb a σ190 y42.toInt → En 7 159 none mr_60 (P_60x σ0 By Nb a) 25 [(0, .ref 3), (1, .ref a), (2, .int y42)] [] σ190 := by
    intro n25
    induction n25 with
    | zero =>
      intro σ190 y42 y43 y44 y45 h191 h192 h193 h194 h195 h196 h197 h198 h199 h200 h201 h202 h203 h204 h205 h206 h207 h208 h209 h210
      obtain ⟨S211, f212, h213, h214, h215, h216⟩ := h210
      exfalso; omega
    | succ n25 ih25 =>
      intro σ190 y42 y43 y44 y45 h191 h192 h193 h194 h195 h196 h197 h198 h199 h200 h201 h202 h203 h204 h205 h206 h207 h208 h209 h210
      obtain ⟨S229, f230, h231, h232, h233, h234⟩ := h210
      refine En_Ps 2 (pc' := 29) (lv' := [(0, .ref 3), (1, .ref a), (2, .int y42)]) (st' := [.int (((Int16.ofInt 1600).toInt32)), .int y42]) rfl ?_
      refine En_icGt _ rfl (by decide : ((Int16.ofInt 1600).toInt32).toInt = 1600) rfl (fun h235 => ?_) (fun h235 => ?_)
      · exact En_ret (v := none) rfl rfl rfl ⟨h191, h192, y43, h193, y45, h195, rfl, ⟨by omega, by omega, by omega, by omega, by omega, ⟨h209, RLI_x h231 h232 h233 (fun zz => by omega)⟩⟩⟩
      · refine En_Ps 1 (pc' := 33) (lv' := [(0, .ref 3), (1, .ref a), (2, .int y42)]) (st' := [.ref 3]) rfl ?_
        refine En_getI (j := 1) (l := 0) (u := 4) rfl rfl rfl (by decide +kernel : TG 3 = 3) (by decide +kernel) h191 (by decide +kernel) (fun z237 h236 h238 h239 => ?_)
        have h240 := CT_k h231 h193
        have h241 : Imp (S229.1 = 0) (tK By Nb S229.2.2.1 = z237.toInt) := CT_t h231 h236
        refine En_iEq _ rfl rfl (fun h242 => ?_) (fun h242 => ?_)
        · exact En_ret (v := none) rfl rfl rfl ⟨h191, h192, y43, h193, y45, h195, rfl, ⟨by omega, by omega, by omega, by omega, by omega, ⟨h209, RLI_x h231 h232 h233 (fun zz => by (try have i0 := Imp_m h241 (by omega)); omega)⟩⟩⟩
        · refine En_Ps 1 (pc' := 40) (lv' := [(0, .ref 3), (1, .ref a), (2, .int y42)]) (st' := [.ref 3]) rfl ?_
          refine En_getK (j := 5) h193 rfl rfl rfl (by decide +kernel : TG 3 = 3) (by decide +kernel) ?_
          have h243 := CT_k h231 h193
          refine En_iNe _ rfl rfl (fun h244 => ?_) (fun h244 => ?_)
          · exact En_ret (v := none) rfl rfl rfl ⟨h191, h192, y43, h193, y45, h195, rfl, ⟨by omega, by omega, by omega, by omega, by omega, ⟨h209, RLI_x h231 h232 h233 (fun zz => by (try have i0 := Imp_m h241 (by omega)); omega)⟩⟩⟩
          · have h245 : S229.1 = 0 := by omega
            try have h249 := Imp_m h241 (by omega)
            obtain ⟨h246, h247⟩ := h232 h245
            have h248 : S229.2.2.2 7 = y44.toInt := KN_v h246 (Or.inl (by decide)) (by decide) (by decide) (by rw [lcO_lt (by decide) (by decide), Nat.add_zero]) (by decide) h194
            have keyj199 : ∀ (σ250 : SG) (y253 : Int32) (y257 : Int32) (y261 : Int32), WT σ250 → Fr [(3, 1), (3, 2), (3, 3), (3, 4), (3, 5), (3, 6), (18, 0), (18, 1), (18, 2), (18, 3), (18, 6), (18, 7), (18, 8), (18, 11), (18, 14), (20, 2), (21, 0), (22, 0), (23, 0), (24, 0), (25, 0), (26, 0), (28, 1), (28, 2), (28, 3)] σ0 σ250 → (σ250 3)[5]? = some (.int y253) → 0 ≤ y253.toInt → y253.toInt ≤ 3 → (σ250 a)[1]? = some (.int y257) → (-1) ≤ y257.toInt → y257.toInt ≤ 4 → (σ250 a)[0]? = some (.int y261) → 0 ≤ y261.toInt → y261.toInt ≤ 1601 → -y257.toInt - y253.toInt ≤ 0 → y261.toInt - y44.toInt ≤ 0 ∧ -y261.toInt + y44.toInt ≤ 0 → OTH a σ0 σ250 → CT By Nb σ250 (fL1 By Nb S229) → Imp ((fL1 By Nb S229).1 = 0) (KN σ250 a (fL1 By Nb S229).2.2.2 (act (fL1 By Nb S229).2.2.2)) → En 7 159 none mr_60 (P_60x σ0 By Nb a) 199 [(0, .ref 3), (1, .ref a), (2, .int y42)] [] σ250 := by
              intro σ250 y253 y257 y261 h251 h252 h254 h255 h256 h258 h259 h260 h262 h263 h264 h265 h266 h267 h268 h269
              refine En_Ps 2 (pc' := 201) (lv' := [(0, .ref 3), (1, .ref a), (2, .int y42)]) (st' := [.ref 3, .ref 3]) rfl ?_
              refine En_getI (j := 1) (l := 0) (u := 4) rfl rfl rfl (by decide +kernel : TG 3 = 3) (by decide +kernel) h251 (by decide +kernel) (fun z271 h270 h272 h273 => ?_)
              have h274 := CT_k h268 h254
              have h275 : Imp ((fL1 By Nb S229).1 = 0) (tK By Nb (fL1 By Nb S229).2.2.1 = z271.toInt) := CT_t h268 h270
              refine En_Ps 1 (pc' := 205) (lv' := [(0, .ref 3), (1, .ref a), (2, .int y42)]) (st' := [.int ((Int32.ofInt 3)), .int z271, .ref 3]) rfl ?_
              refine En_icNe _ rfl (by decide : (Int32.ofInt 3).toInt = 3) rfl (fun h276 => ?_) (fun h276 => ?_)
              · refine En_Ps 1 (pc' := 213) (lv' := [(0, .ref 3), (1, .ref a), (2, .int y42)]) (st' := [.int ((Int32.ofInt 0)), .ref 3]) rfl ?_
                have := (by decide : ((Int32.ofInt 0)).toInt = 0)
                refine En_callV rfl rfl rfl rfl rfl rfl rfl rfl (by decide +kernel : TG 3 = 3) (by decide +kernel) rfl (c_59x σ250 h251 ((Int32.ofInt 0)) (geI (by decide : (Int32.ofInt 0).toInt = 0) (by omega)) (leI (by decide : (Int32.ofInt 0).toInt = 0) (by omega)) y253 h254 h268) (by decide) (by decide) (fun v278 σ279 h277 => ?_)
                obtain ⟨h280, h281, z283, h284, rfl, h282⟩ := h277
                have h285 := h282.2.2.2.2.2.2.2
                have h286 := Fr_trans h252 h281 (by decide +kernel)
                have h287 := OTH_fr h267 h281 (by decide +kernel)
                have h288 : pss By Nb ((Int32.ofInt 0)).toInt (fL1 By Nb S229) = pss By Nb (if tK By Nb (fL1 By Nb S229).2.2.1 = 3 then 1 else 0) (fL1 By Nb S229) := pss_cg2 (fun zz => by (try have i0 := Imp_m h275 (by omega)); first | (rw [if_pos (by omega)]; omega) | (rw [if_neg (by omega)]; omega))
                obtain ⟨S289, h290⟩ : ∃ q : PS, q = pss By Nb (if tK By Nb (fL1 By Nb S229).2.2.1 = 3 then 1 else 0) (fL1 By Nb S229) := ⟨_, rfl⟩
                have h291 : CT By Nb σ279 S289 := by rw [h290]; exact (CT_eq h285 h288)
                have h292 := CT_k h291 h284
                have h293 : S289.2.2.2 = (fL1 By Nb S229).2.2.2 := by rw [h290]; exact pss_w
                have h294 : Imp (S289.1 = 0) ((fL1 By Nb S229).1 = 0) := fun z => (pss_g (by rw [h288, ← h290]; exact z)).1
                have h295 : Imp (S289.1 = 0) (((Int32.ofInt 0)).toInt = 1) := fun z => (pss_g (by rw [h288, ← h290]; exact z)).2.1
                have h296 : Imp (S289.1 = 0) (KN σ279 a S289.2.2.2 (act S289.2.2.2)) := fun z => by (try have i0 := Imp_m h295 (by omega)); (try have i1 := Imp_m h294 (by omega)); (try have i2 := Imp_m h275 (by omega)); rw [h293]; exact KN_fr hP (Imp_m h269 (by omega)) h281 (by decide +kernel)
                have h297 := Imp_m h282.2.2.2.2.2.2.1 (by omega)
                refine En_Ps 2 (pc' := 218) (lv' := [(0, .ref 3), (1, .ref a), (2, .int y42)]) (st' := [.ref a, .ref a]) rfl ?_
                refine En_getK (j := 0) ((h281 _ _ (inW ha (by decide +kernel))).trans h262) rfl rfl rfl ha (by decide +kernel) ?_
                refine En_Ps 2 (pc' := 223) (lv' := [(0, .ref 3), (1, .ref a), (2, .int y42)]) (st' := [.int ((y261 + ((Int32.ofInt 1)))), .ref a]) rfl ?_
                refine En_top (addI rfl (by decide : (Int32.ofInt 1).toInt = 1) (by omega) (by omega)) (fun z298 h299 => ?_)
                refine En_put (j := 0) rfl rfl rfl ha (by decide +kernel) rfl (vI (l := 0) (u := 1601) (by decide +kernel) rfl (by omega) (by omega)) h280 h286 (by decide +kernel) (fun σ300 h301 h302 h303 h304 => ?_)
                have h305 := OTH_pj h287 h304 (by decide)
                obtain ⟨S306, h307⟩ : ∃ q : PS, q = wst S289 7 (S229.2.2.2 7 + 1) := ⟨_, rfl⟩
                have h308 : CT By Nb σ300 S306 := by rw [h307]; exact CT_wst (CT_ne h291 h304 (by have := hP; unfold PLA at this; omega))
                have h309 : Imp (S306.1 = 0) (KN σ300 a S306.2.2.2 (act S306.2.2.2)) := fun zz => by rw [h307] at zz ⊢; exact KN_sub (KN_st (j := 7) (v := S229.2.2.2 7 + 1) (Imp_m h296 zz) h303 h304 (by decide) (by decide) (by rw [lcO_lt (by decide) (by decide), Nat.add_zero]) (by decide) (by omega)) (fun t t0 t1 y => Or.inl (act_low (by decide) y))
                have h310 : fLine By Nb S229 = S306 := fL_line h290 h307
                have h311 : S306.2.2.2 7 = S229.2.2.2 7 + 1 := by rw [h307]; show (if (7 : Int) = 7 then S229.2.2.2 7 + 1 else S289.2.2.2 7) = S229.2.2.2 7 + 1; exact if_pos rfl
                refine En_Ps 1 (pc' := 229) (lv' := [(2, .int ((y42 + Int32.ofInt 1))), (0, .ref 3), (1, .ref a)]) (st' := []) rfl ?_
                refine En_lv1 (addI rfl (by decide : (Int32.ofInt 1).toInt = 1) (by omega) (by omega)) (fun z312 h313 => ?_)
                refine En_Ps 1 (pc' := 25) (lv' := [(2, .int z312), (0, .ref 3), (1, .ref a)]) (st' := []) rfl ?_
                refine En_lv (lv := [(0, .ref 3), (1, .ref a), (2, .int z312)]) ⟨rfl, rfl, rfl, trivial⟩ ?_
                exact ih25 σ300 z312 z283 z298 y257 h301 h302 ((h304 _ _ (Or.inr (by decide))).trans h284) h303 ((h304 _ _ (Or.inr (by decide))).trans ((h281 _ _ (inW ha (by decide +kernel))).trans h258)) (by omega) (by omega) (by omega) (by omega) (by omega) (by omega) (by omega) (by omega) (by omega) (by omega) (by omega) (by omega) (by omega) (h305) (RLI_s h233 h234 (by omega) h245 (by omega) h310 h308 h309 h311 (by omega))
              · refine En_Ps 2 (pc' := 213) (lv' := [(0, .ref 3), (1, .ref a), (2, .int y42)]) (st' := [.int ((Int32.ofInt 1)), .ref 3]) rfl ?_
                have := (by decide : ((Int32.ofInt 1)).toInt = 1)
                refine En_callV rfl rfl rfl rfl rfl rfl rfl rfl (by decide +kernel : TG 3 = 3) (by decide +kernel) rfl (c_59x σ250 h251 ((Int32.ofInt 1)) (geI (by decide : (Int32.ofInt 1).toInt = 1) (by omega)) (leI (by decide : (Int32.ofInt 1).toInt = 1) (by omega)) y253 h254 h268) (by decide) (by decide) (fun v315 σ316 h314 => ?_)
                obtain ⟨h317, h318, z320, h321, rfl, h319⟩ := h314
                have h322 := h319.2.2.2.2.2.2.2
                have h323 := Fr_trans h252 h318 (by decide +kernel)
                have h324 := OTH_fr h267 h318 (by decide +kernel)
                have h325 : pss By Nb ((Int32.ofInt 1)).toInt (fL1 By Nb S229) = pss By Nb (if tK By Nb (fL1 By Nb S229).2.2.1 = 3 then 1 else 0) (fL1 By Nb S229) := pss_cg2 (fun zz => by (try have i0 := Imp_m h275 (by omega)); first | (rw [if_pos (by omega)]; omega) | (rw [if_neg (by omega)]; omega))
                obtain ⟨S326, h327⟩ : ∃ q : PS, q = pss By Nb (if tK By Nb (fL1 By Nb S229).2.2.1 = 3 then 1 else 0) (fL1 By Nb S229) := ⟨_, rfl⟩
                have h328 : CT By Nb σ316 S326 := by rw [h327]; exact (CT_eq h322 h325)
                have h329 := CT_k h328 h321
                have h330 : S326.2.2.2 = (fL1 By Nb S229).2.2.2 := by rw [h327]; exact pss_w
                have h331 : Imp (S326.1 = 0) ((fL1 By Nb S229).1 = 0) := fun z => (pss_g (by rw [h325, ← h327]; exact z)).1
                have h332 : Imp (S326.1 = 0) (((Int32.ofInt 1)).toInt = 1) := fun z => (pss_g (by rw [h325, ← h327]; exact z)).2.1
                have h333 : Imp (S326.1 = 0) (KN σ316 a S326.2.2.2 (act S326.2.2.2)) := fun z => by (try have i0 := Imp_m h332 (by omega)); (try have i1 := Imp_m h331 (by omega)); (try have i2 := Imp_m h275 (by omega)); rw [h330]; exact KN_fr hP (Imp_m h269 (by omega)) h318 (by decide +kernel)
                have h334 := Imp_m h319.2.2.2.2.1 (by omega)
                refine En_Ps 2 (pc' := 218) (lv' := [(0, .ref 3), (1, .ref a), (2, .int y42)]) (st' := [.ref a, .ref a]) rfl ?_
                refine En_getK (j := 0) ((h318 _ _ (inW ha (by decide +kernel))).trans h262) rfl rfl rfl ha (by decide +kernel) ?_
                refine En_Ps 2 (pc' := 223) (lv' := [(0, .ref 3), (1, .ref a), (2, .int y42)]) (st' := [.int ((y261 + ((Int32.ofInt 1)))), .ref a]) rfl ?_
                refine En_top (addI rfl (by decide : (Int32.ofInt 1).toInt = 1) (by omega) (by omega)) (fun z335 h336 => ?_)
                refine En_put (j := 0) rfl rfl rfl ha (by decide +kernel) rfl (vI (l := 0) (u := 1601) (by decide +kernel) rfl (by omega) (by omega)) h317 h323 (by decide +kernel) (fun σ337 h338 h339 h340 h341 => ?_)
                have h342 := OTH_pj h324 h341 (by decide)
                obtain ⟨S343, h344⟩ : ∃ q : PS, q = wst S326 7 (S229.2.2.2 7 + 1) := ⟨_, rfl⟩
                have h345 : CT By Nb σ337 S343 := by rw [h344]; exact CT_wst (CT_ne h328 h341 (by have := hP; unfold PLA at this; omega))
                have h346 : Imp (S343.1 = 0) (KN σ337 a S343.2.2.2 (act S343.2.2.2)) := fun zz => by rw [h344] at zz ⊢; exact KN_sub (KN_st (j := 7) (v := S229.2.2.2 7 + 1) (Imp_m h333 zz) h340 h341 (by decide) (by decide) (by rw [lcO_lt (by decide) (by decide), Nat.add_zero]) (by decide) (by omega)) (fun t t0 t1 y => Or.inl (act_low (by decide) y))
                have h347 : fLine By Nb S229 = S343 := fL_line h327 h344
                have h348 : S343.2.2.2 7 = S229.2.2.2 7 + 1 := by rw [h344]; show (if (7 : Int) = 7 then S229.2.2.2 7 + 1 else S326.2.2.2 7) = S229.2.2.2 7 + 1; exact if_pos rfl
                refine En_Ps 1 (pc' := 229) (lv' := [(2, .int ((y42 + Int32.ofInt 1))), (0, .ref 3), (1, .ref a)]) (st' := []) rfl ?_
                refine En_lv1 (addI rfl (by decide : (Int32.ofInt 1).toInt = 1) (by omega) (by omega)) (fun z349 h350 => ?_)
                refine En_Ps 1 (pc' := 25) (lv' := [(2, .int z349), (0, .ref 3), (1, .ref a)]) (st' := []) rfl ?_
                refine En_lv (lv := [(0, .ref 3), (1, .ref a), (2, .int z349)]) ⟨rfl, rfl, rfl, trivial⟩ ?_
                exact ih25 σ337 z349 z320 z335 y257 h338 h339 ((h341 _ _ (Or.inr (by decide))).trans h321) h340 ((h341 _ _ (Or.inr (by decide))).trans ((h318 _ _ (inW ha (by decide +kernel))).trans h258)) (by omega) (by omega) (by omega) (by omega) (by omega) (by omega) (by omega) (by omega) (by omega) (by omega) (by omega) (by omega) (by omega) (h342) (RLI_s h233 h234 (by omega) h245 (by omega) h347 h345 h346 h348 (by omega))
            refine En_Ps 1 (pc' := 47) (lv' := [(0, .ref 3), (1, .ref a), (2, .int y42)]) (st' := [.int y42]) rfl ?_
            refine En_iNe _ rfl rfl (fun h351 => ?_) (fun h351 => ?_)
            · refine En_Ps 1 (pc' := 59) (lv' := [(0, .ref 3), (1, .ref a), (2, .int y42)]) (st' := [.ref 3]) rfl ?_
              refine En_ldcS (i := 2) rfl rfl rfl ?_
              refine En_callV rfl rfl rfl rfl rfl rfl rfl rfl (by decide +kernel : TG 3 = 3) (by decide +kernel) rfl (c_71s2x σ190 h191 h231) (by decide) (by decide) (fun v353 σ354 h352 => ?_)
              obtain ⟨h355, h356, z358, rfl, h357⟩ := h352
              have h359 := h357.2.2
              obtain rfl : σ190 = σ354 := Fr_nil h356
              have h360 := h359
              try have h361 := Imp_m h360 (by omega)
              try have h362 := Imp_m h241 (by omega)
              refine En_iEq _ rfl rfl (fun h363 => ?_) (fun h363 => ?_)
              · refine En_Ps 1 (pc' := 76) (lv' := [(0, .ref 3), (1, .ref a), (2, .int y42)]) (st' := [.ref 3]) rfl ?_
                refine En_ldcS (i := 6) rfl rfl rfl ?_
                refine En_callV rfl rfl rfl rfl rfl rfl rfl rfl (by decide +kernel : TG 3 = 3) (by decide +kernel) rfl (c_71s6x σ190 h191 h231) (by decide) (by decide) (fun v365 σ366 h364 => ?_)
                obtain ⟨h367, h368, z370, rfl, h369⟩ := h364
                have h371 := h369.2.2
                obtain rfl : σ190 = σ366 := Fr_nil h368
                have h372 := h371
                try have h373 := Imp_m h372 (by omega)
                try have h374 := Imp_m h360 (by omega)
                try have h375 := Imp_m h241 (by omega)
                refine En_iEq _ rfl rfl (fun h376 => ?_) (fun h376 => ?_)
                · refine En_Ps 1 (pc' := 93) (lv' := [(0, .ref 3), (1, .ref a), (2, .int y42)]) (st' := [.ref 3]) rfl ?_
                  refine En_ldcS (i := 3) rfl rfl rfl ?_
                  refine En_callV rfl rfl rfl rfl rfl rfl rfl rfl (by decide +kernel : TG 3 = 3) (by decide +kernel) rfl (c_71s3x σ190 h191 h231) (by decide) (by decide) (fun v378 σ379 h377 => ?_)
                  obtain ⟨h380, h381, z383, rfl, h382⟩ := h377
                  have h384 := h382.2.2
                  obtain rfl : σ190 = σ379 := Fr_nil h381
                  have h385 := h384
                  try have h386 := Imp_m h385 (by omega)
                  try have h387 := Imp_m h372 (by omega)
                  try have h388 := Imp_m h360 (by omega)
                  try have h389 := Imp_m h241 (by omega)
                  refine En_iEq _ rfl rfl (fun h390 => ?_) (fun h390 => ?_)
                  · refine En_Ps 1 (pc' := 110) (lv' := [(0, .ref 3), (1, .ref a), (2, .int y42)]) (st' := [.ref 3]) rfl ?_
                    refine En_ldcS (i := 17) rfl rfl rfl ?_
                    refine En_callV rfl rfl rfl rfl rfl rfl rfl rfl (by decide +kernel : TG 3 = 3) (by decide +kernel) rfl (c_71s17x σ190 h191 h231) (by decide) (by decide) (fun v392 σ393 h391 => ?_)
                    obtain ⟨h394, h395, z397, rfl, h396⟩ := h391
                    have h398 := h396.2.2
                    obtain rfl : σ190 = σ393 := Fr_nil h395
                    have h399 := h398
                    try have h400 := Imp_m h399 (by omega)
                    try have h401 := Imp_m h385 (by omega)
                    try have h402 := Imp_m h372 (by omega)
                    try have h403 := Imp_m h360 (by omega)
                    try have h404 := Imp_m h241 (by omega)
                    refine En_iEq _ rfl rfl (fun h405 => ?_) (fun h405 => ?_)
                    · refine En_Ps 1 (pc' := 127) (lv' := [(0, .ref 3), (1, .ref a), (2, .int y42)]) (st' := [.ref 3]) rfl ?_
                      refine En_ldcS (i := 9) rfl rfl rfl ?_
                      refine En_callV rfl rfl rfl rfl rfl rfl rfl rfl (by decide +kernel : TG 3 = 3) (by decide +kernel) rfl (c_71s9x σ190 h191 h231) (by decide) (by decide) (fun v407 σ408 h406 => ?_)
                      obtain ⟨h409, h410, z412, rfl, h411⟩ := h406
                      have h413 := h411.2.2
                      obtain rfl : σ190 = σ408 := Fr_nil h410
                      have h414 := h413
                      try have h415 := Imp_m h414 (by omega)
                      try have h416 := Imp_m h399 (by omega)
                      try have h417 := Imp_m h385 (by omega)
                      try have h418 := Imp_m h372 (by omega)
                      try have h419 := Imp_m h360 (by omega)
                      try have h420 := Imp_m h241 (by omega)
                      refine En_iEq _ rfl rfl (fun h421 => ?_) (fun h421 => ?_)
                      · refine En_Ps 1 (pc' := 144) (lv' := [(0, .ref 3), (1, .ref a), (2, .int y42)]) (st' := [.ref 3]) rfl ?_
                        refine En_ldcS (i := 5) rfl rfl rfl ?_
                        refine En_callV rfl rfl rfl rfl rfl rfl rfl rfl (by decide +kernel : TG 3 = 3) (by decide +kernel) rfl (c_71s5x σ190 h191 h231) (by decide) (by decide) (fun v423 σ424 h422 => ?_)
                        obtain ⟨h425, h426, z428, rfl, h427⟩ := h422
                        have h429 := h427.2.2
                        obtain rfl : σ190 = σ424 := Fr_nil h426
                        have h430 := h429
                        try have h431 := Imp_m h430 (by omega)
                        try have h432 := Imp_m h414 (by omega)
                        try have h433 := Imp_m h399 (by omega)
                        try have h434 := Imp_m h385 (by omega)
                        try have h435 := Imp_m h372 (by omega)
                        try have h436 := Imp_m h360 (by omega)
                        try have h437 := Imp_m h241 (by omega)
                        refine En_iEq _ rfl rfl (fun h438 => ?_) (fun h438 => ?_)
                        · refine En_Ps 1 (pc' := 161) (lv' := [(0, .ref 3), (1, .ref a), (2, .int y42)]) (st' := [.ref 3]) rfl ?_
                          refine En_ldcS (i := 1) rfl rfl rfl ?_
                          refine En_callV rfl rfl rfl rfl rfl rfl rfl rfl (by decide +kernel : TG 3 = 3) (by decide +kernel) rfl (c_71s1x σ190 h191 h231) (by decide) (by decide) (fun v440 σ441 h439 => ?_)
                          obtain ⟨h442, h443, z445, rfl, h444⟩ := h439
                          have h446 := h444.2.2
                          obtain rfl : σ190 = σ441 := Fr_nil h443
                          have h447 := h446
                          try have h448 := Imp_m h447 (by omega)
                          try have h449 := Imp_m h430 (by omega)
                          try have h450 := Imp_m h414 (by omega)
                          try have h451 := Imp_m h399 (by omega)
                          try have h452 := Imp_m h385 (by omega)
                          try have h453 := Imp_m h372 (by omega)
                          try have h454 := Imp_m h360 (by omega)
                          try have h455 := Imp_m h241 (by omega)
                          refine En_iEq _ rfl rfl (fun h456 => ?_) (fun h456 => ?_)
                          · refine En_Ps 1 (pc' := 178) (lv' := [(0, .ref 3), (1, .ref a), (2, .int y42)]) (st' := [.ref 3]) rfl ?_
                            refine En_ldcS (i := 0) rfl rfl rfl ?_
                            refine En_callV rfl rfl rfl rfl rfl rfl rfl rfl (by decide +kernel : TG 3 = 3) (by decide +kernel) rfl (c_71s0x σ190 h191 h231) (by decide) (by decide) (fun v458 σ459 h457 => ?_)
                            obtain ⟨h460, h461, z463, rfl, h462⟩ := h457
                            have h464 := h462.2.2
                            obtain rfl : σ190 = σ459 := Fr_nil h461
                            have h465 := h464
                            try have h466 := Imp_m h465 (by omega)
                            try have h467 := Imp_m h447 (by omega)
                            try have h468 := Imp_m h430 (by omega)
                            try have h469 := Imp_m h414 (by omega)
                            try have h470 := Imp_m h399 (by omega)
                            try have h471 := Imp_m h385 (by omega)
                            try have h472 := Imp_m h372 (by omega)
                            try have h473 := Imp_m h360 (by omega)
                            try have h474 := Imp_m h241 (by omega)
                            refine En_iEq _ rfl rfl (fun h475 => ?_) (fun h475 => ?_)
                            · refine En_Ps 2 (pc' := 196) (lv' := [(0, .ref 3), (1, .ref a), (2, .int y42)]) (st' := [.int ((Int32.ofInt 1)), .ref 3]) rfl ?_
                              have := (by decide : ((Int32.ofInt 1)).toInt = 1)
                              refine En_callV rfl rfl rfl rfl rfl rfl rfl rfl (by decide +kernel : TG 3 = 3) (by decide +kernel) rfl (c_54x σ190 h191 ((Int32.ofInt 1)) (geI (by decide : (Int32.ofInt 1).toInt = 1) (by omega)) (leI (by decide : (Int32.ofInt 1).toInt = 1) (by omega)) y43 h193 h231) (by decide) (by decide) (fun v477 σ478 h476 => ?_)
                              obtain ⟨h479, h480, z482, h483, rfl, h481⟩ := h476
                              have h484 := h481.2.2.2.2.2.2
                              have h485 := Fr_trans h192 h480 (by decide +kernel)
                              have h486 := OTH_fr h209 h480 (by decide +kernel)
                              obtain ⟨S487, h488⟩ : ∃ q : PS, q = err By Nb 1 S229 := ⟨_, rfl⟩
                              have h489 : CT By Nb σ478 S487 := by rw [h488]; exact (CT_eq h484 (err_cg (by omega)))
                              have h490 := CT_k h489 h483
                              have h491 : Imp (S487.1 = 0) (tK By Nb S487.2.2.1 = z237.toInt) := CT_t h489 ((h480 _ _ (inW (by decide +kernel : TG 3 = 3) (by decide +kernel))).trans h236)
                              have h492 : Imp (S487.1 = 0) (KN σ478 a S487.2.2.2 (act S487.2.2.2)) := fun z => by rw [h488] at z; exact absurd z (err_ne (by decide))
                              have h493 := Imp_m h481.2.2.2.2.1 (by omega)
                              have h494 : fL1 By Nb S229 = S487 := by rw [h488]; exact (fL1_1 (by omega)).trans (fNx_n (by omega) (by omega) (by omega) (by omega) (by omega) (by omega) (by omega) (by omega))
                              exact keyj199 σ478 z482 y45 y44 h479 h485 h483 (by omega) (by omega) ((h480 _ _ (inW ha (by decide +kernel))).trans h195) (by omega) (by omega) ((h480 _ _ (inW ha (by decide +kernel))).trans h194) (by omega) (by omega) (by omega) (by omega) (h486) (CT_eq h489 h494.symm) (by rw [h494]; exact h492)
                            · refine En_Ps 2 (pc' := 188) (lv' := [(0, .ref 3), (1, .ref a), (2, .int y42)]) (st' := [.ref a, .ref 3]) rfl ?_
                              refine En_callV rfl rfl rfl rfl rfl rfl rfl rfl (by decide +kernel : TG 3 = 3) (by decide +kernel) rfl (c_61x σ190 h191 a ha y43 h193 y45 h195 (by omega) h231 (by omega) hP (FXP_fr hP hX h192 (by decide +kernel)) h246) (by decide) (by decide) (fun v496 σ497 h495 => ?_)
                              obtain ⟨h498, h499, z501, h502, rfl, h500⟩ := h495
                              have h503 := h500.2.2.2.2.2.2.2
                              have h504 := Fr_trans h192 h499 (by decide +kernel)
                              have h505 := OTH_fr h209 h499 (by decide +kernel)
                              obtain ⟨S506, h507⟩ : ∃ q : PS, q = fAhead By Nb S229 := ⟨_, rfl⟩
                              have h508 : CT By Nb σ497 S506 := by rw [h507]; exact h503.1
                              have h509 := CT_k h508 h502
                              have h510 : Imp (S506.1 = 0) (KN σ497 a S506.2.2.2 (act S506.2.2.2)) := fun z => by rw [h507] at z ⊢; exact h503.2 z
                              refine En_Ps 1 (pc' := 199) (lv' := [(0, .ref 3), (1, .ref a), (2, .int y42)]) (st' := []) rfl ?_
                              have h511 : fL1 By Nb S229 = S506 := by rw [h507]; exact (fL1_1 (by omega)).trans (fNx_0 (by omega) (by omega) (by omega) (by omega) (by omega) (by omega) (by omega) (by omega))
                              exact keyj199 σ497 z501 y45 y44 h498 h504 h502 (by omega) (by omega) ((h499 _ _ (inW ha (by decide +kernel))).trans h195) (by omega) (by omega) ((h499 _ _ (inW ha (by decide +kernel))).trans h194) (by omega) (by omega) (by omega) (by omega) (h505) (CT_eq h508 h511.symm) (by rw [h511]; exact h510)
                          · refine En_Ps 2 (pc' := 171) (lv' := [(0, .ref 3), (1, .ref a), (2, .int y42)]) (st' := [.ref a, .ref 3]) rfl ?_
                            refine En_callV rfl rfl rfl rfl rfl rfl rfl rfl (by decide +kernel : TG 3 = 3) (by decide +kernel) rfl (c_62x σ190 h191 a ha y43 h193 y45 h195 (by omega) h231 (by omega) hP (FXP_fr hP hX h192 (by decide +kernel)) h246) (by decide) (by decide) (fun v513 σ514 h512 => ?_)
                            obtain ⟨h515, h516, z518, h519, rfl, h517⟩ := h512
                            have h520 := h517.2.2.2.2.2.2.2
                            have h521 := Fr_trans h192 h516 (by decide +kernel)
                            have h522 := OTH_fr h209 h516 (by decide +kernel)
                            obtain ⟨S523, h524⟩ : ∃ q : PS, q = fCourse By Nb S229 := ⟨_, rfl⟩
                            have h525 : CT By Nb σ514 S523 := by rw [h524]; exact h520.1
                            have h526 := CT_k h525 h519
                            have h527 : Imp (S523.1 = 0) (KN σ514 a S523.2.2.2 (act S523.2.2.2)) := fun z => by rw [h524] at z ⊢; exact h520.2 z
                            refine En_Ps 1 (pc' := 199) (lv' := [(0, .ref 3), (1, .ref a), (2, .int y42)]) (st' := []) rfl ?_
                            have h528 : fL1 By Nb S229 = S523 := by rw [h524]; exact (fL1_1 (by omega)).trans (fNx_1 (by omega) (by omega) (by omega) (by omega) (by omega) (by omega) (by omega))
                            exact keyj199 σ514 z518 y45 y44 h515 h521 h519 (by omega) (by omega) ((h516 _ _ (inW ha (by decide +kernel))).trans h195) (by omega) (by omega) ((h516 _ _ (inW ha (by decide +kernel))).trans h194) (by omega) (by omega) (by omega) (by omega) (h522) (CT_eq h525 h528.symm) (by rw [h528]; exact h527)
                        · refine En_Ps 2 (pc' := 154) (lv' := [(0, .ref 3), (1, .ref a), (2, .int y42)]) (st' := [.ref a, .ref 3]) rfl ?_
                          refine En_callV rfl rfl rfl rfl rfl rfl rfl rfl (by decide +kernel : TG 3 = 3) (by decide +kernel) rfl (c_66x σ190 h191 a ha y43 h193 y45 h195 (by omega) h231 (by omega) hP (FXP_fr hP hX h192 (by decide +kernel)) h246) (by decide) (by decide) (fun v530 σ531 h529 => ?_)
                          obtain ⟨h532, h533, z535, h536, rfl, h534⟩ := h529
                          have h537 := h534.2.2.2.2.2.2.2
                          have h538 := Fr_trans h192 h533 (by decide +kernel)
                          have h539 := OTH_fr h209 h533 (by decide +kernel)
                          obtain ⟨S540, h541⟩ : ∃ q : PS, q = fHouse By Nb S229 := ⟨_, rfl⟩
                          have h542 : CT By Nb σ531 S540 := by rw [h541]; exact h537.1
                          have h543 := CT_k h542 h536
                          have h544 : Imp (S540.1 = 0) (KN σ531 a S540.2.2.2 (act S540.2.2.2)) := fun z => by rw [h541] at z ⊢; exact h537.2 z
                          refine En_Ps 1 (pc' := 199) (lv' := [(0, .ref 3), (1, .ref a), (2, .int y42)]) (st' := []) rfl ?_
                          have h545 : fL1 By Nb S229 = S540 := by rw [h541]; exact (fL1_1 (by omega)).trans (fNx_5 (by omega) (by omega) (by omega) (by omega) (by omega) (by omega))
                          exact keyj199 σ531 z535 y45 y44 h532 h538 h536 (by omega) (by omega) ((h533 _ _ (inW ha (by decide +kernel))).trans h195) (by omega) (by omega) ((h533 _ _ (inW ha (by decide +kernel))).trans h194) (by omega) (by omega) (by omega) (by omega) (h539) (CT_eq h542 h545.symm) (by rw [h545]; exact h544)
                      · refine En_Ps 2 (pc' := 137) (lv' := [(0, .ref 3), (1, .ref a), (2, .int y42)]) (st' := [.ref a, .ref 3]) rfl ?_
                        refine En_callV rfl rfl rfl rfl rfl rfl rfl rfl (by decide +kernel : TG 3 = 3) (by decide +kernel) rfl (c_68x σ190 h191 a ha y43 h193 y45 h195 (by omega) h231 (by omega) hP (FXP_fr hP hX h192 (by decide +kernel)) h246) (by decide) (by decide) (fun v547 σ548 h546 => ?_)
                        obtain ⟨h549, h550, z552, h553, rfl, h551⟩ := h546
                        have h554 := h551.2.2.2.2.2.2.2
                        have h555 := Fr_trans h192 h550 (by decide +kernel)
                        have h556 := OTH_fr h209 h550 (by decide +kernel)
                        obtain ⟨S557, h558⟩ : ∃ q : PS, q = fOwner By Nb S229 := ⟨_, rfl⟩
                        have h559 : CT By Nb σ548 S557 := by rw [h558]; exact h554.1
                        have h560 := CT_k h559 h553
                        have h561 : Imp (S557.1 = 0) (KN σ548 a S557.2.2.2 (act S557.2.2.2)) := fun z => by rw [h558] at z ⊢; exact h554.2 z
                        refine En_Ps 1 (pc' := 199) (lv' := [(0, .ref 3), (1, .ref a), (2, .int y42)]) (st' := []) rfl ?_
                        have h562 : fL1 By Nb S229 = S557 := by rw [h558]; exact (fL1_1 (by omega)).trans (fNx_9 (by omega) (by omega) (by omega) (by omega) (by omega))
                        exact keyj199 σ548 z552 y45 y44 h549 h555 h553 (by omega) (by omega) ((h550 _ _ (inW ha (by decide +kernel))).trans h195) (by omega) (by omega) ((h550 _ _ (inW ha (by decide +kernel))).trans h194) (by omega) (by omega) (by omega) (by omega) (h556) (CT_eq h559 h562.symm) (by rw [h562]; exact h561)
                    · refine En_Ps 2 (pc' := 120) (lv' := [(0, .ref 3), (1, .ref a), (2, .int y42)]) (st' := [.ref a, .ref 3]) rfl ?_
                      refine En_callV rfl rfl rfl rfl rfl rfl rfl rfl (by decide +kernel : TG 3 = 3) (by decide +kernel) rfl (c_70x σ190 h191 a ha y43 h193 y45 h195 (by omega) h231 (by omega) hP (FXP_fr hP hX h192 (by decide +kernel)) h246) (by decide) (by decide) (fun v564 σ565 h563 => ?_)
                      obtain ⟨h566, h567, z569, h570, rfl, h568⟩ := h563
                      have h571 := h568.2.2.2.2.2.2.2
                      have h572 := Fr_trans h192 h567 (by decide +kernel)
                      have h573 := OTH_fr h209 h567 (by decide +kernel)
                      obtain ⟨S574, h575⟩ : ∃ q : PS, q = fTwin By Nb S229 := ⟨_, rfl⟩
                      have h576 : CT By Nb σ565 S574 := by rw [h575]; exact h571.1
                      have h577 := CT_k h576 h570
                      have h578 : Imp (S574.1 = 0) (KN σ565 a S574.2.2.2 (act S574.2.2.2)) := fun z => by rw [h575] at z ⊢; exact h571.2 z
                      refine En_Ps 1 (pc' := 199) (lv' := [(0, .ref 3), (1, .ref a), (2, .int y42)]) (st' := []) rfl ?_
                      have h579 : fL1 By Nb S229 = S574 := by rw [h575]; exact (fL1_1 (by omega)).trans (fNx_17 (by omega) (by omega) (by omega) (by omega))
                      exact keyj199 σ565 z569 y45 y44 h566 h572 h570 (by omega) (by omega) ((h567 _ _ (inW ha (by decide +kernel))).trans h195) (by omega) (by omega) ((h567 _ _ (inW ha (by decide +kernel))).trans h194) (by omega) (by omega) (by omega) (by omega) (h573) (CT_eq h576 h579.symm) (by rw [h579]; exact h578)
                  · refine En_Ps 2 (pc' := 103) (lv' := [(0, .ref 3), (1, .ref a), (2, .int y42)]) (st' := [.ref a, .ref 3]) rfl ?_
                    refine En_callV rfl rfl rfl rfl rfl rfl rfl rfl (by decide +kernel : TG 3 = 3) (by decide +kernel) rfl (c_64x σ190 h191 a ha y43 h193 y45 h195 (by omega) h231 (by omega) hP (FXP_fr hP hX h192 (by decide +kernel)) h246) (by decide) (by decide) (fun v581 σ582 h580 => ?_)
                    obtain ⟨h583, h584, z586, h587, rfl, h585⟩ := h580
                    have h588 := h585.2.2.2.2.2.2.2
                    have h589 := Fr_trans h192 h584 (by decide +kernel)
                    have h590 := OTH_fr h209 h584 (by decide +kernel)
                    obtain ⟨S591, h592⟩ : ∃ q : PS, q = fExam By Nb S229 := ⟨_, rfl⟩
                    have h593 : CT By Nb σ582 S591 := by rw [h592]; exact h588.1
                    have h594 := CT_k h593 h587
                    have h595 : Imp (S591.1 = 0) (KN σ582 a S591.2.2.2 (act S591.2.2.2)) := fun z => by rw [h592] at z ⊢; exact h588.2 z
                    refine En_Ps 1 (pc' := 199) (lv' := [(0, .ref 3), (1, .ref a), (2, .int y42)]) (st' := []) rfl ?_
                    have h596 : fL1 By Nb S229 = S591 := by rw [h592]; exact (fL1_1 (by omega)).trans (fNx_3 (by omega) (by omega) (by omega))
                    exact keyj199 σ582 z586 y45 y44 h583 h589 h587 (by omega) (by omega) ((h584 _ _ (inW ha (by decide +kernel))).trans h195) (by omega) (by omega) ((h584 _ _ (inW ha (by decide +kernel))).trans h194) (by omega) (by omega) (by omega) (by omega) (h590) (CT_eq h593 h596.symm) (by rw [h596]; exact h595)
                · refine En_Ps 2 (pc' := 86) (lv' := [(0, .ref 3), (1, .ref a), (2, .int y42)]) (st' := [.ref a, .ref 3]) rfl ?_
                  refine En_callV rfl rfl rfl rfl rfl rfl rfl rfl (by decide +kernel : TG 3 = 3) (by decide +kernel) rfl (c_67x σ190 h191 a ha y43 h193 y45 h195 (by omega) h231 (by omega) hP (FXP_fr hP hX h192 (by decide +kernel)) h246) (by decide) (by decide) (fun v598 σ599 h597 => ?_)
                  obtain ⟨h600, h601, z603, h604, rfl, h602⟩ := h597
                  have h605 := h602.2.2.2.2.2.2.2
                  have h606 := Fr_trans h192 h601 (by decide +kernel)
                  have h607 := OTH_fr h209 h601 (by decide +kernel)
                  obtain ⟨S608, h609⟩ : ∃ q : PS, q = fLesson By Nb S229 := ⟨_, rfl⟩
                  have h610 : CT By Nb σ599 S608 := by rw [h609]; exact h605.1
                  have h611 := CT_k h610 h604
                  have h612 : Imp (S608.1 = 0) (KN σ599 a S608.2.2.2 (act S608.2.2.2)) := fun z => by rw [h609] at z ⊢; exact h605.2 z
                  refine En_Ps 1 (pc' := 199) (lv' := [(0, .ref 3), (1, .ref a), (2, .int y42)]) (st' := []) rfl ?_
                  have h613 : fL1 By Nb S229 = S608 := by rw [h609]; exact (fL1_1 (by omega)).trans (fNx_6 (by omega) (by omega))
                  exact keyj199 σ599 z603 y45 y44 h600 h606 h604 (by omega) (by omega) ((h601 _ _ (inW ha (by decide +kernel))).trans h195) (by omega) (by omega) ((h601 _ _ (inW ha (by decide +kernel))).trans h194) (by omega) (by omega) (by omega) (by omega) (h607) (CT_eq h610 h613.symm) (by rw [h613]; exact h612)
              · refine En_Ps 2 (pc' := 69) (lv' := [(0, .ref 3), (1, .ref a), (2, .int y42)]) (st' := [.ref a, .ref 3]) rfl ?_
                refine En_callV rfl rfl rfl rfl rfl rfl rfl rfl (by decide +kernel : TG 3 = 3) (by decide +kernel) rfl (c_63x σ190 h191 a ha y43 h193 y45 h195 (by omega) h231 (by omega) hP (FXP_fr hP hX h192 (by decide +kernel)) h246) (by decide) (by decide) (fun v615 σ616 h614 => ?_)
                obtain ⟨h617, h618, z620, h621, rfl, h619⟩ := h614
                have h622 := h619.2.2.2.2.2.2.2
                have h623 := Fr_trans h192 h618 (by decide +kernel)
                have h624 := OTH_fr h209 h618 (by decide +kernel)
                obtain ⟨S625, h626⟩ : ∃ q : PS, q = fDoor By Nb S229 := ⟨_, rfl⟩
                have h627 : CT By Nb σ616 S625 := by rw [h626]; exact h622.1
                have h628 := CT_k h627 h621
                have h629 : Imp (S625.1 = 0) (KN σ616 a S625.2.2.2 (act S625.2.2.2)) := fun z => by rw [h626] at z ⊢; exact h622.2 z
                refine En_Ps 1 (pc' := 199) (lv' := [(0, .ref 3), (1, .ref a), (2, .int y42)]) (st' := []) rfl ?_
                have h630 : fL1 By Nb S229 = S625 := by rw [h626]; exact (fL1_1 (by omega)).trans (fNx_2 (by omega))
                exact keyj199 σ616 z620 y45 y44 h617 h623 h621 (by omega) (by omega) ((h618 _ _ (inW ha (by decide +kernel))).trans h195) (by omega) (by omega) ((h618 _ _ (inW ha (by decide +kernel))).trans h194) (by omega) (by omega) (by omega) (by omega) (h624) (CT_eq h627 h630.symm) (by rw [h630]; exact h629)
            · refine En_Ps 2 (pc' := 52) (lv' := [(0, .ref 3), (1, .ref a), (2, .int y42)]) (st' := [.ref a, .ref 3]) rfl ?_
              refine En_callV rfl rfl rfl rfl rfl rfl rfl rfl (by decide +kernel : TG 3 = 3) (by decide +kernel) rfl (c_65x σ190 h191 a ha y43 h193 h231 (by omega) hP (FXP_fr hP hX h192 (by decide +kernel)) h246) (by decide) (by decide) (fun v632 σ633 h631 => ?_)
              obtain ⟨h634, h635, z637, h638, z639, h640, rfl, h636⟩ := h631
              have h641 := h636.2.2.2.2.2.2.2.2.2.2
              have h642 := Fr_trans h192 h635 (by decide +kernel)
              have h643 := OTH_tr h209 h641.1
              obtain ⟨S644, h645⟩ : ∃ q : PS, q = fFirst By Nb S229 := ⟨_, rfl⟩
              have h646 : CT By Nb σ633 S644 := by rw [h645]; exact h641.2.1
              have h647 := CT_k h646 h638
              have h648 : Imp (S644.1 = 0) (KN σ633 a S644.2.2.2 (act S644.2.2.2)) := fun z => by rw [h645] at z ⊢; exact h641.2.2 z
              refine En_Ps 1 (pc' := 199) (lv' := [(0, .ref 3), (1, .ref a), (2, .int y42)]) (st' := []) rfl ?_
              have h649 : fL1 By Nb S229 = S644 := by rw [h645]; exact fL1_0 (by omega)
              exact keyj199 σ633 z637 z639 y44 h634 h642 h638 (by omega) (by omega) h640 (by omega) (by omega) ((h635 _ _ (inW ha (by decide +kernel))).trans h194) (by omega) (by omega) (by omega) (by omega) (h643) (CT_eq h646 h649.symm) (by rw [h649]; exact h648)
  have := (by decide : (Int32.ofInt 0).toInt = 0)
  have := (by decide : (Int32.ofInt 0).toInt = 0)
  refine En_lv (lv := [(0, .ref 3), (1, .ref a), (2, .int ((Int32.ofInt 0)))]) ⟨rfl, rfl, rfl, trivial⟩ ?_
  exact key25 (Int.toNat (1601) + 1) σ34 ((Int32.ofInt 0)) ((Int32.ofInt 0)) z25 z27 h35 h39 ((h36 _ _ (inW (by decide +kernel : TG 3 = 3) (by decide +kernel))).trans ((h23 _ _ (inW (by decide +kernel : TG 3 = 3) (by decide +kernel))).trans ((h17 _ _ (Or.inr (by decide))).trans ((h11 _ _ (Or.inr (by decide))).trans h4)))) ((h36 _ _ (inW ha (by decide +kernel))).trans h26) ((h36 _ _ (inW ha (by decide +kernel))).trans h28) (by omega) (by omega) (by omega) (by omega) (by omega) (by omega) (by omega) (by omega) (by omega) (by omega) (by omega) (by omega) (by omega) (h40) (RLI_0 h38 (by decide) ((h36 _ _ (inW (by decide +kernel : TG 3 = 3) (by decide +kernel))).trans ((h23 _ _ (inW (by decide +kernel : TG 3 = 3) (by decide +kernel))).trans ((h17 _ _ (Or.inr (by decide))).trans ((h11 _ _ (Or.inr (by decide))).trans h4)))) (by decide) ((h36 _ _ (inW (by decide +kernel : TG 3 = 3) (by decide +kernel))).trans ((h23 _ _ (inW (by decide +kernel : TG 3 = 3) (by decide +kernel))).trans ((h17 _ _ (Or.inr (by decide))).trans h10))) (by decide) h41 (by decide))
/-- DoorSchool$Tape.append(I)V -/
abbrev P_90x (σ0 : SG) (a : Int32) (m : Int32) : PO := fun v σ => WT σ ∧ Fr [(1, 1), (2, 0)] σ0 σ ∧ ∃ m1 : Int32, (σ 1)[1]? = some (.int m1) ∧ v = none ∧ -m1.toInt + 4 ≤ 0 ∧ m1.toInt - 1600 ≤ 0 ∧ -m1.toInt + m.toInt ≤ 0 ∧ m1.toInt - m.toInt - 4 ≤ 0 ∧ Imp (m.toInt - 1596 ≤ 0) (m1.toInt - m.toInt - 4 ≤ 0 ∧ -m1.toInt + m.toInt + 4 ≤ 0) ∧ APB σ0 σ 2 m.toInt (m1.toInt - m.toInt) a
set_option maxRecDepth 10000 in
set_option maxHeartbeats 4000000 in
theorem c_90x (σ0 : SG) (hσ0 : WT σ0) (a : Int32) (m : Int32) (h_m : (σ0 1)[1]? = some (.int m)) : En 0 0 none mr_90 (P_90x σ0 a m) 0 [(0, .ref 1), (1, .int a)] [] σ0 := by
  obtain ⟨hl_m, hu_m⟩ := WT_int hσ0 (g := 1) (by decide +kernel) (by decide +kernel) (l := 0) (u := 1600) (by decide +kernel) h_m
  have hF0 : Fr [(1, 1), (2, 0)] σ0 σ0 := Fr_rfl
  refine En_Ps 2 (pc' := 3) (lv' := [(2, .int (((Int8.ofInt 24).toInt32))), (0, .ref 1), (1, .int a)]) (st' := []) rfl ?_
  have key3 : ∀ (n3 : Nat) (σ3 : SG) (y1 : Int32) (y2 : Int32), WT σ3 → Fr [(1, 1), (2, 0)] σ0 σ3 → (σ3 1)[1]? = some (.int y2) → (-8) ≤ y1.toInt → y1.toInt ≤ 24 → 0 ≤ y2.toInt → y2.toInt ≤ 1600 → y1.toInt + 8 * y2.toInt - 8 * m.toInt - 24 ≤ 0 → 8 * m.toInt - y1.toInt - 8 * y2.toInt + 24 ≤ 0 → y1.toInt + 8 < (n3 : Int) → APB σ0 σ3 2 m.toInt (y2.toInt - m.toInt) a → En 0 0 none mr_90 (P_90x σ0 a m) 3 [(0, .ref 1), (1, .int a), (2, .int y1)] [] σ3 := by
    intro n3
    induction n3 with
    | zero =>
      intro σ3 y1 y2 h4 h5 h6 h7 h8 h9 h10 h11 h12 h13 h14
      exfalso; omega
    | succ n3 ih3 =>
      intro σ3 y1 y2 h4 h5 h6 h7 h8 h9 h10 h11 h12 h13 h14
      refine En_Ps 1 (pc' := 4) (lv' := [(0, .ref 1), (1, .int a), (2, .int y1)]) (st' := [.int y1]) rfl ?_
      refine En_iLt _ rfl rfl (fun h15 => ?_) (fun h15 => ?_)
      · exact En_ret (v := none) rfl rfl rfl ⟨h4, h5, y2, h6, rfl, ⟨by omega, by omega, by omega, by omega, fun _ => by omega, APB_c h14 (by omega)⟩⟩
      · refine En_Ps 1 (pc' := 8) (lv' := [(0, .ref 1), (1, .int a), (2, .int y1)]) (st' := [.ref 1]) rfl ?_
        refine En_getK (j := 1) h6 rfl rfl rfl (by decide +kernel : TG 1 = 1) (by decide +kernel) ?_
        refine En_Ps 1 (pc' := 12) (lv' := [(0, .ref 1), (1, .int a), (2, .int y1)]) (st' := [.ref 1, .int y2]) rfl ?_
        refine En_getU (j := 0) (u := 2) (g' := 2) (q := 0) rfl rfl rfl (by decide +kernel : TG 1 = 1) (by decide +kernel) h4 (by decide +kernel) (by decide +kernel) (fun h16 => ?_)
        refine En_alenN (n := 1600) rfl (by decide +kernel : TG 2 = 2) (by decide +kernel) (by decide +kernel) h4 ?_
        refine En_icGe _ rfl (by decide : (Int32.ofNat 1600).toInt = 1600) rfl (fun h18 => ?_) (fun h18 => ?_)
        · exact En_ret (v := none) rfl rfl rfl ⟨h4, h5, y2, h6, rfl, ⟨by omega, by omega, by omega, by omega, fun _ => by omega, APB_c h14 (by omega)⟩⟩
        · refine En_Ps 1 (pc' := 20) (lv' := [(0, .ref 1), (1, .int a), (2, .int y1)]) (st' := [.ref 1]) rfl ?_
          refine En_getK (j := 0) h16 rfl rfl rfl (by decide +kernel : TG 1 = 1) (by decide +kernel) ?_
          refine En_Ps 1 (pc' := 24) (lv' := [(0, .ref 1), (1, .int a), (2, .int y1)]) (st' := [.ref 1, .ref 2]) rfl ?_
          refine En_getK (j := 1) h6 rfl rfl rfl (by decide +kernel : TG 1 = 1) (by decide +kernel) ?_
          refine En_Ps 4 (pc' := 31) (lv' := [(0, .ref 1), (1, .int a), (2, .int y1)]) (st' := [.int ((((a.toUInt32 >>> (y1.toUInt32 &&& Int32.toUInt32 31)).toInt32).toInt8.toInt32)), .int y2, .ref 2]) rfl ?_
          refine En_nam (fun z19 h20 => ?_)
          have h21 := b4_u (j := y2.toInt - m.toInt) h20 (by omega) (by omega) (by omega)
          have h22 := b4_rng a (y2.toInt - m.toInt)
          refine En_bast (l := (-128)) (u := 127) rfl rfl (by decide +kernel : TG 2 = 2) (by decide +kernel) (narB rfl (by omega) (by omega)) (by omega) (lnI (by decide +kernel : LN _ = 1600) (by omega)) (FTsgl (by decide +kernel)) (rngI rfl (by omega) (by omega)) h4 h5 (by decide +kernel) (fun σ23 h24 h25 h26 h27 => ?_)
          have h28 := APB_s (J := y2.toInt) (y := y2.toInt - m.toInt) (y' := y2.toInt - m.toInt + 1) h14 h26 h27 (by omega) (by omega) (by omega) h21 rfl
          refine En_Ps 2 (pc' := 34) (lv' := [(0, .ref 1), (1, .int a), (2, .int y1)]) (st' := [.ref 1, .ref 1]) rfl ?_
          refine En_getK (j := 1) ((h27 _ _ (Or.inl (neTG (by decide +kernel : TG 1 = 1) (by decide +kernel : TG 2 = 2) (by decide)))).trans h6) rfl rfl rfl (by decide +kernel : TG 1 = 1) (by decide +kernel) ?_
          refine En_Ps 2 (pc' := 39) (lv' := [(0, .ref 1), (1, .int a), (2, .int y1)]) (st' := [.int ((y2 + ((Int32.ofInt 1)))), .ref 1]) rfl ?_
          refine En_top (addI rfl (by decide : (Int32.ofInt 1).toInt = 1) (by omega) (by omega)) (fun z29 h30 => ?_)
          refine En_put (j := 1) rfl rfl rfl (by decide +kernel : TG 1 = 1) (by decide +kernel) rfl (vI (l := 0) (u := 1600) (by decide +kernel) rfl (by omega) (by omega)) h24 h25 (by decide +kernel) (fun σ31 h32 h33 h34 h35 => ?_)
          have h36 := APB_ne h28 h35 (by decide)
          refine En_Ps 1 (pc' := 45) (lv' := [(2, .int ((y1 + Int32.ofInt (-8)))), (0, .ref 1), (1, .int a)]) (st' := []) rfl ?_
          refine En_lv1 (addI rfl (by decide : (Int32.ofInt (-8)).toInt = -8) (by omega) (by omega)) (fun z37 h38 => ?_)
          refine En_Ps 1 (pc' := 3) (lv' := [(2, .int z37), (0, .ref 1), (1, .int a)]) (st' := []) rfl ?_
          refine En_lv (lv := [(0, .ref 1), (1, .int a), (2, .int z37)]) ⟨rfl, rfl, rfl, trivial⟩ ?_
          exact ih3 σ31 z37 z29 h32 h33 h34 (by omega) (by omega) (by omega) (by omega) (by omega) (by omega) (by omega) (APB_c h36 (by omega))
  have := (by decide : ((Int8.ofInt 24).toInt32).toInt = 24)
  refine En_lv (lv := [(0, .ref 1), (1, .int a), (2, .int (((Int8.ofInt 24).toInt32)))]) ⟨rfl, rfl, rfl, trivial⟩ ?_
  exact key3 (Int.toNat (32) + 1) σ0 (((Int8.ofInt 24).toInt32)) m hσ0 hF0 h_m (by omega) (by omega) (by omega) (by omega) (by omega) (by omega) (by omega) (APB_0 (by omega))

