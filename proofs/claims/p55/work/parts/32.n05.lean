/-! 32.n05 -/
section
/-- DoorSchool$Reader.readAhead(LDoorSchool$Plan;)V -/
abbrev P_61x (σ0 : SG) (By : Int → Int) (Nb : Int) (Sp : PS) (a : Nat) (f : Int32) (sg : Int32) : PO := fun v σ => WT σ ∧ Fr [(3, 1), (3, 2), (3, 3), (3, 4), (3, 5), (3, 6), (26, 0)] σ0 σ ∧ ∃ f1 : Int32, (σ 3)[5]? = some (Value.int f1) ∧ v = none ∧ OUT σ0 σ a ∧ -f1.toInt ≤ 0 ∧ f1.toInt - 3 ≤ 0 ∧ -f1.toInt + f.toInt ≤ 0 ∧ f.toInt - f1.toInt ≤ 0 ∧ (CT By Nb σ (fAhead By Nb Sp) ∧ ((fAhead By Nb Sp).1 = 0 → KN σ a (fAhead By Nb Sp).2.2.2 (act (fAhead By Nb Sp).2.2.2)))
set_option maxRecDepth 10000 in
set_option maxHeartbeats 4000000 in
theorem c_61x {By : Int → Int} {Nb : Int} {Sp : PS} (σ0 : SG) (hσ0 : WT σ0) (a : Nat) (ha : TG a = 18) (f : Int32) (h_f : (σ0 3)[5]? = some (Value.int f)) (sg : Int32) (h_sg : (σ0 a)[1]? = some (Value.int sg)) (hp0 : -sg.toInt ≤ 0) (hC : CT By Nb σ0 Sp) (hg : Sp.1 = 0) (hP : PLA a) (hX : FXP σ0 a) (hK : KN σ0 a Sp.2.2.2 (act Sp.2.2.2)) : En 3 66 none mr_61 (P_61x σ0 By Nb Sp a f sg) 0 [(0, .ref 3), (1, .ref a)] [] σ0 := by
  obtain ⟨hl_f, hu_f⟩ := WT_int hσ0 (g := 3) (by decide +kernel) (by decide +kernel) (l := 0) (u := 3) (by decide +kernel) h_f
  obtain ⟨hl_sg, hu_sg⟩ := WT_int hσ0 (g := 18) ha (by decide +kernel) (l := (-1)) (u := 4) (by decide +kernel) h_sg
  have hF0 : Fr [(3, 1), (3, 2), (3, 3), (3, 4), (3, 5), (3, 6), (26, 0)] σ0 σ0 := Fr_rfl
  have h1 := CT_k hC h_f
  obtain ⟨z3, h2, h4, h5⟩ := WT_peekI hσ0 ha (by decide +kernel : FT 18 11 = (0, 0, 6)) (by decide +kernel)
  have h6 : Sp.2.2.2 5 = z3.toInt := KN_v hK (Or.inl (by decide)) (by decide) (by decide) (by rw [lcO_lt (by decide) (by decide), Nat.add_zero]) rfl h2
  refine En_Ps 1 (pc' := 1) (lv' := [(0, .ref 3), (1, .ref a)]) (st' := [.ref 3]) rfl ?_
  obtain ⟨z8, h7, h9, h10⟩ := WT_peekI hσ0 tgz_3 (by decide +kernel : FT 3 3 = (0, 0, 1600)) (by decide +kernel)
  refine En_callV rfl rfl rfl rfl rfl rfl rfl rfl tgz_3 (by decide +kernel) rfl (c_72x σ0 hσ0 z8 h7 hC.1 (CT_at hC (by (first | exact q_d2dcd30e56 hg | omega)) h7)) (by decide) (by decide) (fun v12 σ13 h11 => ?_)
  obtain ⟨h14, h15, rfl, h16⟩ := h11
  have h17 := h16
  have h18 := Fr_trans hF0 h15 (by decide +kernel)
  obtain ⟨S19, h20⟩ : ∃ q : PS, q = adv By Nb Sp := ⟨_, rfl⟩
  have h21 : CT By Nb σ13 S19 := by rw [h20]; exact (CT_adv hC (by (first | exact q_d2dcd30e56 hg | omega)) h7 h15 (by decide +kernel) h17.2)
  have h22 := CT_k h21 ((h15 _ _ (inW tgz_3 (by decide +kernel))).trans h_f)
  have h23 : S19.2.2.2 = Sp.2.2.2 := by rw [h20]; exact adv_w
  have h24 : S19.1 = Sp.1 := by rw [h20]; exact adv_1
  have h25 := KN_fr hP hK h15 (by decide +kernel)
  have h26 : S19.2.2.2 = Sp.2.2.2 := h23.trans (rfl : Sp.2.2.2 = Sp.2.2.2)
  have o27 : OUT σ0 σ13 a := OUT_fr OUT_0 h15 (by decide +kernel)
  refine En_Ps 3 (pc' := 7) (lv' := [(0, .ref 3), (1, .ref a)]) (st' := [.ref a, .int ((Int32.ofInt 0)), .ref 3]) rfl ?_
  refine En_getK (j := 11) ((h15 _ _ (inW ha (by decide +kernel))).trans h2) rfl rfl rfl ha (by decide +kernel) ?_
  refine En_Ps 2 (pc' := 12) (lv' := [(0, .ref 3), (1, .ref a)]) (st' := [.int ((z3 - ((Int32.ofInt 1)))), .int ((Int32.ofInt 0)), .ref 3]) rfl ?_
  refine En_top (subI rfl (by decide : (Int32.ofInt 1).toInt = 1) (by first | exact q_93f9478bef h4 | omega) (by first | exact q_9320ba2c05 h5 | omega)) (fun z28 h29 => ?_)
  have := (by decide : ((Int32.ofInt 0)).toInt = 0)
  refine En_callV rfl rfl rfl rfl rfl rfl rfl rfl tgz_3 (by decide +kernel) rfl (c_73x σ13 h14 ((Int32.ofInt 0)) z28 f ((h15 _ _ (inW tgz_3 (by decide +kernel))).trans h_f) h21) (by decide) (by decide) (fun v31 σ32 h30 => ?_)
  obtain ⟨h33, h34, z36, h37, z38, rfl, h35⟩ := h30
  have h39 := h35.2.2.2.2.2.2.2.2.2
  have h40 := Fr_trans h18 h34 (by decide +kernel)
  have h41 : tN By Nb ((Int32.ofInt 0)).toInt z28.toInt S19 = tN By Nb (0) (Sp.2.2.2 5 - 1) S19 := tN_cg2 (fun zz => by (first | exact q_d2dcd30e56 this | omega)) (fun zz => by (first | exact q_171d7b85d9 h29 h6 | omega))
  obtain ⟨S42, h43⟩ : ∃ q : PS, q = tN By Nb (0) (Sp.2.2.2 5 - 1) S19 := ⟨_, rfl⟩
  have h44 : CT By Nb σ32 S42 := by rw [h43]; exact (CT_eq h39.1 h41)
  have h45 := CT_k h44 h37
  have h46 : Imp (S42.1 = 0) (z38.toInt = tV By Nb S19.2.2.1) := fun z => Imp_m h39.2 (by rw [h41, ← h43]; exact z)
  have h47 : Imp (S42.1 = 0) (S19.1 = 0 ∧ tK By Nb S19.2.2.1 = 2 ∧ 0 ≤ tV By Nb S19.2.2.1 ∧ tV By Nb S19.2.2.1 ≤ Sp.2.2.2 5 - 1) := fun z => tN_gg (by rw [← h43]; exact z)
  have h48 : S42.2.2.2 = S19.2.2.2 := by rw [h43]; exact tN_w
  have h49 := KN_fr hP h25 h34 (by decide +kernel)
  have h50 : S42.2.2.2 = Sp.2.2.2 := h48.trans h26
  have o51 : OUT σ0 σ32 a := OUT_fr o27 h34 (by decide +kernel)
  have h52 := Imp_m h35.2.2.2.2.2.2.2.1 (by first | exact q_7d8964ea46 h29 h4 | omega)
  have h53 := Imp_m h35.2.2.2.2.2.2.2.2.1 (by (first | exact q_83da3d7e14 this | omega))
  refine En_Ps 5 (pc' := 20) (lv' := [(2, .int z38), (0, .ref 3), (1, .ref a)]) (st' := [.int ((z38 + ((Int32.ofInt 1)))), .ref 3]) rfl ?_
  refine En_top (addI rfl (by decide : (Int32.ofInt 1).toInt = 1) (by first | exact q_01db6a173f h53 | omega) (by first | exact q_d957616b8b h35.1 | omega)) (fun z54 h55 => ?_)
  refine En_Ps 1 (pc' := 21) (lv' := [(2, .int z38), (0, .ref 3), (1, .ref a)]) (st' := [.ref a, .int z54, .ref 3]) rfl ?_
  refine En_getK (j := 11) ((h34 _ _ (inW ha (by decide +kernel))).trans ((h15 _ _ (inW ha (by decide +kernel))).trans h2)) rfl rfl rfl ha (by decide +kernel) ?_
  refine En_Ps 2 (pc' := 26) (lv' := [(2, .int z38), (0, .ref 3), (1, .ref a)]) (st' := [.int ((z3 - ((Int32.ofInt 1)))), .int z54, .ref 3]) rfl ?_
  refine En_top (subI rfl (by decide : (Int32.ofInt 1).toInt = 1) (by first | exact q_93f9478bef h4 | omega) (by first | exact q_9320ba2c05 h5 | omega)) (fun z56 h57 => ?_)
  refine En_callV rfl rfl rfl rfl rfl rfl rfl rfl tgz_3 (by decide +kernel) rfl (c_73x σ32 h33 z54 z56 z36 h37 h44) (by decide) (by decide) (fun v59 σ60 h58 => ?_)
  obtain ⟨h61, h62, z64, h65, z66, rfl, h63⟩ := h58
  have h67 := h63.2.2.2.2.2.2.2.2.2
  have h68 := Fr_trans h40 h62 (by decide +kernel)
  have h69 : tN By Nb z54.toInt z56.toInt S42 = tN By Nb ((tV By Nb S19.2.2.1) + 1) (Sp.2.2.2 5 - 1) S42 := tN_cg2 (fun zz => by (try have i0 := Imp_m h47 (by (first | exact q_d2dcd30e56 zz | omega))); (try have i1 := Imp_m h46 (by (first | exact q_d2dcd30e56 zz | omega))); (try have i2 := Imp_m h35.2.2.2.2.2.1 (by (first | exact q_d8d8e6600d h45 zz | omega))); (try have i3 := Imp_m h35.2.2.2.2.2.2.1 (by omega)); (first | exact q_a789fa27b0 i3.1 i2.1 this i0.2.2.1 h55 | omega)) (fun zz => by (try have i0 := Imp_m h47 (by (first | exact q_d2dcd30e56 zz | omega))); (try have i1 := Imp_m h46 (by (first | exact q_d2dcd30e56 zz | omega))); (try have i2 := Imp_m h35.2.2.2.2.2.1 (by (first | exact q_d8d8e6600d h45 zz | omega))); (try have i3 := Imp_m h35.2.2.2.2.2.2.1 (by omega)); (first | exact q_295c0de65a h57 h6 i3.1 i2.1 this | omega))
  obtain ⟨S70, h71⟩ : ∃ q : PS, q = tN By Nb ((tV By Nb S19.2.2.1) + 1) (Sp.2.2.2 5 - 1) S42 := ⟨_, rfl⟩
  have h72 : CT By Nb σ60 S70 := by rw [h71]; exact (CT_eq h67.1 h69)
  have h73 := CT_k h72 h65
  have h74 : Imp (S70.1 = 0) (z66.toInt = tV By Nb S42.2.2.1) := fun z => Imp_m h67.2 (by rw [h69, ← h71]; exact z)
  have h75 : Imp (S70.1 = 0) (S42.1 = 0 ∧ tK By Nb S42.2.2.1 = 2 ∧ (tV By Nb S19.2.2.1) + 1 ≤ tV By Nb S42.2.2.1 ∧ tV By Nb S42.2.2.1 ≤ Sp.2.2.2 5 - 1) := fun z => tN_gg (by rw [← h71]; exact z)
  have h76 : S70.2.2.2 = S42.2.2.2 := by rw [h71]; exact tN_w
  have h77 := KN_fr hP h49 h62 (by decide +kernel)
  have h78 : S70.2.2.2 = Sp.2.2.2 := h76.trans h50
  have o79 : OUT σ0 σ60 a := OUT_fr o51 h62 (by decide +kernel)
  have h80 := Imp_m h63.2.2.2.2.2.2.2.1 (by first | exact q_7d8964ea46 h57 h4 | omega)
  have h81 := Imp_m h63.2.2.2.2.2.2.2.2.1 (by first | exact q_c17a431393 h55 h53 | omega)
  refine En_Ps 2 (pc' := 31) (lv' := [(3, .int z66), (2, .int z38), (0, .ref 3), (1, .ref a)]) (st' := [.ref 3]) rfl ?_
  refine En_getK (j := 5) h65 rfl rfl rfl tgz_3 (by decide +kernel) ?_
  refine En_iNe _ rfl rfl (fun h82 => ?_) (fun h82 => ?_)
  · have h83 := Imp_m h63.2.2.2.2.2.2.1 (by first | exact q_e3350da514 h82 h63.2.1 | omega)
    have h84 : fAhead By Nb Sp = S70 := by unfold fAhead; (try dsimp only); first | (rw [← h20, ← h43, ← h71]; first | done | rfl) | (rw [← h20, ← h43, ← h71]; rw [if_pos (by omega)]; first | done | rfl) | (rw [← h20, ← h43, ← h71]; rw [if_neg (by (first | exact q_57b55acfde h82 h63.2.1 h73 | omega))]; first | done | rfl) | (rw [← h20, ← h43, ← h71]; rw [if_neg (by omega), if_pos (by omega)]; first | done | rfl) | (rw [← h20, ← h43, ← h71]; rw [if_neg (by omega), if_neg (by omega)]; first | done | rfl) | (rw [← h20, ← h43, ← h71]; rw [if_neg (by omega), if_neg (by omega), if_neg (by omega)]; first | done | rfl)
    exact En_ret (v := none) rfl rfl rfl ⟨h61, h68, z64, h65, rfl, ⟨o79, by first | exact q_bc42505ae9 h82 h63.2.1 | omega, by first | exact q_c733b715bf h63.2.2.1 | omega, by first | exact q_ccc3bb8fc9 h35.2.2.2.1 h63.2.2.2.1 | omega, by first | exact q_28bfca2c13 h35.2.2.2.1 h63.2.2.2.1 | omega, (by rw [h84]; exact ⟨h72, fun z => absurd z (by (first | exact q_ae2d14d533 h82 h63.2.1 h73 z | omega))⟩)⟩⟩
  · have h85 := Imp_m h35.2.2.2.2.2.1 (by first | exact q_31d5f588b1 h63.2.2.2.1 h82 | omega)
    have h86 := Imp_m h63.2.2.2.2.2.1 (by first | exact q_c5d285f1b9 h82 | omega)
    try have h87 := Imp_m h75 (by (first | exact q_ca23768860 h73 h82 | omega))
    try have h88 := Imp_m h74 (by (first | exact q_ca23768860 h73 h82 | omega))
    try have h89 := Imp_m h47 (by (first | exact q_d2dcd30e56 h87.1 | omega))
    try have h90 := Imp_m h46 (by (first | exact q_d2dcd30e56 h87.1 | omega))
    refine En_Ps 1 (pc' := 38) (lv' := [(3, .int z66), (2, .int z38), (0, .ref 3), (1, .ref a)]) (st' := [.ref a]) rfl ?_
    refine En_getR (j := 13) (g' := 26) (u := 0) rfl rfl rfl ha (by decide +kernel) h61 (by decide +kernel) (fun a92 h91 ha92 => ?_)
    refine En_Ps 2 (pc' := 43) (lv' := [(3, .int z66), (2, .int z38), (0, .ref 3), (1, .ref a)]) (st' := [.int z66, .ref a92, .int z66, .ref a92]) rfl ?_
    refine En_iald (l := 0) (u := 63) rfl rfl ha92 (by decide +kernel) h61 (by first | exact q_8411496380 h86.1 h55 h53 | omega) (lnI (by decide +kernel : LN _ = 6) (by first | exact q_6c4e5973a4 h80 h57 h5 | omega)) (FTsgl (by decide +kernel)) (fun z94 h93 h95 h96 => ?_)
    have h99 : a92 = a + 8 := ref_uniq h91 (FXP_fr hP hX h68 (by decide +kernel)).2.2.2.2.2.1
    have h98 := lc_c (m := (tV By Nb S42.2.2.1)) (by (first | exact q_9201ded2ec h87.2.2.1 h89.2.2.1 | omega)) (by (first | exact q_98659d5ae9 h87.2.2.2 h6 h5 | omega))
    have h97 : Sp.2.2.2 (155 + 2 * (tV By Nb S42.2.2.1)) = z94.toInt := KN_v h77 (Or.inr (Or.inr (Or.inr (Or.inr (Or.inr (Or.inl ⟨by (first | exact q_150b0faa5e h87.2.2.1 h89.2.2.1 | omega), by (first | exact q_6f25589a1b h87.2.2.2 h6 h5 | omega), Or.inl (by omega)⟩)))))) (by (first | exact q_3bde8bfdec h87.2.2.1 h89.2.2.1 | omega)) (by (first | exact q_f10000d037 h87.2.2.2 h6 h5 | omega)) (by omega) (by (first | exact q_46d7cae196 h88 h98.2.2.2 h87.2.2.1 h89.2.2.1 | omega)) h93
    refine En_Ps 4 (pc' := 48) (lv' := [(3, .int z66), (2, .int z38), (0, .ref 3), (1, .ref a)]) (st' := [.int ((z94 ||| ((Int32.ofInt 1) <<< (z38 &&& 31)))), .int z66, .ref a92]) rfl ?_
    refine En_nam (fun z100 h101 => ?_)
    have h102 := orP_v (x := z94) (y := z38) h101 rfl rfl (by (first | exact q_58e6e51dcc h95 | omega)) (by (first | exact q_8bf848900a h96 | omega)) (by (first | exact q_39e281d0cf h85.1 this | omega)) (by (first | exact q_455a230cc9 h55 h5 h86.1 h86.2 h57 | omega))
    have h103 : z100.toInt = orP (Sp.2.2.2 (155 + 2 * (tV By Nb S42.2.2.1))) (tV By Nb S19.2.2.1) := by rw [h102.1]; exact orP_cg (by (first | exact q_a8fb2024c1 h97 | omega)) (by (first | exact q_b1495600e7 h90 | omega))
    refine En_iast (l := 0) (u := 63) rfl rfl ha92 (by decide +kernel) (by first | exact q_8411496380 h86.1 h55 h53 | omega) (lnI (by decide +kernel : LN _ = 6) (by first | exact q_6c4e5973a4 h80 h57 h5 | omega)) (FTsgl (by decide +kernel)) (rngI rfl (by (first | exact q_58e6e51dcc h102.2.1 | omega)) (by (first | exact q_8bf848900a h102.2.2 | omega))) h61 h68 (by decide +kernel) (fun σ104 h105 h106 h107 h108 => ?_)
    have h109 : a92 = a + 8 := ref_uniq ((h108 _ _ (Or.inl (neTG ha ha92 (by decide)))).trans h91) (FXP_fr hP hX h106 (by decide +kernel)).2.2.2.2.2.1
    have h110 := lc_c (m := (tV By Nb S42.2.2.1)) (by (first | exact q_9201ded2ec h87.2.2.1 h89.2.2.1 | omega)) (by (first | exact q_98659d5ae9 h87.2.2.2 h6 h5 | omega))
    obtain ⟨S111, h112⟩ : ∃ q : PS, q = wst S70 (155 + 2 * (tV By Nb S42.2.2.1)) (orP (Sp.2.2.2 (155 + 2 * (tV By Nb S42.2.2.1))) (tV By Nb S19.2.2.1)) := ⟨_, rfl⟩
    have h113 : CT By Nb σ104 S111 := by rw [h112]; exact CT_wst (CT_ne h72 h108 (by have := hP; unfold PLA at this; omega))
    have h114 : KN σ104 a (uPd Sp.2.2.2 (155 + 2 * (tV By Nb S42.2.2.1)) (orP (Sp.2.2.2 (155 + 2 * (tV By Nb S42.2.2.1))) (tV By Nb S19.2.2.1))) (fun t => (act Sp.2.2.2 t ∨ t = 155 + 2 * (tV By Nb S42.2.2.1))) := KN_st h77 h107 h108 (by (first | exact q_3bde8bfdec h87.2.2.1 h89.2.2.1 | omega)) (by (first | exact q_f10000d037 h87.2.2.2 h6 h5 | omega)) (by omega) (by (first | exact q_46d7cae196 h88 h110.2.2.2 h87.2.2.1 h89.2.2.1 | omega)) (by (try have i0 := Imp_m h75 (by (first | exact q_ca23768860 h73 h82 | omega))); (try have i1 := Imp_m h74 (by (first | exact q_ca23768860 h73 h82 | omega))); (try have i2 := Imp_m h47 (by (first | exact q_d2dcd30e56 i0.1 | omega))); (try have i3 := Imp_m h46 (by (first | exact q_d2dcd30e56 i0.1 | omega))); (try have i4 := Imp_m h35.2.2.2.2.2.2.1 (by omega)); (try have i5 := Imp_m h63.2.2.2.2.2.2.1 (by (first | exact q_4722d6bc15 i4.1 h85.1 this | omega))); (first | exact q_a8fb2024c1 h103 | omega))
    have h115 : S111.2.2.2 = (uPd Sp.2.2.2 (155 + 2 * (tV By Nb S42.2.2.1)) (orP (Sp.2.2.2 (155 + 2 * (tV By Nb S42.2.2.1))) (tV By Nb S19.2.2.1))) := by rw [h112]; show uPd S70.2.2.2 _ _ = _; rw [h78]
    have h116 : S111.1 = S70.1 := by rw [h112]; rfl
    have h117 := CT_k h113 ((h108 _ _ (Or.inl (neTG tgz_3 ha92 (by decide)))).trans h65)
    have o118 : OUT σ0 σ104 a := OUT_st o79 h108 (by omega)
    have h119 : fAhead By Nb Sp = S111 := by unfold fAhead; (try dsimp only); first | (rw [← h20, ← h43, ← h71, ← h112]; first | done | rfl) | (rw [← h20, ← h43, ← h71, ← h112]; rw [if_pos (by (first | exact q_ca23768860 h73 h82 | omega))]; first | done | rfl) | (rw [← h20, ← h43, ← h71, ← h112]; rw [if_neg (by omega)]; first | done | rfl) | (rw [← h20, ← h43, ← h71, ← h112]; rw [if_neg (by omega), if_pos (by omega)]; first | done | rfl) | (rw [← h20, ← h43, ← h71, ← h112]; rw [if_neg (by omega), if_neg (by omega)]; first | done | rfl) | (rw [← h20, ← h43, ← h71, ← h112]; rw [if_neg (by omega), if_neg (by omega), if_neg (by omega)]; first | done | rfl)
    exact En_ret (v := none) rfl rfl rfl ⟨h105, h106, z64, ((h108 _ _ (Or.inl (neTG tgz_3 ha92 (by decide)))).trans h65), rfl, ⟨o118, by first | exact q_a555021d16 h63.2.1 | omega, by first | exact q_bd3fa30443 h82 | omega, by first | exact q_ccc3bb8fc9 h35.2.2.2.1 h63.2.2.2.1 | omega, by first | exact q_28bfca2c13 h35.2.2.2.1 h63.2.2.2.1 | omega, (by rw [h119]; exact ⟨h113, fun zz => by rw [h115]; exact KN_sub h114 (fun t t0 t1 y => Or.inl (act_in (by (first | exact q_aa523e793f h87.2.2.1 h89.2.2.1 | omega)) (by omega) y))⟩)⟩⟩
/-- DoorSchool$Reader.read(LDoorSchool$Plan;)V -/
abbrev P_60x (σ0 : SG) (By : Int → Int) (Nb : Int) (a : Nat) : PO := fun v σ => WT σ ∧ Fr [(3, 1), (3, 2), (3, 3), (3, 4), (3, 5), (3, 6), (18, 0), (18, 1), (18, 2), (18, 3), (18, 6), (18, 7), (18, 8), (18, 11), (18, 14), (20, 2), (21, 0), (22, 0), (23, 0), (24, 0), (25, 0), (26, 0), (28, 1), (28, 2), (28, 3)] σ0 σ ∧ ∃ f1 : Int32, (σ 3)[5]? = some (Value.int f1) ∧ ∃ sg1 : Int32, (σ a)[1]? = some (Value.int sg1) ∧ v = none ∧ OUT σ0 σ a ∧ -f1.toInt ≤ 0 ∧ f1.toInt - 3 ≤ 0 ∧ -sg1.toInt - 1 ≤ 0 ∧ sg1.toInt - 4 ≤ 0 ∧ -sg1.toInt - f1.toInt ≤ 0 ∧ (OTH a σ0 σ ∧ RDC By Nb a σ)
set_option maxRecDepth 10000 in
set_option maxHeartbeats 4000000 in
theorem c_60x {By : Int → Int} {Nb : Int} (σ0 : SG) (hσ0 : WT σ0) (a : Nat) (ha : TG a = 18) (hB : TPc By Nb σ0) (hP : PLA a) (hX : FXP σ0 a) : En 7 159 none mr_60 (P_60x σ0 By Nb a) 0 [(0, .ref 3), (1, .ref a)] [] σ0 := by
  have hF0 : Fr [(3, 1), (3, 2), (3, 3), (3, 4), (3, 5), (3, 6), (18, 0), (18, 1), (18, 2), (18, 3), (18, 6), (18, 7), (18, 8), (18, 11), (18, 14), (20, 2), (21, 0), (22, 0), (23, 0), (24, 0), (25, 0), (26, 0), (28, 1), (28, 2), (28, 3)] σ0 σ0 := Fr_rfl
  refine En_Ps 2 (pc' := 2) (lv' := [(0, .ref 3), (1, .ref a)]) (st' := [.int ((Int32.ofInt 0)), .ref 3]) rfl ?_
  refine En_put (j := 5) rfl rfl rfl tgz_3 (by decide +kernel) rfl (vI (l := 0) (u := 3) (by decide +kernel) (by decide : (Int32.ofInt 0).toInt = 0) (by decide) (by decide)) hσ0 hF0 (by decide +kernel) (fun σ1 h2 h3 h4 h5 => ?_)
  have h6 := OTH_pn (OTH_0 (a := a) (σ := σ0)) h5 tgz_3 (by decide)
  have o7 : OUT σ0 σ1 a := OUT_pn OUT_0 h5 tgz_3 (by decide)
  refine En_Ps 2 (pc' := 7) (lv' := [(0, .ref 3), (1, .ref a)]) (st' := [.int ((Int32.ofInt (-1))), .ref 3]) rfl ?_
  refine En_put (j := 6) rfl rfl rfl tgz_3 (by decide +kernel) rfl (vI (l := (-1)) (u := 1600) (by decide +kernel) (by decide : (Int32.ofInt (-1)).toInt = -1) (by decide) (by decide)) h2 h3 (by decide +kernel) (fun σ8 h9 h10 h11 h12 => ?_)
  have h13 := OTH_pn h6 h12 tgz_3 (by decide)
  have o14 : OUT σ0 σ8 a := OUT_pn o7 h12 tgz_3 (by decide)
  refine En_Ps 2 (pc' := 12) (lv' := [(0, .ref 3), (1, .ref a)]) (st' := [.int ((Int32.ofInt 0)), .ref 3]) rfl ?_
  refine En_put (j := 3) rfl rfl rfl tgz_3 (by decide +kernel) rfl (vI (l := 0) (u := 1600) (by decide +kernel) (by decide : (Int32.ofInt 0).toInt = 0) (by decide) (by decide)) h9 h10 (by decide +kernel) (fun σ15 h16 h17 h18 h19 => ?_)
  have h20 := OTH_pn h13 h19 tgz_3 (by decide)
  have o21 : OUT σ0 σ15 a := OUT_pn o14 h19 tgz_3 (by decide)
  refine En_Ps 1 (pc' := 16) (lv' := [(0, .ref 3), (1, .ref a)]) (st' := [.ref a]) rfl ?_
  refine En_callV rfl rfl rfl rfl rfl rfl rfl rfl ha (by decide +kernel) rfl (c_42x σ15 h16 a ha hP (FXP_fr hP hX h17 (by decide +kernel))) (by decide) (by decide) (fun v23 σ24 h22 => ?_)
  obtain ⟨h25, h26, z28, h29, z30, h31, rfl, h27⟩ := h22
  have h32 := h27.2.2.2.2.2.2.2.2.2
  have h33 := Fr_trans h17 h26 (by decide +kernel)
  have h34 := OTH_tr h20 h32.1
  have o35 : OUT σ0 σ24 a := OUT_tr o21 h27.1
  refine En_Ps 1 (pc' := 20) (lv' := [(0, .ref 3), (1, .ref a)]) (st' := [.ref 3]) rfl ?_
  refine En_callV rfl rfl rfl rfl rfl rfl rfl rfl tgz_3 (by decide +kernel) rfl (c_72x σ24 h25 ((Int32.ofInt 0)) ((h26 _ _ (inW tgz_3 (by decide +kernel))).trans h18) (TPc_fr hB h33 (by decide +kernel)) (by have := (by decide : (Int32.ofInt 0).toInt = 0); have := hB.1; (first | exact q_cd53164edb this (by decide) | omega))) (by decide) (by decide) (fun v37 σ38 h36 => ?_)
  obtain ⟨h39, h40, rfl, h41⟩ := h36
  have h42 := h41
  have h43 := Fr_trans h33 h40 (by decide +kernel)
  have h44 := OTH_fr h34 h40 (by decide +kernel)
  have h45 := KN_fr hP h32.2 h40 (by decide +kernel)
  have o46 : OUT σ0 σ38 a := OUT_fr o35 h40 (by decide +kernel)
  refine En_Ps 2 (pc' := 25) (lv' := [(2, .int ((Int32.ofInt 0))), (0, .ref 3), (1, .ref a)]) (st' := []) rfl ?_
  have key25 : ∀ (n25 : Nat) (σ195 : SG) (y47 : Int32) (y48 : Int32) (y49 : Int32) (y50 : Int32), WT σ195 → Fr [(3, 1), (3, 2), (3, 3), (3, 4), (3, 5), (3, 6), (18, 0), (18, 1), (18, 2), (18, 3), (18, 6), (18, 7), (18, 8), (18, 11), (18, 14), (20, 2), (21, 0), (22, 0), (23, 0), (24, 0), (25, 0), (26, 0), (28, 1), (28, 2), (28, 3)] σ0 σ195 → (σ195 3)[5]? = some (Value.int y48) → (σ195 a)[0]? = some (Value.int y49) → (σ195 a)[1]? = some (Value.int y50) → 0 ≤ y47.toInt → y47.toInt ≤ 1601 → 0 ≤ y48.toInt → y48.toInt ≤ 3 → 0 ≤ y49.toInt → y49.toInt ≤ 1601 → (-1) ≤ y50.toInt → y50.toInt ≤ 4 → -y50.toInt - y48.toInt ≤ 0 → -y50.toInt - y49.toInt ≤ 0 → y47.toInt - y49.toInt + z28.toInt ≤ 0 → -z28.toInt - y47.toInt + y49.toInt ≤ 0 → -y47.toInt + 1601 < (n25 : Int) → OTH a σ0 σ195 → RLI By Nb a σ195 y47.toInt → OUT σ0 σ195 a → En 7 159 none mr_60 (P_60x σ0 By Nb a) 25 [(0, .ref 3), (1, .ref a), (2, .int y47)] [] σ195 := by
    intro n25
    induction n25 with
    | zero =>
      intro σ195 y47 y48 y49 y50 h196 h197 h198 h199 h200 h201 h202 h203 h204 h205 h206 h207 h208 h209 h210 h211 h212 h213 h214 h215 h216
      obtain ⟨S217, f218, h219, h220, h221, h222⟩ := h215
      first | exact (q_313acc1a51 h213 h202).elim | (exfalso; omega)
    | succ n25 ih25 =>
      intro σ195 y47 y48 y49 y50 h196 h197 h198 h199 h200 h201 h202 h203 h204 h205 h206 h207 h208 h209 h210 h211 h212 h213 h214 h215 h216
      obtain ⟨S241, f242, h243, h244, h245, h246⟩ := h215
      refine En_Ps 2 (pc' := 29) (lv' := [(0, .ref 3), (1, .ref a), (2, .int y47)]) (st' := [.int (((Int16.ofInt 1600).toInt32)), .int y47]) rfl ?_
      refine En_icGt _ rfl (by decide : ((Int16.ofInt 1600).toInt32).toInt = 1600) rfl (fun h247 => ?_) (fun h247 => ?_)
      · exact En_ret (v := none) rfl rfl rfl ⟨h196, h197, y48, h198, y50, h200, rfl, ⟨h216, by first | exact q_c803b490ef h203 | omega, by first | exact q_e9a8eec0c4 h204 | omega, by first | exact q_909eef6c0e h207 | omega, by first | exact q_3919a0a4ce h208 | omega, by first | exact q_aa456fd6fe h209 | omega, ⟨h214, RLI_x h243 h244 h245 (fun zz => by omega)⟩⟩⟩
      · refine En_Ps 1 (pc' := 33) (lv' := [(0, .ref 3), (1, .ref a), (2, .int y47)]) (st' := [.ref 3]) rfl ?_
        refine En_getI (j := 1) (l := 0) (u := 4) rfl rfl rfl tgz_3 (by decide +kernel) h196 (by decide +kernel) (fun z249 h248 h250 h251 => ?_)
        have h252 := CT_k h243 h198
        have h253 : Imp (S241.1 = 0) (tK By Nb S241.2.2.1 = z249.toInt) := CT_t h243 h248
        refine En_iEq _ rfl rfl (fun h254 => ?_) (fun h254 => ?_)
        · exact En_ret (v := none) rfl rfl rfl ⟨h196, h197, y48, h198, y50, h200, rfl, ⟨h216, by first | exact q_c803b490ef h203 | omega, by first | exact q_e9a8eec0c4 h204 | omega, by first | exact q_909eef6c0e h207 | omega, by first | exact q_3919a0a4ce h208 | omega, by first | exact q_aa456fd6fe h209 | omega, ⟨h214, RLI_x h243 h244 h245 (fun zz => by (try have i0 := Imp_m h253 (by (first | exact q_d2dcd30e56 zz | omega))); omega)⟩⟩⟩
        · refine En_Ps 1 (pc' := 40) (lv' := [(0, .ref 3), (1, .ref a), (2, .int y47)]) (st' := [.ref 3]) rfl ?_
          refine En_getK (j := 5) h198 rfl rfl rfl tgz_3 (by decide +kernel) ?_
          have h255 := CT_k h243 h198
          refine En_iNe _ rfl rfl (fun h256 => ?_) (fun h256 => ?_)
          · exact En_ret (v := none) rfl rfl rfl ⟨h196, h197, y48, h198, y50, h200, rfl, ⟨h216, by first | exact q_787f1164f6 h256 h203 | omega, by first | exact q_e9a8eec0c4 h204 | omega, by first | exact q_909eef6c0e h207 | omega, by first | exact q_3919a0a4ce h208 | omega, by first | exact q_aa456fd6fe h209 | omega, ⟨h214, RLI_x h243 h244 h245 (fun zz => by (try have i0 := Imp_m h253 (by (first | exact q_d2dcd30e56 zz | omega))); omega)⟩⟩⟩
          · have h257 : S241.1 = 0 := by (first | exact q_ca23768860 h255 h256 | omega)
            try have h261 := Imp_m h253 (by (first | exact q_d2dcd30e56 h257 | omega))
            obtain ⟨h258, h259⟩ := h244 h257
            have h260 : S241.2.2.2 7 = y49.toInt := KN_v h258 (Or.inl (by decide)) (by decide) (by decide) (by rw [lcO_lt (by decide) (by decide), Nat.add_zero]) (by decide) h199
            have keyj199 : ∀ (σ262 : SG) (y265 : Int32) (y269 : Int32) (y273 : Int32), WT σ262 → Fr [(3, 1), (3, 2), (3, 3), (3, 4), (3, 5), (3, 6), (18, 0), (18, 1), (18, 2), (18, 3), (18, 6), (18, 7), (18, 8), (18, 11), (18, 14), (20, 2), (21, 0), (22, 0), (23, 0), (24, 0), (25, 0), (26, 0), (28, 1), (28, 2), (28, 3)] σ0 σ262 → (σ262 3)[5]? = some (Value.int y265) → 0 ≤ y265.toInt → y265.toInt ≤ 3 → (σ262 a)[1]? = some (Value.int y269) → (-1) ≤ y269.toInt → y269.toInt ≤ 4 → (σ262 a)[0]? = some (Value.int y273) → 0 ≤ y273.toInt → y273.toInt ≤ 1601 → -y269.toInt - y265.toInt ≤ 0 → y273.toInt - y49.toInt ≤ 0 ∧ -y273.toInt + y49.toInt ≤ 0 → OTH a σ0 σ262 → CT By Nb σ262 (fL1 By Nb S241) → Imp ((fL1 By Nb S241).1 = 0) (KN σ262 a (fL1 By Nb S241).2.2.2 (act (fL1 By Nb S241).2.2.2)) → OUT σ0 σ262 a → En 7 159 none mr_60 (P_60x σ0 By Nb a) 199 [(0, .ref 3), (1, .ref a), (2, .int y47)] [] σ262 := by
              intro σ262 y265 y269 y273 h263 h264 h266 h267 h268 h270 h271 h272 h274 h275 h276 h277 h278 h279 h280 h281 h282
              refine En_Ps 2 (pc' := 201) (lv' := [(0, .ref 3), (1, .ref a), (2, .int y47)]) (st' := [.ref 3, .ref 3]) rfl ?_
              refine En_getI (j := 1) (l := 0) (u := 4) rfl rfl rfl tgz_3 (by decide +kernel) h263 (by decide +kernel) (fun z284 h283 h285 h286 => ?_)
              have h287 := CT_k h280 h266
              have h288 : Imp ((fL1 By Nb S241).1 = 0) (tK By Nb (fL1 By Nb S241).2.2.1 = z284.toInt) := CT_t h280 h283
              refine En_Ps 1 (pc' := 205) (lv' := [(0, .ref 3), (1, .ref a), (2, .int y47)]) (st' := [.int ((Int32.ofInt 3)), .int z284, .ref 3]) rfl ?_
              refine En_icNe _ rfl (by decide : (Int32.ofInt 3).toInt = 3) rfl (fun h289 => ?_) (fun h289 => ?_)
              · refine En_Ps 1 (pc' := 213) (lv' := [(0, .ref 3), (1, .ref a), (2, .int y47)]) (st' := [.int ((Int32.ofInt 0)), .ref 3]) rfl ?_
                have := (by decide : ((Int32.ofInt 0)).toInt = 0)
                refine En_callV rfl rfl rfl rfl rfl rfl rfl rfl tgz_3 (by decide +kernel) rfl (c_59x σ262 h263 ((Int32.ofInt 0)) (geI (by decide : (Int32.ofInt 0).toInt = 0) (by decide)) (leI (by decide : (Int32.ofInt 0).toInt = 0) (by decide)) y265 h266 h280) (by decide) (by decide) (fun v291 σ292 h290 => ?_)
                obtain ⟨h293, h294, z296, h297, rfl, h295⟩ := h290
                have h298 := h295.2.2.2.2.2.2
                have h299 := Fr_trans h264 h294 (by decide +kernel)
                have h300 := OTH_fr h279 h294 (by decide +kernel)
                have h301 : pss By Nb ((Int32.ofInt 0)).toInt (fL1 By Nb S241) = pss By Nb (if tK By Nb (fL1 By Nb S241).2.2.1 = 3 then 1 else 0) (fL1 By Nb S241) := pss_cg2 (fun zz => by (try have i0 := Imp_m h288 (by (first | exact q_d2dcd30e56 zz | omega))); first | (rw [if_pos (by omega)]; omega) | (rw [if_neg (by omega)]; omega))
                obtain ⟨S302, h303⟩ : ∃ q : PS, q = pss By Nb (if tK By Nb (fL1 By Nb S241).2.2.1 = 3 then 1 else 0) (fL1 By Nb S241) := ⟨_, rfl⟩
                have h304 : CT By Nb σ292 S302 := by rw [h303]; exact (CT_eq h298 h301)
                have h305 := CT_k h304 h297
                have h306 : S302.2.2.2 = (fL1 By Nb S241).2.2.2 := by rw [h303]; exact pss_w
                have h307 : Imp (S302.1 = 0) ((fL1 By Nb S241).1 = 0) := fun z => (pss_g (by rw [h301, ← h303]; exact z)).1
                have h308 : Imp (S302.1 = 0) (((Int32.ofInt 0)).toInt = 1) := fun z => (pss_g (by rw [h301, ← h303]; exact z)).2.1
                have h309 : Imp (S302.1 = 0) (KN σ292 a S302.2.2.2 (act S302.2.2.2)) := fun z => by (try have i0 := Imp_m h308 (by (first | exact q_d2dcd30e56 z | omega))); (try have i1 := Imp_m h307 (by (first | exact q_2527cbf79f i0 this | omega))); (try have i2 := Imp_m h288 (by (first | exact q_d2dcd30e56 i1 | omega))); rw [h306]; exact KN_fr hP (Imp_m h281 (by (first | exact q_d2dcd30e56 i1 | omega))) h294 (by decide +kernel)
                have o310 : OUT σ0 σ292 a := OUT_fr h282 h294 (by decide +kernel)
                have h311 := Imp_m h295.2.2.2.2.2.1 (by (first | exact q_c5d285f1b9 this | omega))
                refine En_Ps 2 (pc' := 218) (lv' := [(0, .ref 3), (1, .ref a), (2, .int y47)]) (st' := [.ref a, .ref a]) rfl ?_
                refine En_getK (j := 0) ((h294 _ _ (inW ha (by decide +kernel))).trans h274) rfl rfl rfl ha (by decide +kernel) ?_
                refine En_Ps 2 (pc' := 223) (lv' := [(0, .ref 3), (1, .ref a), (2, .int y47)]) (st' := [.int ((y273 + ((Int32.ofInt 1)))), .ref a]) rfl ?_
                refine En_top (addI rfl (by decide : (Int32.ofInt 1).toInt = 1) (by first | exact q_465ab79ac1 h275 | omega) (by first | exact q_3f2a934ec4 h276 | omega)) (fun z312 h313 => ?_)
                refine En_put (j := 0) rfl rfl rfl ha (by decide +kernel) rfl (vI (l := 0) (u := 1601) (by decide +kernel) rfl (by first | exact q_35104ce9d3 h313 h275 | omega) (by (first | exact q_46219f8613 h313 h278.1 h260 h259 h247 | omega))) h293 h299 (by decide +kernel) (fun σ314 h315 h316 h317 h318 => ?_)
                have h319 := OTH_pj h300 h318 (by decide)
                obtain ⟨S320, h321⟩ : ∃ q : PS, q = wst S302 7 (S241.2.2.2 7 + 1) := ⟨_, rfl⟩
                have h322 : CT By Nb σ314 S320 := by rw [h321]; exact CT_wst (CT_ne h304 h318 (by have := hP; unfold PLA at this; omega))
                have h323 : Imp (S320.1 = 0) (KN σ314 a S320.2.2.2 (act S320.2.2.2)) := fun zz => by rw [h321] at zz ⊢; exact KN_sub (KN_st (j := 7) (v := S241.2.2.2 7 + 1) (Imp_m h309 zz) h317 h318 (by decide) (by decide) (by rw [lcO_lt (by decide) (by decide), Nat.add_zero]) (by decide) (by (first | exact q_22845dd982 h313 h278.1 h260 h278.2 | omega))) (fun t t0 t1 y => Or.inl (act_low (by decide) y))
                have h324 : fLine By Nb S241 = S320 := fL_line h303 h321
                have h325 : S320.2.2.2 7 = S241.2.2.2 7 + 1 := by rw [h321]; show (if (7 : Int) = 7 then S241.2.2.2 7 + 1 else S302.2.2.2 7) = S241.2.2.2 7 + 1; exact if_pos rfl
                have o326 : OUT σ0 σ314 a := OUT_st o310 h318 (by omega)
                refine En_Ps 1 (pc' := 229) (lv' := [(2, .int ((y47 + Int32.ofInt 1))), (0, .ref 3), (1, .ref a)]) (st' := []) rfl ?_
                refine En_lv1 (addI rfl (by decide : (Int32.ofInt 1).toInt = 1) (by first | exact q_465ab79ac1 h201 | omega) (by first | exact q_1c9c6c18a7 h247 | omega)) (fun z327 h328 => ?_)
                refine En_Ps 1 (pc' := 25) (lv' := [(2, .int z327), (0, .ref 3), (1, .ref a)]) (st' := []) rfl ?_
                refine En_lv (lv := [(0, .ref 3), (1, .ref a), (2, .int z327)]) ⟨rfl, rfl, rfl, trivial⟩ ?_
                exact ih25 σ314 z327 z296 z312 y269 h315 h316 ((h318 _ _ (Or.inr (by decide))).trans h297) h317 ((h318 _ _ (Or.inr (by decide))).trans ((h294 _ _ (inW ha (by decide +kernel))).trans h270)) (by first | exact q_35104ce9d3 h328 h201 | omega) (by first | exact q_cac708c19b h328 h247 | omega) (by first | exact q_996aa4c518 h311 | omega) (by first | exact q_87d9217d84 h295.2.1 | omega) (by first | exact q_35104ce9d3 h313 h275 | omega) (by (first | exact q_46219f8613 h313 h278.1 h260 h259 h247 | omega)) (by first | exact q_77b189e83d h271 | omega) (by first | exact q_c82ed93a8c h272 | omega) (by first | exact q_021a34f81f h271 h311 | omega) (by first | exact q_438bc66a3b h271 h313 h275 | omega) (by (first | exact q_9a57a185f3 h328 h313 h278.2 h211 | omega)) (by (first | exact q_0ac7bd1cd9 h328 h313 h278.1 h212 | omega)) (by first | exact q_1df1dba3ad h328 h213 | omega) (h319) (RLI_s h245 h246 (by (first | exact q_246f9048f8 h247 | omega)) h257 (by (first | exact q_957696b956 h254 h250 h261 | omega)) h324 h322 h323 h325 (by (first | exact q_9ddf9968de h328 h259 | omega))) (o326)
              · refine En_Ps 2 (pc' := 213) (lv' := [(0, .ref 3), (1, .ref a), (2, .int y47)]) (st' := [.int ((Int32.ofInt 1)), .ref 3]) rfl ?_
                have := (by decide : ((Int32.ofInt 1)).toInt = 1)
                refine En_callV rfl rfl rfl rfl rfl rfl rfl rfl tgz_3 (by decide +kernel) rfl (c_59x σ262 h263 ((Int32.ofInt 1)) (geI (by decide : (Int32.ofInt 1).toInt = 1) (by decide)) (leI (by decide : (Int32.ofInt 1).toInt = 1) (by decide)) y265 h266 h280) (by decide) (by decide) (fun v330 σ331 h329 => ?_)
                obtain ⟨h332, h333, z335, h336, rfl, h334⟩ := h329
                have h337 := h334.2.2.2.2.2.2
                have h338 := Fr_trans h264 h333 (by decide +kernel)
                have h339 := OTH_fr h279 h333 (by decide +kernel)
                have h340 : pss By Nb ((Int32.ofInt 1)).toInt (fL1 By Nb S241) = pss By Nb (if tK By Nb (fL1 By Nb S241).2.2.1 = 3 then 1 else 0) (fL1 By Nb S241) := pss_cg2 (fun zz => by (try have i0 := Imp_m h288 (by (first | exact q_d2dcd30e56 zz | omega))); first | (rw [if_pos (by (first | exact q_fd6720277d i0 h289 | omega))]; (first | exact q_0bfa10f27c this | omega)) | (rw [if_neg (by omega)]; omega))
                obtain ⟨S341, h342⟩ : ∃ q : PS, q = pss By Nb (if tK By Nb (fL1 By Nb S241).2.2.1 = 3 then 1 else 0) (fL1 By Nb S241) := ⟨_, rfl⟩
                have h343 : CT By Nb σ331 S341 := by rw [h342]; exact (CT_eq h337 h340)
                have h344 := CT_k h343 h336
                have h345 : S341.2.2.2 = (fL1 By Nb S241).2.2.2 := by rw [h342]; exact pss_w
                have h346 : Imp (S341.1 = 0) ((fL1 By Nb S241).1 = 0) := fun z => (pss_g (by rw [h340, ← h342]; exact z)).1
                have h347 : Imp (S341.1 = 0) (((Int32.ofInt 1)).toInt = 1) := fun z => (pss_g (by rw [h340, ← h342]; exact z)).2.1
                have h348 : Imp (S341.1 = 0) (KN σ331 a S341.2.2.2 (act S341.2.2.2)) := fun z => by (try have i0 := Imp_m h347 (by (first | exact q_d2dcd30e56 z | omega))); (try have i1 := Imp_m h346 (by (first | exact q_d2dcd30e56 z | omega))); (try have i2 := Imp_m h288 (by (first | exact q_d2dcd30e56 i1 | omega))); rw [h345]; exact KN_fr hP (Imp_m h281 (by (first | exact q_d2dcd30e56 i1 | omega))) h333 (by decide +kernel)
                have o349 : OUT σ0 σ331 a := OUT_fr h282 h333 (by decide +kernel)
                have h350 := Imp_m h334.2.2.2.1 (by (first | exact q_a439be255a this | omega))
                refine En_Ps 2 (pc' := 218) (lv' := [(0, .ref 3), (1, .ref a), (2, .int y47)]) (st' := [.ref a, .ref a]) rfl ?_
                refine En_getK (j := 0) ((h333 _ _ (inW ha (by decide +kernel))).trans h274) rfl rfl rfl ha (by decide +kernel) ?_
                refine En_Ps 2 (pc' := 223) (lv' := [(0, .ref 3), (1, .ref a), (2, .int y47)]) (st' := [.int ((y273 + ((Int32.ofInt 1)))), .ref a]) rfl ?_
                refine En_top (addI rfl (by decide : (Int32.ofInt 1).toInt = 1) (by first | exact q_465ab79ac1 h275 | omega) (by first | exact q_3f2a934ec4 h276 | omega)) (fun z351 h352 => ?_)
                refine En_put (j := 0) rfl rfl rfl ha (by decide +kernel) rfl (vI (l := 0) (u := 1601) (by decide +kernel) rfl (by first | exact q_35104ce9d3 h352 h275 | omega) (by (first | exact q_46219f8613 h352 h278.1 h260 h259 h247 | omega))) h332 h338 (by decide +kernel) (fun σ353 h354 h355 h356 h357 => ?_)
                have h358 := OTH_pj h339 h357 (by decide)
                obtain ⟨S359, h360⟩ : ∃ q : PS, q = wst S341 7 (S241.2.2.2 7 + 1) := ⟨_, rfl⟩
                have h361 : CT By Nb σ353 S359 := by rw [h360]; exact CT_wst (CT_ne h343 h357 (by have := hP; unfold PLA at this; omega))
                have h362 : Imp (S359.1 = 0) (KN σ353 a S359.2.2.2 (act S359.2.2.2)) := fun zz => by rw [h360] at zz ⊢; exact KN_sub (KN_st (j := 7) (v := S241.2.2.2 7 + 1) (Imp_m h348 zz) h356 h357 (by decide) (by decide) (by rw [lcO_lt (by decide) (by decide), Nat.add_zero]) (by decide) (by (first | exact q_22845dd982 h352 h278.1 h260 h278.2 | omega))) (fun t t0 t1 y => Or.inl (act_low (by decide) y))
                have h363 : fLine By Nb S241 = S359 := fL_line h342 h360
                have h364 : S359.2.2.2 7 = S241.2.2.2 7 + 1 := by rw [h360]; show (if (7 : Int) = 7 then S241.2.2.2 7 + 1 else S341.2.2.2 7) = S241.2.2.2 7 + 1; exact if_pos rfl
                have o365 : OUT σ0 σ353 a := OUT_st o349 h357 (by omega)
                refine En_Ps 1 (pc' := 229) (lv' := [(2, .int ((y47 + Int32.ofInt 1))), (0, .ref 3), (1, .ref a)]) (st' := []) rfl ?_
                refine En_lv1 (addI rfl (by decide : (Int32.ofInt 1).toInt = 1) (by first | exact q_465ab79ac1 h201 | omega) (by first | exact q_1c9c6c18a7 h247 | omega)) (fun z366 h367 => ?_)
                refine En_Ps 1 (pc' := 25) (lv' := [(2, .int z366), (0, .ref 3), (1, .ref a)]) (st' := []) rfl ?_
                refine En_lv (lv := [(0, .ref 3), (1, .ref a), (2, .int z366)]) ⟨rfl, rfl, rfl, trivial⟩ ?_
                exact ih25 σ353 z366 z335 z351 y269 h354 h355 ((h357 _ _ (Or.inr (by decide))).trans h336) h356 ((h357 _ _ (Or.inr (by decide))).trans ((h333 _ _ (inW ha (by decide +kernel))).trans h270)) (by first | exact q_35104ce9d3 h367 h201 | omega) (by first | exact q_cac708c19b h367 h247 | omega) (by first | exact q_ef1e8e38bf h334.1 | omega) (by first | exact q_87d9217d84 h334.2.1 | omega) (by first | exact q_35104ce9d3 h352 h275 | omega) (by (first | exact q_46219f8613 h352 h278.1 h260 h259 h247 | omega)) (by first | exact q_77b189e83d h271 | omega) (by first | exact q_c82ed93a8c h272 | omega) (by (first | exact q_9bb24b9614 h350.2 h277 | omega)) (by first | exact q_438bc66a3b h271 h352 h275 | omega) (by (first | exact q_9a57a185f3 h367 h352 h278.2 h211 | omega)) (by (first | exact q_0ac7bd1cd9 h367 h352 h278.1 h212 | omega)) (by first | exact q_1df1dba3ad h367 h213 | omega) (h358) (RLI_s h245 h246 (by (first | exact q_246f9048f8 h247 | omega)) h257 (by (first | exact q_957696b956 h254 h250 h261 | omega)) h363 h361 h362 h364 (by (first | exact q_9ddf9968de h367 h259 | omega))) (o365)
            refine En_Ps 1 (pc' := 47) (lv' := [(0, .ref 3), (1, .ref a), (2, .int y47)]) (st' := [.int y47]) rfl ?_
            refine En_iNe _ rfl rfl (fun h368 => ?_) (fun h368 => ?_)
            · refine En_Ps 1 (pc' := 59) (lv' := [(0, .ref 3), (1, .ref a), (2, .int y47)]) (st' := [.ref 3]) rfl ?_
              refine En_ldcS (i := 2) rfl rfl rfl ?_
              refine En_callV rfl rfl rfl rfl rfl rfl rfl rfl tgz_3 (by decide +kernel) rfl (c_71s2x σ195 h196 h243) (by decide) (by decide) (fun v370 σ371 h369 => ?_)
              obtain ⟨h372, h373, z375, rfl, h374⟩ := h369
              have h376 := h374.2.2
              obtain rfl : σ195 = σ371 := Fr_nil h373
              have h377 := h376
              try have h378 := Imp_m h377 (by (first | exact q_d2dcd30e56 h257 | omega))
              try have h379 := Imp_m h253 (by (first | exact q_d2dcd30e56 h257 | omega))
              refine En_iEq _ rfl rfl (fun h380 => ?_) (fun h380 => ?_)
              · refine En_Ps 1 (pc' := 76) (lv' := [(0, .ref 3), (1, .ref a), (2, .int y47)]) (st' := [.ref 3]) rfl ?_
                refine En_ldcS (i := 6) rfl rfl rfl ?_
                refine En_callV rfl rfl rfl rfl rfl rfl rfl rfl tgz_3 (by decide +kernel) rfl (c_71s6x σ195 h196 h243) (by decide) (by decide) (fun v382 σ383 h381 => ?_)
                obtain ⟨h384, h385, z387, rfl, h386⟩ := h381
                have h388 := h386.2.2
                obtain rfl : σ195 = σ383 := Fr_nil h385
                have h389 := h388
                try have h390 := Imp_m h389 (by (first | exact q_d2dcd30e56 h257 | omega))
                try have h391 := Imp_m h377 (by (first | exact q_d2dcd30e56 h257 | omega))
                try have h392 := Imp_m h253 (by (first | exact q_d2dcd30e56 h257 | omega))
                refine En_iEq _ rfl rfl (fun h393 => ?_) (fun h393 => ?_)
                · refine En_Ps 1 (pc' := 93) (lv' := [(0, .ref 3), (1, .ref a), (2, .int y47)]) (st' := [.ref 3]) rfl ?_
                  refine En_ldcS (i := 3) rfl rfl rfl ?_
                  refine En_callV rfl rfl rfl rfl rfl rfl rfl rfl tgz_3 (by decide +kernel) rfl (c_71s3x σ195 h196 h243) (by decide) (by decide) (fun v395 σ396 h394 => ?_)
                  obtain ⟨h397, h398, z400, rfl, h399⟩ := h394
                  have h401 := h399.2.2
                  obtain rfl : σ195 = σ396 := Fr_nil h398
                  have h402 := h401
                  try have h403 := Imp_m h402 (by (first | exact q_d2dcd30e56 h257 | omega))
                  try have h404 := Imp_m h389 (by (first | exact q_d2dcd30e56 h257 | omega))
                  try have h405 := Imp_m h377 (by (first | exact q_d2dcd30e56 h257 | omega))
                  try have h406 := Imp_m h253 (by (first | exact q_d2dcd30e56 h257 | omega))
                  refine En_iEq _ rfl rfl (fun h407 => ?_) (fun h407 => ?_)
                  · refine En_Ps 1 (pc' := 110) (lv' := [(0, .ref 3), (1, .ref a), (2, .int y47)]) (st' := [.ref 3]) rfl ?_
                    refine En_ldcS (i := 17) rfl rfl rfl ?_
                    refine En_callV rfl rfl rfl rfl rfl rfl rfl rfl tgz_3 (by decide +kernel) rfl (c_71s17x σ195 h196 h243) (by decide) (by decide) (fun v409 σ410 h408 => ?_)
                    obtain ⟨h411, h412, z414, rfl, h413⟩ := h408
                    have h415 := h413.2.2
                    obtain rfl : σ195 = σ410 := Fr_nil h412
                    have h416 := h415
                    try have h417 := Imp_m h416 (by (first | exact q_d2dcd30e56 h257 | omega))
                    try have h418 := Imp_m h402 (by (first | exact q_d2dcd30e56 h257 | omega))
                    try have h419 := Imp_m h389 (by (first | exact q_d2dcd30e56 h257 | omega))
                    try have h420 := Imp_m h377 (by (first | exact q_d2dcd30e56 h257 | omega))
                    try have h421 := Imp_m h253 (by (first | exact q_d2dcd30e56 h257 | omega))
                    refine En_iEq _ rfl rfl (fun h422 => ?_) (fun h422 => ?_)
                    · refine En_Ps 1 (pc' := 127) (lv' := [(0, .ref 3), (1, .ref a), (2, .int y47)]) (st' := [.ref 3]) rfl ?_
                      refine En_ldcS (i := 9) rfl rfl rfl ?_
                      refine En_callV rfl rfl rfl rfl rfl rfl rfl rfl tgz_3 (by decide +kernel) rfl (c_71s9x σ195 h196 h243) (by decide) (by decide) (fun v424 σ425 h423 => ?_)
                      obtain ⟨h426, h427, z429, rfl, h428⟩ := h423
                      have h430 := h428.2.2
                      obtain rfl : σ195 = σ425 := Fr_nil h427
                      have h431 := h430
                      try have h432 := Imp_m h431 (by (first | exact q_d2dcd30e56 h257 | omega))
                      try have h433 := Imp_m h416 (by (first | exact q_d2dcd30e56 h257 | omega))
                      try have h434 := Imp_m h402 (by (first | exact q_d2dcd30e56 h257 | omega))
                      try have h435 := Imp_m h389 (by (first | exact q_d2dcd30e56 h257 | omega))
                      try have h436 := Imp_m h377 (by (first | exact q_d2dcd30e56 h257 | omega))
                      try have h437 := Imp_m h253 (by (first | exact q_d2dcd30e56 h257 | omega))
                      refine En_iEq _ rfl rfl (fun h438 => ?_) (fun h438 => ?_)
                      · refine En_Ps 1 (pc' := 144) (lv' := [(0, .ref 3), (1, .ref a), (2, .int y47)]) (st' := [.ref 3]) rfl ?_
                        refine En_ldcS (i := 5) rfl rfl rfl ?_
                        refine En_callV rfl rfl rfl rfl rfl rfl rfl rfl tgz_3 (by decide +kernel) rfl (c_71s5x σ195 h196 h243) (by decide) (by decide) (fun v440 σ441 h439 => ?_)
                        obtain ⟨h442, h443, z445, rfl, h444⟩ := h439
                        have h446 := h444.2.2
                        obtain rfl : σ195 = σ441 := Fr_nil h443
                        have h447 := h446
                        try have h448 := Imp_m h447 (by (first | exact q_d2dcd30e56 h257 | omega))
                        try have h449 := Imp_m h431 (by (first | exact q_d2dcd30e56 h257 | omega))
                        try have h450 := Imp_m h416 (by (first | exact q_d2dcd30e56 h257 | omega))
                        try have h451 := Imp_m h402 (by (first | exact q_d2dcd30e56 h257 | omega))
                        try have h452 := Imp_m h389 (by (first | exact q_d2dcd30e56 h257 | omega))
                        try have h453 := Imp_m h377 (by (first | exact q_d2dcd30e56 h257 | omega))
                        try have h454 := Imp_m h253 (by (first | exact q_d2dcd30e56 h257 | omega))
                        refine En_iEq _ rfl rfl (fun h455 => ?_) (fun h455 => ?_)
                        · refine En_Ps 1 (pc' := 161) (lv' := [(0, .ref 3), (1, .ref a), (2, .int y47)]) (st' := [.ref 3]) rfl ?_
                          refine En_ldcS (i := 1) rfl rfl rfl ?_
                          refine En_callV rfl rfl rfl rfl rfl rfl rfl rfl tgz_3 (by decide +kernel) rfl (c_71s1x σ195 h196 h243) (by decide) (by decide) (fun v457 σ458 h456 => ?_)
                          obtain ⟨h459, h460, z462, rfl, h461⟩ := h456
                          have h463 := h461.2.2
                          obtain rfl : σ195 = σ458 := Fr_nil h460
                          have h464 := h463
                          try have h465 := Imp_m h464 (by (first | exact q_d2dcd30e56 h257 | omega))
                          try have h466 := Imp_m h447 (by (first | exact q_d2dcd30e56 h257 | omega))
                          try have h467 := Imp_m h431 (by (first | exact q_d2dcd30e56 h257 | omega))
                          try have h468 := Imp_m h416 (by (first | exact q_d2dcd30e56 h257 | omega))
                          try have h469 := Imp_m h402 (by (first | exact q_d2dcd30e56 h257 | omega))
                          try have h470 := Imp_m h389 (by (first | exact q_d2dcd30e56 h257 | omega))
                          try have h471 := Imp_m h377 (by (first | exact q_d2dcd30e56 h257 | omega))
                          try have h472 := Imp_m h253 (by (first | exact q_d2dcd30e56 h257 | omega))
                          refine En_iEq _ rfl rfl (fun h473 => ?_) (fun h473 => ?_)
                          · refine En_Ps 1 (pc' := 178) (lv' := [(0, .ref 3), (1, .ref a), (2, .int y47)]) (st' := [.ref 3]) rfl ?_
                            refine En_ldcS (i := 0) rfl rfl rfl ?_
                            refine En_callV rfl rfl rfl rfl rfl rfl rfl rfl tgz_3 (by decide +kernel) rfl (c_71s0x σ195 h196 h243) (by decide) (by decide) (fun v475 σ476 h474 => ?_)
                            obtain ⟨h477, h478, z480, rfl, h479⟩ := h474
                            have h481 := h479.2.2
                            obtain rfl : σ195 = σ476 := Fr_nil h478
                            have h482 := h481
                            try have h483 := Imp_m h482 (by (first | exact q_d2dcd30e56 h257 | omega))
                            try have h484 := Imp_m h464 (by (first | exact q_d2dcd30e56 h257 | omega))
                            try have h485 := Imp_m h447 (by (first | exact q_d2dcd30e56 h257 | omega))
                            try have h486 := Imp_m h431 (by (first | exact q_d2dcd30e56 h257 | omega))
                            try have h487 := Imp_m h416 (by (first | exact q_d2dcd30e56 h257 | omega))
                            try have h488 := Imp_m h402 (by (first | exact q_d2dcd30e56 h257 | omega))
                            try have h489 := Imp_m h389 (by (first | exact q_d2dcd30e56 h257 | omega))
                            try have h490 := Imp_m h377 (by (first | exact q_d2dcd30e56 h257 | omega))
                            try have h491 := Imp_m h253 (by (first | exact q_d2dcd30e56 h257 | omega))
                            refine En_iEq _ rfl rfl (fun h492 => ?_) (fun h492 => ?_)
                            · refine En_Ps 2 (pc' := 196) (lv' := [(0, .ref 3), (1, .ref a), (2, .int y47)]) (st' := [.int ((Int32.ofInt 1)), .ref 3]) rfl ?_
                              have := (by decide : ((Int32.ofInt 1)).toInt = 1)
                              refine En_callV rfl rfl rfl rfl rfl rfl rfl rfl tgz_3 (by decide +kernel) rfl (c_54x σ195 h196 ((Int32.ofInt 1)) (geI (by decide : (Int32.ofInt 1).toInt = 1) (by decide)) (leI (by decide : (Int32.ofInt 1).toInt = 1) (by decide)) y48 h198 h243) (by decide) (by decide) (fun v494 σ495 h493 => ?_)
                              obtain ⟨h496, h497, z499, h500, rfl, h498⟩ := h493
                              have h501 := h498.2.2.2.2.2
                              have h502 := Fr_trans h197 h497 (by decide +kernel)
                              have h503 := OTH_fr h214 h497 (by decide +kernel)
                              obtain ⟨S504, h505⟩ : ∃ q : PS, q = err By Nb 1 S241 := ⟨_, rfl⟩
                              have h506 : CT By Nb σ495 S504 := by rw [h505]; exact (CT_eq h501 (err_cg (by (first | exact q_0bfa10f27c this | omega))))
                              have h507 := CT_k h506 h500
                              have h508 : Imp (S504.1 = 0) (tK By Nb S504.2.2.1 = z249.toInt) := CT_t h506 ((h497 _ _ (inW tgz_3 (by decide +kernel))).trans h248)
                              have h509 : Imp (S504.1 = 0) (KN σ495 a S504.2.2.2 (act S504.2.2.2)) := fun z => by rw [h505] at z; exact absurd z (err_ne (by decide))
                              have o510 : OUT σ0 σ495 a := OUT_fr h216 h497 (by decide +kernel)
                              have h511 := Imp_m h498.2.2.2.1 (by first | exact q_c5d285f1b9 h256 | omega)
                              have h512 : fL1 By Nb S241 = S504 := by rw [h505]; exact (fL1_1 (by (first | exact q_957696b956 h368 h201 h259 | omega))).trans (fNx_n (by (first | exact q_7ed2936742 h490 h380 | omega)) (by (first | exact q_7ed2936742 h489 h393 | omega)) (by (first | exact q_7ed2936742 h488 h407 | omega)) (by (first | exact q_7ed2936742 h487 h422 | omega)) (by (first | exact q_7ed2936742 h486 h438 | omega)) (by (first | exact q_7ed2936742 h485 h455 | omega)) (by (first | exact q_7ed2936742 h484 h473 | omega)) (by (first | exact q_7ed2936742 h483 h492 | omega)))
                              exact keyj199 σ495 z499 y50 y49 h496 h502 h500 (by first | exact q_996aa4c518 h498.1 | omega) (by first | exact q_87d9217d84 h498.2.1 | omega) ((h497 _ _ (inW ha (by decide +kernel))).trans h200) (by first | exact q_77b189e83d h207 | omega) (by first | exact q_c82ed93a8c h208 | omega) ((h497 _ _ (inW ha (by decide +kernel))).trans h199) (by first | exact q_58e6e51dcc h205 | omega) (by first | exact q_3232882bcd h206 | omega) (by (first | exact q_f752096d76 h498.1 h256 h209 | omega)) (by (first | exact q_68b4389ff1 | omega)) (h503) (CT_eq h506 h512.symm) (by rw [h512]; exact h509) (o510)
                            · refine En_Ps 2 (pc' := 188) (lv' := [(0, .ref 3), (1, .ref a), (2, .int y47)]) (st' := [.ref a, .ref 3]) rfl ?_
                              refine En_callV rfl rfl rfl rfl rfl rfl rfl rfl tgz_3 (by decide +kernel) rfl (c_61x σ195 h196 a ha y48 h198 y50 h200 (by first | exact q_8ecf8a2bf8 h209 h256 | omega) h243 (by (first | exact q_d2dcd30e56 h257 | omega)) hP (FXP_fr hP hX h197 (by decide +kernel)) h258) (by decide) (by decide) (fun v514 σ515 h513 => ?_)
                              obtain ⟨h516, h517, z519, h520, rfl, h518⟩ := h513
                              have h521 := h518.2.2.2.2.2
                              have h522 := Fr_trans h197 h517 (by decide +kernel)
                              have h523 := OTH_fr h214 h517 (by decide +kernel)
                              obtain ⟨S524, h525⟩ : ∃ q : PS, q = fAhead By Nb S241 := ⟨_, rfl⟩
                              have h526 : CT By Nb σ515 S524 := by rw [h525]; exact h521.1
                              have h527 := CT_k h526 h520
                              have h528 : Imp (S524.1 = 0) (KN σ515 a S524.2.2.2 (act S524.2.2.2)) := fun z => by rw [h525] at z ⊢; exact h521.2 z
                              have o529 : OUT σ0 σ515 a := OUT_tr h216 h518.1
                              refine En_Ps 1 (pc' := 199) (lv' := [(0, .ref 3), (1, .ref a), (2, .int y47)]) (st' := []) rfl ?_
                              have h530 : fL1 By Nb S241 = S524 := by rw [h525]; exact (fL1_1 (by (first | exact q_957696b956 h368 h201 h259 | omega))).trans (fNx_0 (by (first | exact q_7ed2936742 h490 h380 | omega)) (by (first | exact q_7ed2936742 h489 h393 | omega)) (by (first | exact q_7ed2936742 h488 h407 | omega)) (by (first | exact q_7ed2936742 h487 h422 | omega)) (by (first | exact q_7ed2936742 h486 h438 | omega)) (by (first | exact q_7ed2936742 h485 h455 | omega)) (by (first | exact q_7ed2936742 h484 h473 | omega)) (by (first | exact q_8c31a76373 h492 h479.1 h483 h479.2.1 | omega)))
                              exact keyj199 σ515 z519 y50 y49 h516 h522 h520 (by first | exact q_ef1e8e38bf h518.2.1 | omega) (by first | exact q_87d9217d84 h518.2.2.1 | omega) ((h517 _ _ (inW ha (by decide +kernel))).trans h200) (by first | exact q_77b189e83d h207 | omega) (by first | exact q_c82ed93a8c h208 | omega) ((h517 _ _ (inW ha (by decide +kernel))).trans h199) (by first | exact q_58e6e51dcc h205 | omega) (by first | exact q_3232882bcd h206 | omega) (by (first | exact q_9bb24b9614 h518.2.2.2.1 h209 | omega)) (by (first | exact q_68b4389ff1 | omega)) (h523) (CT_eq h526 h530.symm) (by rw [h530]; exact h528) (o529)
                          · refine En_Ps 2 (pc' := 171) (lv' := [(0, .ref 3), (1, .ref a), (2, .int y47)]) (st' := [.ref a, .ref 3]) rfl ?_
                            refine En_callV rfl rfl rfl rfl rfl rfl rfl rfl tgz_3 (by decide +kernel) rfl (c_62x σ195 h196 a ha y48 h198 y50 h200 (by first | exact q_8ecf8a2bf8 h209 h256 | omega) h243 (by (first | exact q_d2dcd30e56 h257 | omega)) hP (FXP_fr hP hX h197 (by decide +kernel)) h258) (by decide) (by decide) (fun v532 σ533 h531 => ?_)
                            obtain ⟨h534, h535, z537, h538, rfl, h536⟩ := h531
                            have h539 := h536.2.2.2.2.2
                            have h540 := Fr_trans h197 h535 (by decide +kernel)
                            have h541 := OTH_fr h214 h535 (by decide +kernel)
                            obtain ⟨S542, h543⟩ : ∃ q : PS, q = fCourse By Nb S241 := ⟨_, rfl⟩
                            have h544 : CT By Nb σ533 S542 := by rw [h543]; exact h539.1
                            have h545 := CT_k h544 h538
                            have h546 : Imp (S542.1 = 0) (KN σ533 a S542.2.2.2 (act S542.2.2.2)) := fun z => by rw [h543] at z ⊢; exact h539.2 z
                            have o547 : OUT σ0 σ533 a := OUT_tr h216 h536.1
                            refine En_Ps 1 (pc' := 199) (lv' := [(0, .ref 3), (1, .ref a), (2, .int y47)]) (st' := []) rfl ?_
                            have h548 : fL1 By Nb S241 = S542 := by rw [h543]; exact (fL1_1 (by (first | exact q_957696b956 h368 h201 h259 | omega))).trans (fNx_1 (by (first | exact q_7ed2936742 h471 h380 | omega)) (by (first | exact q_7ed2936742 h470 h393 | omega)) (by (first | exact q_7ed2936742 h469 h407 | omega)) (by (first | exact q_7ed2936742 h468 h422 | omega)) (by (first | exact q_7ed2936742 h467 h438 | omega)) (by (first | exact q_7ed2936742 h466 h455 | omega)) (by (first | exact q_8c31a76373 h473 h461.1 h465 h461.2.1 | omega)))
                            exact keyj199 σ533 z537 y50 y49 h534 h540 h538 (by first | exact q_ef1e8e38bf h536.2.1 | omega) (by first | exact q_87d9217d84 h536.2.2.1 | omega) ((h535 _ _ (inW ha (by decide +kernel))).trans h200) (by first | exact q_77b189e83d h207 | omega) (by first | exact q_c82ed93a8c h208 | omega) ((h535 _ _ (inW ha (by decide +kernel))).trans h199) (by first | exact q_58e6e51dcc h205 | omega) (by first | exact q_3232882bcd h206 | omega) (by (first | exact q_9bb24b9614 h536.2.2.2.1 h209 | omega)) (by (first | exact q_68b4389ff1 | omega)) (h541) (CT_eq h544 h548.symm) (by rw [h548]; exact h546) (o547)
                        · refine En_Ps 2 (pc' := 154) (lv' := [(0, .ref 3), (1, .ref a), (2, .int y47)]) (st' := [.ref a, .ref 3]) rfl ?_
                          refine En_callV rfl rfl rfl rfl rfl rfl rfl rfl tgz_3 (by decide +kernel) rfl (c_66x σ195 h196 a ha y48 h198 y50 h200 (by first | exact q_8ecf8a2bf8 h209 h256 | omega) h243 (by (first | exact q_d2dcd30e56 h257 | omega)) hP (FXP_fr hP hX h197 (by decide +kernel)) h258) (by decide) (by decide) (fun v550 σ551 h549 => ?_)
                          obtain ⟨h552, h553, z555, h556, rfl, h554⟩ := h549
                          have h557 := h554.2.2.2.2.2
                          have h558 := Fr_trans h197 h553 (by decide +kernel)
                          have h559 := OTH_fr h214 h553 (by decide +kernel)
                          obtain ⟨S560, h561⟩ : ∃ q : PS, q = fHouse By Nb S241 := ⟨_, rfl⟩
                          have h562 : CT By Nb σ551 S560 := by rw [h561]; exact h557.1
                          have h563 := CT_k h562 h556
                          have h564 : Imp (S560.1 = 0) (KN σ551 a S560.2.2.2 (act S560.2.2.2)) := fun z => by rw [h561] at z ⊢; exact h557.2 z
                          have o565 : OUT σ0 σ551 a := OUT_tr h216 h554.1
                          refine En_Ps 1 (pc' := 199) (lv' := [(0, .ref 3), (1, .ref a), (2, .int y47)]) (st' := []) rfl ?_
                          have h566 : fL1 By Nb S241 = S560 := by rw [h561]; exact (fL1_1 (by (first | exact q_957696b956 h368 h201 h259 | omega))).trans (fNx_5 (by (first | exact q_7ed2936742 h453 h380 | omega)) (by (first | exact q_7ed2936742 h452 h393 | omega)) (by (first | exact q_7ed2936742 h451 h407 | omega)) (by (first | exact q_7ed2936742 h450 h422 | omega)) (by (first | exact q_7ed2936742 h449 h438 | omega)) (by (first | exact q_8c31a76373 h455 h444.1 h448 h444.2.1 | omega)))
                          exact keyj199 σ551 z555 y50 y49 h552 h558 h556 (by first | exact q_ef1e8e38bf h554.2.1 | omega) (by first | exact q_87d9217d84 h554.2.2.1 | omega) ((h553 _ _ (inW ha (by decide +kernel))).trans h200) (by first | exact q_77b189e83d h207 | omega) (by first | exact q_c82ed93a8c h208 | omega) ((h553 _ _ (inW ha (by decide +kernel))).trans h199) (by first | exact q_58e6e51dcc h205 | omega) (by first | exact q_3232882bcd h206 | omega) (by (first | exact q_9bb24b9614 h554.2.2.2.1 h209 | omega)) (by (first | exact q_68b4389ff1 | omega)) (h559) (CT_eq h562 h566.symm) (by rw [h566]; exact h564) (o565)
                      · refine En_Ps 2 (pc' := 137) (lv' := [(0, .ref 3), (1, .ref a), (2, .int y47)]) (st' := [.ref a, .ref 3]) rfl ?_
                        refine En_callV rfl rfl rfl rfl rfl rfl rfl rfl tgz_3 (by decide +kernel) rfl (c_68x σ195 h196 a ha y48 h198 y50 h200 (by first | exact q_8ecf8a2bf8 h209 h256 | omega) h243 (by (first | exact q_d2dcd30e56 h257 | omega)) hP (FXP_fr hP hX h197 (by decide +kernel)) h258) (by decide) (by decide) (fun v568 σ569 h567 => ?_)
                        obtain ⟨h570, h571, z573, h574, rfl, h572⟩ := h567
                        have h575 := h572.2.2.2.2.2
                        have h576 := Fr_trans h197 h571 (by decide +kernel)
                        have h577 := OTH_fr h214 h571 (by decide +kernel)
                        obtain ⟨S578, h579⟩ : ∃ q : PS, q = fOwner By Nb S241 := ⟨_, rfl⟩
                        have h580 : CT By Nb σ569 S578 := by rw [h579]; exact h575.1
                        have h581 := CT_k h580 h574
                        have h582 : Imp (S578.1 = 0) (KN σ569 a S578.2.2.2 (act S578.2.2.2)) := fun z => by rw [h579] at z ⊢; exact h575.2 z
                        have o583 : OUT σ0 σ569 a := OUT_tr h216 h572.1
                        refine En_Ps 1 (pc' := 199) (lv' := [(0, .ref 3), (1, .ref a), (2, .int y47)]) (st' := []) rfl ?_
                        have h584 : fL1 By Nb S241 = S578 := by rw [h579]; exact (fL1_1 (by (first | exact q_957696b956 h368 h201 h259 | omega))).trans (fNx_9 (by (first | exact q_7ed2936742 h436 h380 | omega)) (by (first | exact q_7ed2936742 h435 h393 | omega)) (by (first | exact q_7ed2936742 h434 h407 | omega)) (by (first | exact q_7ed2936742 h433 h422 | omega)) (by (first | exact q_8c31a76373 h438 h428.1 h432 h428.2.1 | omega)))
                        exact keyj199 σ569 z573 y50 y49 h570 h576 h574 (by first | exact q_ef1e8e38bf h572.2.1 | omega) (by first | exact q_87d9217d84 h572.2.2.1 | omega) ((h571 _ _ (inW ha (by decide +kernel))).trans h200) (by first | exact q_77b189e83d h207 | omega) (by first | exact q_c82ed93a8c h208 | omega) ((h571 _ _ (inW ha (by decide +kernel))).trans h199) (by first | exact q_58e6e51dcc h205 | omega) (by first | exact q_3232882bcd h206 | omega) (by (first | exact q_9bb24b9614 h572.2.2.2.1 h209 | omega)) (by (first | exact q_68b4389ff1 | omega)) (h577) (CT_eq h580 h584.symm) (by rw [h584]; exact h582) (o583)
                    · refine En_Ps 2 (pc' := 120) (lv' := [(0, .ref 3), (1, .ref a), (2, .int y47)]) (st' := [.ref a, .ref 3]) rfl ?_
                      refine En_callV rfl rfl rfl rfl rfl rfl rfl rfl tgz_3 (by decide +kernel) rfl (c_70x σ195 h196 a ha y48 h198 y50 h200 (by first | exact q_8ecf8a2bf8 h209 h256 | omega) h243 (by (first | exact q_d2dcd30e56 h257 | omega)) hP (FXP_fr hP hX h197 (by decide +kernel)) h258) (by decide) (by decide) (fun v586 σ587 h585 => ?_)
                      obtain ⟨h588, h589, z591, h592, rfl, h590⟩ := h585
                      have h593 := h590.2.2.2.2.2
                      have h594 := Fr_trans h197 h589 (by decide +kernel)
                      have h595 := OTH_fr h214 h589 (by decide +kernel)
                      obtain ⟨S596, h597⟩ : ∃ q : PS, q = fTwin By Nb S241 := ⟨_, rfl⟩
                      have h598 : CT By Nb σ587 S596 := by rw [h597]; exact h593.1
                      have h599 := CT_k h598 h592
                      have h600 : Imp (S596.1 = 0) (KN σ587 a S596.2.2.2 (act S596.2.2.2)) := fun z => by rw [h597] at z ⊢; exact h593.2 z
                      have o601 : OUT σ0 σ587 a := OUT_tr h216 h590.1
                      refine En_Ps 1 (pc' := 199) (lv' := [(0, .ref 3), (1, .ref a), (2, .int y47)]) (st' := []) rfl ?_
                      have h602 : fL1 By Nb S241 = S596 := by rw [h597]; exact (fL1_1 (by (first | exact q_957696b956 h368 h201 h259 | omega))).trans (fNx_17 (by (first | exact q_7ed2936742 h420 h380 | omega)) (by (first | exact q_7ed2936742 h419 h393 | omega)) (by (first | exact q_7ed2936742 h418 h407 | omega)) (by (first | exact q_8c31a76373 h422 h413.1 h417 h413.2.1 | omega)))
                      exact keyj199 σ587 z591 y50 y49 h588 h594 h592 (by first | exact q_ef1e8e38bf h590.2.1 | omega) (by first | exact q_87d9217d84 h590.2.2.1 | omega) ((h589 _ _ (inW ha (by decide +kernel))).trans h200) (by first | exact q_77b189e83d h207 | omega) (by first | exact q_c82ed93a8c h208 | omega) ((h589 _ _ (inW ha (by decide +kernel))).trans h199) (by first | exact q_58e6e51dcc h205 | omega) (by first | exact q_3232882bcd h206 | omega) (by (first | exact q_9bb24b9614 h590.2.2.2.1 h209 | omega)) (by (first | exact q_68b4389ff1 | omega)) (h595) (CT_eq h598 h602.symm) (by rw [h602]; exact h600) (o601)
                  · refine En_Ps 2 (pc' := 103) (lv' := [(0, .ref 3), (1, .ref a), (2, .int y47)]) (st' := [.ref a, .ref 3]) rfl ?_
                    refine En_callV rfl rfl rfl rfl rfl rfl rfl rfl tgz_3 (by decide +kernel) rfl (c_64x σ195 h196 a ha y48 h198 y50 h200 (by first | exact q_8ecf8a2bf8 h209 h256 | omega) h243 (by (first | exact q_d2dcd30e56 h257 | omega)) hP (FXP_fr hP hX h197 (by decide +kernel)) h258) (by decide) (by decide) (fun v604 σ605 h603 => ?_)
                    obtain ⟨h606, h607, z609, h610, rfl, h608⟩ := h603
                    have h611 := h608.2.2.2.2.2
                    have h612 := Fr_trans h197 h607 (by decide +kernel)
                    have h613 := OTH_fr h214 h607 (by decide +kernel)
                    obtain ⟨S614, h615⟩ : ∃ q : PS, q = fExam By Nb S241 := ⟨_, rfl⟩
                    have h616 : CT By Nb σ605 S614 := by rw [h615]; exact h611.1
                    have h617 := CT_k h616 h610
                    have h618 : Imp (S614.1 = 0) (KN σ605 a S614.2.2.2 (act S614.2.2.2)) := fun z => by rw [h615] at z ⊢; exact h611.2 z
                    have o619 : OUT σ0 σ605 a := OUT_tr h216 h608.1
                    refine En_Ps 1 (pc' := 199) (lv' := [(0, .ref 3), (1, .ref a), (2, .int y47)]) (st' := []) rfl ?_
                    have h620 : fL1 By Nb S241 = S614 := by rw [h615]; exact (fL1_1 (by (first | exact q_957696b956 h368 h201 h259 | omega))).trans (fNx_3 (by (first | exact q_7ed2936742 h405 h380 | omega)) (by (first | exact q_7ed2936742 h404 h393 | omega)) (by (first | exact q_8c31a76373 h407 h399.1 h403 h399.2.1 | omega)))
                    exact keyj199 σ605 z609 y50 y49 h606 h612 h610 (by first | exact q_ef1e8e38bf h608.2.1 | omega) (by first | exact q_87d9217d84 h608.2.2.1 | omega) ((h607 _ _ (inW ha (by decide +kernel))).trans h200) (by first | exact q_77b189e83d h207 | omega) (by first | exact q_c82ed93a8c h208 | omega) ((h607 _ _ (inW ha (by decide +kernel))).trans h199) (by first | exact q_58e6e51dcc h205 | omega) (by first | exact q_3232882bcd h206 | omega) (by (first | exact q_9bb24b9614 h608.2.2.2.1 h209 | omega)) (by (first | exact q_68b4389ff1 | omega)) (h613) (CT_eq h616 h620.symm) (by rw [h620]; exact h618) (o619)
                · refine En_Ps 2 (pc' := 86) (lv' := [(0, .ref 3), (1, .ref a), (2, .int y47)]) (st' := [.ref a, .ref 3]) rfl ?_
                  refine En_callV rfl rfl rfl rfl rfl rfl rfl rfl tgz_3 (by decide +kernel) rfl (c_67x σ195 h196 a ha y48 h198 y50 h200 (by first | exact q_8ecf8a2bf8 h209 h256 | omega) h243 (by (first | exact q_d2dcd30e56 h257 | omega)) hP (FXP_fr hP hX h197 (by decide +kernel)) h258) (by decide) (by decide) (fun v622 σ623 h621 => ?_)
                  obtain ⟨h624, h625, z627, h628, rfl, h626⟩ := h621
                  have h629 := h626.2.2.2.2.2
                  have h630 := Fr_trans h197 h625 (by decide +kernel)
                  have h631 := OTH_fr h214 h625 (by decide +kernel)
                  obtain ⟨S632, h633⟩ : ∃ q : PS, q = fLesson By Nb S241 := ⟨_, rfl⟩
                  have h634 : CT By Nb σ623 S632 := by rw [h633]; exact h629.1
                  have h635 := CT_k h634 h628
                  have h636 : Imp (S632.1 = 0) (KN σ623 a S632.2.2.2 (act S632.2.2.2)) := fun z => by rw [h633] at z ⊢; exact h629.2 z
                  have o637 : OUT σ0 σ623 a := OUT_tr h216 h626.1
                  refine En_Ps 1 (pc' := 199) (lv' := [(0, .ref 3), (1, .ref a), (2, .int y47)]) (st' := []) rfl ?_
                  have h638 : fL1 By Nb S241 = S632 := by rw [h633]; exact (fL1_1 (by (first | exact q_957696b956 h368 h201 h259 | omega))).trans (fNx_6 (by (first | exact q_7ed2936742 h391 h380 | omega)) (by (first | exact q_8c31a76373 h393 h386.1 h390 h386.2.1 | omega)))
                  exact keyj199 σ623 z627 y50 y49 h624 h630 h628 (by first | exact q_ef1e8e38bf h626.2.1 | omega) (by first | exact q_87d9217d84 h626.2.2.1 | omega) ((h625 _ _ (inW ha (by decide +kernel))).trans h200) (by first | exact q_77b189e83d h207 | omega) (by first | exact q_c82ed93a8c h208 | omega) ((h625 _ _ (inW ha (by decide +kernel))).trans h199) (by first | exact q_58e6e51dcc h205 | omega) (by first | exact q_3232882bcd h206 | omega) (by (first | exact q_9bb24b9614 h626.2.2.2.1 h209 | omega)) (by (first | exact q_68b4389ff1 | omega)) (h631) (CT_eq h634 h638.symm) (by rw [h638]; exact h636) (o637)
              · refine En_Ps 2 (pc' := 69) (lv' := [(0, .ref 3), (1, .ref a), (2, .int y47)]) (st' := [.ref a, .ref 3]) rfl ?_
                refine En_callV rfl rfl rfl rfl rfl rfl rfl rfl tgz_3 (by decide +kernel) rfl (c_63x σ195 h196 a ha y48 h198 y50 h200 (by first | exact q_8ecf8a2bf8 h209 h256 | omega) h243 (by (first | exact q_d2dcd30e56 h257 | omega)) hP (FXP_fr hP hX h197 (by decide +kernel)) h258) (by decide) (by decide) (fun v640 σ641 h639 => ?_)
                obtain ⟨h642, h643, z645, h646, rfl, h644⟩ := h639
                have h647 := h644.2.2.2.2.2
                have h648 := Fr_trans h197 h643 (by decide +kernel)
                have h649 := OTH_fr h214 h643 (by decide +kernel)
                obtain ⟨S650, h651⟩ : ∃ q : PS, q = fDoor By Nb S241 := ⟨_, rfl⟩
                have h652 : CT By Nb σ641 S650 := by rw [h651]; exact h647.1
                have h653 := CT_k h652 h646
                have h654 : Imp (S650.1 = 0) (KN σ641 a S650.2.2.2 (act S650.2.2.2)) := fun z => by rw [h651] at z ⊢; exact h647.2 z
                have o655 : OUT σ0 σ641 a := OUT_tr h216 h644.1
                refine En_Ps 1 (pc' := 199) (lv' := [(0, .ref 3), (1, .ref a), (2, .int y47)]) (st' := []) rfl ?_
                have h656 : fL1 By Nb S241 = S650 := by rw [h651]; exact (fL1_1 (by (first | exact q_957696b956 h368 h201 h259 | omega))).trans (fNx_2 (by (first | exact q_8c31a76373 h380 h374.1 h378 h374.2.1 | omega)))
                exact keyj199 σ641 z645 y50 y49 h642 h648 h646 (by first | exact q_ef1e8e38bf h644.2.1 | omega) (by first | exact q_87d9217d84 h644.2.2.1 | omega) ((h643 _ _ (inW ha (by decide +kernel))).trans h200) (by first | exact q_77b189e83d h207 | omega) (by first | exact q_c82ed93a8c h208 | omega) ((h643 _ _ (inW ha (by decide +kernel))).trans h199) (by first | exact q_58e6e51dcc h205 | omega) (by first | exact q_3232882bcd h206 | omega) (by (first | exact q_9bb24b9614 h644.2.2.2.1 h209 | omega)) (by (first | exact q_68b4389ff1 | omega)) (h649) (CT_eq h652 h656.symm) (by rw [h656]; exact h654) (o655)
            · refine En_Ps 2 (pc' := 52) (lv' := [(0, .ref 3), (1, .ref a), (2, .int y47)]) (st' := [.ref a, .ref 3]) rfl ?_
              refine En_callV rfl rfl rfl rfl rfl rfl rfl rfl tgz_3 (by decide +kernel) rfl (c_65x σ195 h196 a ha y48 h198 h243 (by (first | exact q_d2dcd30e56 h257 | omega)) hP (FXP_fr hP hX h197 (by decide +kernel)) h258) (by decide) (by decide) (fun v658 σ659 h657 => ?_)
              obtain ⟨h660, h661, z663, h664, z665, h666, rfl, h662⟩ := h657
              have h667 := h662.2.2.2.2.2.2.2.2
              have h668 := Fr_trans h197 h661 (by decide +kernel)
              have h669 := OTH_tr h214 h667.1
              obtain ⟨S670, h671⟩ : ∃ q : PS, q = fFirst By Nb S241 := ⟨_, rfl⟩
              have h672 : CT By Nb σ659 S670 := by rw [h671]; exact h667.2.1
              have h673 := CT_k h672 h664
              have h674 : Imp (S670.1 = 0) (KN σ659 a S670.2.2.2 (act S670.2.2.2)) := fun z => by rw [h671] at z ⊢; exact h667.2.2 z
              have o675 : OUT σ0 σ659 a := OUT_tr h216 h662.1
              refine En_Ps 1 (pc' := 199) (lv' := [(0, .ref 3), (1, .ref a), (2, .int y47)]) (st' := []) rfl ?_
              have h676 : fL1 By Nb S241 = S670 := by rw [h671]; exact fL1_0 (by (first | exact q_e3c834491b h260 h205 h259 h368 | omega))
              exact keyj199 σ659 z663 z665 y49 h660 h668 h664 (by first | exact q_ef1e8e38bf h662.2.1 | omega) (by first | exact q_87d9217d84 h662.2.2.1 | omega) h666 (by first | exact q_ce01e7a6da h662.2.2.2.2.1 | omega) (by first | exact q_3b0dd79e8e h662.2.2.2.2.2.1 | omega) ((h661 _ _ (inW ha (by decide +kernel))).trans h199) (by first | exact q_58e6e51dcc h205 | omega) (by first | exact q_3232882bcd h206 | omega) (by (first | exact q_aa456fd6fe h662.2.2.2.2.2.2.2.1 | omega)) (by (first | exact q_68b4389ff1 | omega)) (h669) (CT_eq h672 h676.symm) (by rw [h676]; exact h674) (o675)
  have := (by decide : (Int32.ofInt 0).toInt = 0)
  have := (by decide : (Int32.ofInt 0).toInt = 0)
  refine En_lv (lv := [(0, .ref 3), (1, .ref a), (2, .int ((Int32.ofInt 0)))]) ⟨rfl, rfl, rfl, trivial⟩ ?_
  exact key25 (Int.toNat (1601) + 1) σ38 ((Int32.ofInt 0)) ((Int32.ofInt 0)) z28 z30 h39 h43 ((h40 _ _ (inW tgz_3 (by decide +kernel))).trans ((h26 _ _ (inW tgz_3 (by decide +kernel))).trans ((h19 _ _ (Or.inr (by decide))).trans ((h12 _ _ (Or.inr (by decide))).trans h4)))) ((h40 _ _ (inW ha (by decide +kernel))).trans h29) ((h40 _ _ (inW ha (by decide +kernel))).trans h31) (by decide) (by decide) (by decide) (by decide) (by first | exact q_ef1e8e38bf h27.2.1 | omega) (by first | exact q_319b9e2471 h27.2.2.1 | omega) (by first | exact q_1ab37740a2 h27.2.2.2.1 | omega) (by first | exact q_6b679f4e4f h27.2.2.2.2.1 | omega) (by (first | exact q_a9162359ad (by decide) h27.2.2.2.1 | omega)) (by first | exact q_af949619b4 h27.2.1 h27.2.2.2.1 | omega) (by (first | exact q_70193772ad (by decide) | omega)) (by (first | exact q_5abeeef05c (by decide) | omega)) (by first | exact toN_lt _ | omega) (h44) (RLI_0 h42 (by decide) ((h40 _ _ (inW tgz_3 (by decide +kernel))).trans ((h26 _ _ (inW tgz_3 (by decide +kernel))).trans ((h19 _ _ (Or.inr (by decide))).trans ((h12 _ _ (Or.inr (by decide))).trans h4)))) (by decide) ((h40 _ _ (inW tgz_3 (by decide +kernel))).trans ((h26 _ _ (inW tgz_3 (by decide +kernel))).trans ((h19 _ _ (Or.inr (by decide))).trans h11))) (by decide) h45 (by decide)) (o46)
/-- DoorSchool$Rules.deedsOf(II)I -/
abbrev P_77ax (σ0 : SG) (a : Int32) (b : Int32) (kk : Int32) : PO := fun v σ => WT σ ∧ Fr [] σ0 σ ∧ ∃ ret : Int32, v = some (Value.int ret) ∧ -ret.toInt ≤ 0 ∧ ret.toInt - 65535 ≤ 0 ∧ ret.toInt = DOf a.toInt b.toInt kk.toInt.toNat
set_option maxRecDepth 10000 in
set_option maxHeartbeats 4000000 in
theorem c_77ax (σ0 : SG) (hσ0 : WT σ0) (a : Int32) (b : Int32) (hl_a : 0 ≤ a.toInt) (hu_a : a.toInt ≤ 15) (kk : Int32) (h_kk : (σ0 4)[0]? = some (Value.int kk)) : En 0 0 none mr_77 (P_77ax σ0 a b kk) 0 [(0, .ref 4), (1, .int a), (2, .int b)] [] σ0 := by
  obtain ⟨hl_kk, hu_kk⟩ := WT_int hσ0 (g := 4) (by decide +kernel) (by decide +kernel) (l := 0) (u := 16) (by decide +kernel) h_kk
  have hF0 : Fr [] σ0 σ0 := Fr_rfl
  refine En_Ps 4 (pc' := 5) (lv' := [(4, .int ((Int32.ofInt 0))), (3, .int ((Int32.ofInt 0))), (0, .ref 4), (1, .int a), (2, .int b)]) (st' := []) rfl ?_
  have key5 : ∀ (n5 : Nat) (y1 : Int32) (y2 : Int32), 0 ≤ y1.toInt → y1.toInt ≤ 65535 → 0 ≤ y2.toInt → y2.toInt ≤ 16 → y2.toInt - kk.toInt ≤ 0 → kk.toInt - y2.toInt < (n5 : Int) → y1.toInt = DOf a.toInt b.toInt (y2.toInt).toNat → En 0 0 none mr_77 (P_77ax σ0 a b kk) 5 [(0, .ref 4), (1, .int a), (2, .int b), (3, .int y1), (4, .int y2)] [] σ0 := by
    intro n5
    induction n5 with
    | zero =>
      intro y1 y2 h6 h7 h8 h9 h10 h11 h12
      first | exact (q_14257feae7 h10 h11).elim | (exfalso; omega)
    | succ n5 ih5 =>
      intro y1 y2 h6 h7 h8 h9 h10 h11 h12
      refine En_Ps 2 (pc' := 8) (lv' := [(0, .ref 4), (1, .int a), (2, .int b), (3, .int y1), (4, .int y2)]) (st' := [.ref 4, .int y2]) rfl ?_
      refine En_getK (j := 0) h_kk rfl rfl rfl tgz_4 (by decide +kernel) ?_
      refine En_icGe _ rfl rfl rfl (fun h13 => ?_) (fun h13 => ?_)
      · refine En_Ps 1 (pc' := 36) (lv' := [(0, .ref 4), (1, .int a), (2, .int b), (3, .int y1), (4, .int y2)]) (st' := [.int y1]) rfl ?_
        exact En_ret (v := some (Value.int y1)) rfl rfl rfl ⟨hσ0, hF0, y1, rfl, ⟨by first | exact q_c803b490ef h6 | omega, by first | exact q_e7edf0f95a h7 | omega, DOf_e h12 (by (first | exact q_596e244303 h10 h13 | omega)) (by (first | exact q_61ddd2b576 | omega))⟩⟩
      · refine En_Ps 3 (pc' := 18) (lv' := [(0, .ref 4), (1, .int a), (2, .int b), (3, .int y1), (4, .int y2)]) (st' := [.int ((y2 &&& a))]) rfl ?_
        refine En_nam (fun z14 h15 => ?_)
        have h16 : z14.toInt = aN y2.toInt a.toInt := and_v h15 rfl rfl (by (first | exact q_58e6e51dcc h8 | omega)) (by (first | exact q_58e6e51dcc hl_a | omega))
        have := aN_le (X := y2.toInt) (Y := a.toInt) (by (first | exact q_58e6e51dcc h8 | omega)) (by (first | exact q_58e6e51dcc hl_a | omega))
        refine En_Ps 1 (pc' := 19) (lv' := [(0, .ref 4), (1, .int a), (2, .int b), (3, .int y1), (4, .int y2)]) (st' := [.int b, .int z14]) rfl ?_
        refine En_icNe _ rfl rfl rfl (fun h17 => ?_) (fun h17 => ?_)
        · refine En_Ps 1 (pc' := 32) (lv' := [(4, .int ((y2 + Int32.ofInt 1))), (0, .ref 4), (1, .int a), (2, .int b), (3, .int y1)]) (st' := []) rfl ?_
          refine En_lv1 (addI rfl (by decide : (Int32.ofInt 1).toInt = 1) (by first | exact q_465ab79ac1 h8 | omega) (by first | exact q_f3f8e04381 h9 | omega)) (fun z18 h19 => ?_)
          refine En_Ps 1 (pc' := 5) (lv' := [(4, .int z18), (0, .ref 4), (1, .int a), (2, .int b), (3, .int y1)]) (st' := []) rfl ?_
          refine En_lv (lv := [(0, .ref 4), (1, .int a), (2, .int b), (3, .int y1), (4, .int z18)]) ⟨rfl, rfl, rfl, rfl, rfl, trivial⟩ ?_
          exact ih5 y1 z18 (by first | exact q_58e6e51dcc h6 | omega) (by first | exact q_36eb0a70bf h7 | omega) (by first | exact q_35104ce9d3 h19 h8 | omega) (by first | exact q_eba8fd3b5f h19 h13 hu_kk | omega) (by first | exact q_ae2dbf4292 h13 h19 | omega) (by first | exact q_8d03a5a7cb h19 h11 | omega) (DOf_n (by (first | exact q_58e6e51dcc h8 | omega)) h12 (by (first | exact q_9ab7013364 h17 h16 | omega)) (by (first | exact q_61ddd2b576 | omega)) (by (first | exact q_ba1b2c713b h19 | omega)))
        · refine En_Ps 4 (pc' := 27) (lv' := [(0, .ref 4), (1, .int a), (2, .int b), (3, .int y1), (4, .int y2)]) (st' := [.int ((((Int32.ofInt 1)) <<< (y2 &&& 31))), .int y1]) rfl ?_
          refine En_nam (fun z20 h21 => ?_)
          have h22 : z20.toInt = pI y2.toInt := shl_v h21 rfl (by (first | exact q_58e6e51dcc h8 | omega)) (by (first | exact q_6aeb8f39ce h9 | omega))
          have := pI_pos y2.toInt
          have : pI y2.toInt ≤ 32768 := pI_mono (Y := 15) (by (first | exact q_3f0e495169 h13 hu_kk | omega))
          refine En_Ps 1 (pc' := 28) (lv' := [(0, .ref 4), (1, .int a), (2, .int b), (3, .int y1), (4, .int y2)]) (st' := [.int ((y1 ||| z20))]) rfl ?_
          refine En_nam (fun z23 h24 => ?_)
          have h25 : z23.toInt = oN y1.toInt z20.toInt := or_v h24 rfl rfl (by (first | exact q_58e6e51dcc h6 | omega)) (by omega)
          have := oN_lt (X := y1.toInt) (Y := z20.toInt) 16 (by (first | exact q_58e6e51dcc h6 | omega)) (by omega) (Int.lt_of_le_of_lt (by (first | exact q_36eb0a70bf h7 | omega) : _ ≤ (65535 : Int)) (by decide)) (Int.lt_of_le_of_lt (by (first | exact q_9f8ced71a0 h22 this | omega) : _ ≤ (65535 : Int)) (by decide))
          have two16 : ((2 ^ 16 : Nat) : Int) = 65536 := by decide
          refine En_Ps 2 (pc' := 32) (lv' := [(4, .int ((y2 + Int32.ofInt 1))), (3, .int z23), (0, .ref 4), (1, .int a), (2, .int b)]) (st' := []) rfl ?_
          refine En_lv1 (addI rfl (by decide : (Int32.ofInt 1).toInt = 1) (by first | exact q_465ab79ac1 h8 | omega) (by first | exact q_f3f8e04381 h9 | omega)) (fun z26 h27 => ?_)
          refine En_Ps 1 (pc' := 5) (lv' := [(4, .int z26), (3, .int z23), (0, .ref 4), (1, .int a), (2, .int b)]) (st' := []) rfl ?_
          refine En_lv (lv := [(0, .ref 4), (1, .int a), (2, .int b), (3, .int z23), (4, .int z26)]) ⟨rfl, rfl, rfl, rfl, rfl, trivial⟩ ?_
          exact ih5 z23 z26 (by (first | exact q_2d21ab1e6c h25 this.1 | omega)) (by (first | exact q_227fb2011d h25 this.2 two16 | omega)) (by first | exact q_35104ce9d3 h27 h8 | omega) (by first | exact q_eba8fd3b5f h27 h13 hu_kk | omega) (by first | exact q_ae2dbf4292 h13 h27 | omega) (by first | exact q_8d03a5a7cb h27 h11 | omega) ((by first | exact DOf_y (q := z20.toInt) (by (first | exact q_58e6e51dcc h8 | omega)) h12 (by (first | exact q_aeeede310e h17 h16 | omega)) (by (first | exact q_b1495600e7 h22 | omega)) (by (first | exact q_b1495600e7 h25 | omega)) (by (first | exact q_ba1b2c713b h27 | omega)) | exact DOf_z (q := z20.toInt) (by omega) h12 (by omega) (by omega) (by omega) (by omega) (by omega)))
  have := (by decide : (Int32.ofInt 0).toInt = 0)
  have := (by decide : (Int32.ofInt 0).toInt = 0)
  refine En_lv (lv := [(0, .ref 4), (1, .int a), (2, .int b), (3, .int ((Int32.ofInt 0))), (4, .int ((Int32.ofInt 0)))]) ⟨rfl, rfl, rfl, rfl, rfl, trivial⟩ ?_
  exact key5 (Int.toNat (kk.toInt) + 1) ((Int32.ofInt 0)) ((Int32.ofInt 0)) (by decide) (by decide) (by decide) (by decide) (by (first | exact q_d69f448e8e (by decide) hl_kk | omega)) (by first | exact toN_lt _ | omega) (DOf_0 (by (first | exact q_d2dcd30e56 (by decide) | omega)) (by (first | exact q_d2dcd30e56 (by decide) | omega)))
/-- DoorSchool$Rules.addAllOf(I)V -/
abbrev P_76x (σ0 : SG) (n : Int) (a : Int32) (kk : Int32) (sz : Int32) : PO := fun v σ => WT σ ∧ Fr [(4, 1), (5, 0), (6, 0), (7, 0)] σ0 σ ∧ ∃ sz1 : Int32, (σ 4)[1]? = some (Value.int sz1) ∧ v = none ∧ -sz1.toInt ≤ 0 ∧ sz1.toInt - 81 ≤ 0 ∧ sz1.toInt - sz.toInt - 16 ≤ 0 ∧ (RN kk.toInt n (a.toInt + 1) sz1.toInt ∧ TB σ 5 6 7 kk.toInt sz1.toInt)
set_option maxRecDepth 10000 in
set_option maxHeartbeats 4000000 in
theorem c_76x {n : Int} (σ0 : SG) (hσ0 : WT σ0) (a : Int32) (hl_a : 0 ≤ a.toInt) (hu_a : a.toInt ≤ 15) (kk : Int32) (h_kk : (σ0 4)[0]? = some (Value.int kk)) (sz : Int32) (h_sz : (σ0 4)[1]? = some (Value.int sz)) (hN : RN kk.toInt n a.toInt sz.toInt) (hm : a.toInt < kk.toInt) (hb : bcI a.toInt = n) (hT : TB σ0 5 6 7 kk.toInt sz.toInt) (hK : P2 kk.toInt) : En 1 24 none mr_76 (P_76x σ0 n a kk sz) 0 [(0, .ref 4), (1, .int a)] [] σ0 := by
  obtain ⟨hl_kk, hu_kk⟩ := WT_int hσ0 (g := 4) (by decide +kernel) (by decide +kernel) (l := 0) (u := 16) (by decide +kernel) h_kk
  obtain ⟨hl_sz, hu_sz⟩ := WT_int hσ0 (g := 4) (by decide +kernel) (by decide +kernel) (l := 0) (u := 81) (by decide +kernel) h_sz
  have hF0 : Fr [(4, 1), (5, 0), (6, 0), (7, 0)] σ0 σ0 := Fr_rfl
  refine En_Ps 2 (pc' := 2) (lv' := [(2, .int ((Int32.ofInt 0))), (0, .ref 4), (1, .int a)]) (st' := []) rfl ?_
  have key2 : ∀ (n2 : Nat) (σ3 : SG) (y1 : Int32) (y2 : Int32), WT σ3 → Fr [(4, 1), (5, 0), (6, 0), (7, 0)] σ0 σ3 → (σ3 4)[0]? = some (Value.int kk) → (σ3 4)[1]? = some (Value.int y2) → 0 ≤ y1.toInt → y1.toInt ≤ 16 → 0 ≤ y2.toInt → y2.toInt ≤ 81 → y1.toInt - a.toInt - 1 ≤ 0 → -sz.toInt - y1.toInt + y2.toInt ≤ 0 → -y1.toInt + 16 < (n2 : Int) → RV kk.toInt n a.toInt y1.toInt y2.toInt → TB σ3 5 6 7 kk.toInt y2.toInt → En 1 24 none mr_76 (P_76x σ0 n a kk sz) 2 [(0, .ref 4), (1, .int a), (2, .int y1)] [] σ3 := by
    intro n2
    induction n2 with
    | zero =>
      intro σ3 y1 y2 h4 h5 h6 h7 h8 h9 h10 h11 h12 h13 h14 h15 h16
      first | exact (q_511f6d33ac h14 h9).elim | (exfalso; omega)
    | succ n2 ih2 =>
      intro σ3 y1 y2 h4 h5 h6 h7 h8 h9 h10 h11 h12 h13 h14 h15 h16
      refine En_Ps 2 (pc' := 4) (lv' := [(0, .ref 4), (1, .int a), (2, .int y1)]) (st' := [.int a, .int y1]) rfl ?_
      refine En_icGt _ rfl rfl rfl (fun h17 => ?_) (fun h17 => ?_)
      · exact En_ret (v := none) rfl rfl rfl ⟨h4, h5, y2, h7, rfl, ⟨by first | exact q_c803b490ef h10 | omega, by first | exact q_96a57adcaf h11 | omega, by first | exact q_23c634d40a h13 h9 | omega, ⟨RN_x h15 (by (first | exact q_114b7bcb5b h17 | omega)) rfl rfl (by (first | exact q_61ddd2b576 | omega)), TB_eq h16 (by (first | exact q_61ddd2b576 | omega))⟩⟩⟩
      · refine En_Ps 1 (pc' := 8) (lv' := [(0, .ref 4), (1, .int a), (2, .int y1)]) (st' := [.ref 4]) rfl ?_
        refine En_getK (j := 1) h7 rfl rfl rfl tgz_4 (by decide +kernel) ?_
        have h18 := RV_le h15 (by (first | exact q_7b14c78c18 h17 | omega))
        refine En_Ps 1 (pc' := 13) (lv' := [(0, .ref 4), (1, .int a), (2, .int y1)]) (st' := [.int (((Int8.ofInt 81).toInt32)), .int y2]) rfl ?_
        refine En_icGe _ rfl (by decide : ((Int8.ofInt 81).toInt32).toInt = 81) rfl (fun hx => by exfalso; (first | exact q_92d0d2f668 h18.1 hx | omega)) (fun h19 => ?_)
        refine En_Ps 4 (pc' := 20) (lv' := [(0, .ref 4), (1, .int a), (2, .int y1)]) (st' := [.int ((a ^^^ ((Int32.ofInt (-1))))), .int y1]) rfl ?_
        refine En_nam (fun z20 h21 => ?_)
        refine En_Ps 1 (pc' := 21) (lv' := [(0, .ref 4), (1, .int a), (2, .int y1)]) (st' := [.int ((y1 &&& z20))]) rfl ?_
        refine En_nam (fun z22 h23 => ?_)
        obtain ⟨h24, h25⟩ := andn_rng h23 rfl (by (first | exact q_58e6e51dcc h8 | omega)) (by (first | exact q_c91fdb11f1 h17 hu_a | omega) : _ ≤ (15 : Int))
        refine En_iNe _ rfl rfl (fun h26 => ?_) (fun h26 => ?_)
        · have := sub_sb h23 h21 rfl rfl (by (first | exact q_58e6e51dcc h8 | omega)) (by (first | exact q_c91fdb11f1 h17 hu_a | omega)) (by (first | exact q_58e6e51dcc hl_a | omega)) (by (first | exact q_5a4d8a7e08 hu_a | omega))
          refine En_Ps 1 (pc' := 72) (lv' := [(2, .int ((y1 + Int32.ofInt 1))), (0, .ref 4), (1, .int a)]) (st' := []) rfl ?_
          refine En_lv1 (addI rfl (by decide : (Int32.ofInt 1).toInt = 1) (by first | exact q_465ab79ac1 h8 | omega) (by first | exact q_f3f8e04381 h9 | omega)) (fun z27 h28 => ?_)
          refine En_Ps 1 (pc' := 2) (lv' := [(2, .int z27), (0, .ref 4), (1, .int a)]) (st' := []) rfl ?_
          refine En_lv (lv := [(0, .ref 4), (1, .int a), (2, .int z27)]) ⟨rfl, rfl, rfl, trivial⟩ ?_
          exact ih2 σ3 z27 y2 h4 h5 h6 h7 (by first | exact q_35104ce9d3 h28 h8 | omega) (by first | exact q_3d3df992fe h28 h17 hu_a | omega) (by first | exact q_58e6e51dcc h10 | omega) (by first | exact q_8d9f3dc7f1 h19 | omega) (by first | exact q_521b808ea1 h17 h28 | omega) (by first | exact q_affce3384d h13 h28 | omega) (by first | exact q_c5d740bdff h28 h14 | omega) (RV_not h15 (by (first | exact q_7b14c78c18 h17 | omega)) (by (first | exact q_080070e6d5 this.2 this.1 h24 h26 | omega)) rfl rfl (by (first | exact q_ba1b2c713b h28 | omega)) (by (first | exact q_61ddd2b576 | omega))) (TB_eq h16 (by (first | exact q_61ddd2b576 | omega)))
        · obtain ⟨h29, h30⟩ := andn_zero h23 h21 h26 rfl rfl (by (first | exact q_58e6e51dcc hl_a | omega))
          have := sub_sb h23 h21 rfl rfl (by (first | exact q_58e6e51dcc h29 | omega)) (by (first | exact q_c91fdb11f1 h30 hu_a | omega)) (by (first | exact q_58e6e51dcc hl_a | omega)) (by (first | exact q_5a4d8a7e08 hu_a | omega))
          refine En_Ps 1 (pc' := 25) (lv' := [(0, .ref 4), (1, .int a), (2, .int y1)]) (st' := [.ref 4]) rfl ?_
          refine En_getU (j := 2) (u := 5) (g' := 5) (q := 0) rfl rfl rfl tgz_4 (by decide +kernel) h4 (by decide +kernel) un_5_5 (fun h31 => ?_)
          refine En_Ps 1 (pc' := 29) (lv' := [(0, .ref 4), (1, .int a), (2, .int y1)]) (st' := [.ref 4, .ref 5]) rfl ?_
          refine En_getK (j := 1) h7 rfl rfl rfl tgz_4 (by decide +kernel) ?_
          refine En_Ps 1 (pc' := 33) (lv' := [(0, .ref 4), (1, .int a), (2, .int y1)]) (st' := [.int a, .int y2, .ref 5]) rfl ?_
          refine En_iast (l := 0) (u := 15) rfl rfl tgz_5 (by decide +kernel) (by first | exact q_58e6e51dcc h10 | omega) (lnI (by decide +kernel : LN _ = 81) (by first | exact q_3c107d4d4e h19 | omega)) (FTsgl (by decide +kernel)) (rngI rfl (by first | exact q_58e6e51dcc hl_a | omega) (by first | exact q_5a4d8a7e08 hu_a | omega)) h4 h5 (by decide +kernel) (fun σ33 h34 h35 h36 h37 => ?_)
          refine En_Ps 1 (pc' := 35) (lv' := [(0, .ref 4), (1, .int a), (2, .int y1)]) (st' := [.ref 4]) rfl ?_
          refine En_getU (j := 3) (u := 6) (g' := 6) (q := 0) rfl rfl rfl tgz_4 (by decide +kernel) h34 (by decide +kernel) un_6_6 (fun h38 => ?_)
          refine En_Ps 1 (pc' := 39) (lv' := [(0, .ref 4), (1, .int a), (2, .int y1)]) (st' := [.ref 4, .ref 6]) rfl ?_
          refine En_getK (j := 1) ((h37 _ _ (Or.inl (neTG tgz_4 tgz_5 (by decide)))).trans h7) rfl rfl rfl tgz_4 (by decide +kernel) ?_
          refine En_Ps 1 (pc' := 43) (lv' := [(0, .ref 4), (1, .int a), (2, .int y1)]) (st' := [.int y1, .int y2, .ref 6]) rfl ?_
          refine En_iast (l := 0) (u := 15) rfl rfl tgz_6 (by decide +kernel) (by first | exact q_58e6e51dcc h10 | omega) (lnI (by decide +kernel : LN _ = 81) (by first | exact q_3c107d4d4e h19 | omega)) (FTsgl (by decide +kernel)) (rngI rfl (by first | exact q_58e6e51dcc h8 | omega) (by first | exact q_c91fdb11f1 h17 hu_a | omega)) h34 h35 (by decide +kernel) (fun σ40 h41 h42 h43 h44 => ?_)
          refine En_Ps 1 (pc' := 45) (lv' := [(0, .ref 4), (1, .int a), (2, .int y1)]) (st' := [.ref 4]) rfl ?_
          refine En_getU (j := 4) (u := 7) (g' := 7) (q := 0) rfl rfl rfl tgz_4 (by decide +kernel) h41 (by decide +kernel) un_7_7 (fun h45 => ?_)
          refine En_Ps 1 (pc' := 49) (lv' := [(0, .ref 4), (1, .int a), (2, .int y1)]) (st' := [.ref 4, .ref 7]) rfl ?_
          refine En_getK (j := 1) ((h44 _ _ (Or.inl (neTG tgz_4 tgz_6 (by decide)))).trans ((h37 _ _ (Or.inl (neTG tgz_4 tgz_5 (by decide)))).trans h7)) rfl rfl rfl tgz_4 (by decide +kernel) ?_
          refine En_Ps 3 (pc' := 55) (lv' := [(0, .ref 4), (1, .int a), (2, .int y1)]) (st' := [.int y1, .int a, .ref 4, .int y2, .ref 7]) rfl ?_
          refine En_callV rfl rfl rfl rfl rfl rfl rfl rfl tgz_4 (by decide +kernel) rfl (c_77ax σ40 h41 a y1 (geI rfl (by first | exact q_58e6e51dcc hl_a | omega)) (leI rfl (by first | exact q_5a4d8a7e08 hu_a | omega)) kk ((h44 _ _ (Or.inl (neTG tgz_4 tgz_6 (by decide)))).trans ((h37 _ _ (Or.inl (neTG tgz_4 tgz_5 (by decide)))).trans h6))) (by decide) (by decide) (fun v48 σ49 h47 => ?_)
          obtain ⟨h50, h51, z53, rfl, h52⟩ := h47
          have h54 := h52.2.2
          obtain rfl : σ40 = σ49 := Fr_nil h51
          refine En_iast (l := (-2147483648)) (u := 2147483647) rfl rfl tgz_7 (by decide +kernel) (by first | exact q_58e6e51dcc h10 | omega) (lnI (by decide +kernel : LN _ = 81) (by first | exact q_3c107d4d4e h19 | omega)) (FTsgl (by decide +kernel)) (fullI _) h41 h42 (by decide +kernel) (fun σ55 h56 h57 h58 h59 => ?_)
          refine En_Ps 2 (pc' := 61) (lv' := [(0, .ref 4), (1, .int a), (2, .int y1)]) (st' := [.ref 4, .ref 4]) rfl ?_
          refine En_getK (j := 1) ((h59 _ _ (Or.inl (neTG tgz_4 tgz_7 (by decide)))).trans ((h44 _ _ (Or.inl (neTG tgz_4 tgz_6 (by decide)))).trans ((h37 _ _ (Or.inl (neTG tgz_4 tgz_5 (by decide)))).trans h7))) rfl rfl rfl tgz_4 (by decide +kernel) ?_
          refine En_Ps 2 (pc' := 66) (lv' := [(0, .ref 4), (1, .int a), (2, .int y1)]) (st' := [.int ((y2 + ((Int32.ofInt 1)))), .ref 4]) rfl ?_
          refine En_top (addI rfl (by decide : (Int32.ofInt 1).toInt = 1) (by first | exact q_465ab79ac1 h10 | omega) (by first | exact q_3491810b60 h19 | omega)) (fun z60 h61 => ?_)
          refine En_put (j := 1) rfl rfl rfl tgz_4 (by decide +kernel) rfl (vI (l := 0) (u := 81) (by decide +kernel) rfl (by first | exact q_35104ce9d3 h61 h10 | omega) (by first | exact q_47b60a236e h61 h19 | omega)) h56 h57 (by decide +kernel) (fun σ62 h63 h64 h65 h66 => ?_)
          refine En_Ps 1 (pc' := 72) (lv' := [(2, .int ((y1 + Int32.ofInt 1))), (0, .ref 4), (1, .int a)]) (st' := []) rfl ?_
          refine En_lv1 (addI rfl (by decide : (Int32.ofInt 1).toInt = 1) (by first | exact q_465ab79ac1 h8 | omega) (by first | exact q_f3f8e04381 h9 | omega)) (fun z67 h68 => ?_)
          refine En_Ps 1 (pc' := 2) (lv' := [(2, .int z67), (0, .ref 4), (1, .int a)]) (st' := []) rfl ?_
          refine En_lv (lv := [(0, .ref 4), (1, .int a), (2, .int z67)]) ⟨rfl, rfl, rfl, trivial⟩ ?_
          exact ih2 σ62 z67 z60 h63 h64 ((h66 _ _ (Or.inr (by decide))).trans ((h59 _ _ (Or.inl (neTG tgz_4 tgz_7 (by decide)))).trans ((h44 _ _ (Or.inl (neTG tgz_4 tgz_6 (by decide)))).trans ((h37 _ _ (Or.inl (neTG tgz_4 tgz_5 (by decide)))).trans h6)))) h65 (by first | exact q_35104ce9d3 h68 h8 | omega) (by first | exact q_3d3df992fe h68 h17 hu_a | omega) (by first | exact q_35104ce9d3 h61 h10 | omega) (by first | exact q_47b60a236e h61 h19 | omega) (by first | exact q_521b808ea1 h17 h68 | omega) (by first | exact q_1ead1c75dd h13 h61 h68 | omega) (by first | exact q_c5d740bdff h68 h14 | omega) (RV_put h15 (by (first | exact q_7b14c78c18 h30 | omega)) (by (first | exact q_0fc2ad1196 this.1 h26 | omega)) rfl rfl (by (first | exact q_ba1b2c713b h68 | omega)) (by (first | exact q_ba1b2c713b h61 | omega))) (TB_ne (TB_put h16 hK h15 (by (first | exact q_7b14c78c18 h30 | omega)) (by (first | exact q_0fc2ad1196 this.1 h26 | omega)) h36 h37 h43 h44 h58 h59 (by decide) (by decide) (by decide) (by (first | exact q_58e6e51dcc h18.2 | omega)) (by (first | exact q_61ddd2b576 | omega)) (by (first | exact q_61ddd2b576 | omega)) (by (first | exact q_61ddd2b576 | omega)) (by (first | exact q_61ddd2b576 | omega)) (by (first | exact q_61ddd2b576 | omega)) (by (first | exact q_b1495600e7 h54 | omega)) (by (first | exact q_ba1b2c713b h61 | omega))) h66 (by decide) (by decide) (by decide))
  have := (by decide : (Int32.ofInt 0).toInt = 0)
  refine En_lv (lv := [(0, .ref 4), (1, .int a), (2, .int ((Int32.ofInt 0)))]) ⟨rfl, rfl, rfl, trivial⟩ ?_
  exact key2 (Int.toNat (16) + 1) σ0 ((Int32.ofInt 0)) sz hσ0 hF0 h_kk h_sz (by decide) (by decide) (by first | exact q_58e6e51dcc hl_sz | omega) (by first | exact q_938d18a0b8 hu_sz | omega) (by (first | exact q_3d03bff604 this hl_a | omega)) (by (first | exact q_5abeeef05c this | omega)) (by first | exact toN_lt _ | omega) (RV_in hN hm hb rfl rfl (by (first | exact q_d2dcd30e56 this | omega)) (by (first | exact q_61ddd2b576 | omega))) (hT)
end
/-! 32.n06 -/
section
/-- DoorSchool$Rules.prepare(I)V -/
abbrev P_82x (σ0 : SG) (a : Int32) : PO := fun v σ => WT σ ∧ Fr [(4, 0), (4, 1), (5, 0), (6, 0), (7, 0)] σ0 σ ∧ v = none ∧ RULx σ a.toInt
set_option maxRecDepth 10000 in
set_option maxHeartbeats 4000000 in
theorem c_82x (σ0 : SG) (hσ0 : WT σ0) (a : Int32) (hl_a : 0 ≤ a.toInt) (hu_a : a.toInt ≤ 4) : En 2 46 none mr_82 (P_82x σ0 a) 0 [(0, .ref 4), (1, .int a)] [] σ0 := by
  have hF0 : Fr [(4, 0), (4, 1), (5, 0), (6, 0), (7, 0)] σ0 σ0 := Fr_rfl
  refine En_Ps 4 (pc' := 4) (lv' := [(0, .ref 4), (1, .int a)]) (st' := [.int ((((Int32.ofInt 1)) <<< (a &&& 31))), .ref 4]) rfl ?_
  refine En_nam (fun z1 h2 => ?_)
  have h3 : z1.toInt = pI a.toInt := shl_v h2 rfl (by (first | exact q_58e6e51dcc hl_a | omega)) (by (first | exact q_92da5bf787 hu_a | omega))
  have := pI_pos a.toInt
  have : pI a.toInt ≤ 16 := pI_mono (Y := 4) (by (first | exact q_c82ed93a8c hu_a | omega))
  refine En_put (j := 0) rfl rfl rfl tgz_4 (by decide +kernel) rfl (vI (l := 0) (u := 16) (by decide +kernel) rfl (by omega) (by (first | exact q_1ef955e832 h3 this | omega))) hσ0 hF0 (by decide +kernel) (fun σ4 h5 h6 h7 h8 => ?_)
  refine En_Ps 2 (pc' := 9) (lv' := [(0, .ref 4), (1, .int a)]) (st' := [.int ((Int32.ofInt 0)), .ref 4]) rfl ?_
  refine En_put (j := 1) rfl rfl rfl tgz_4 (by decide +kernel) rfl (vI (l := 0) (u := 81) (by decide +kernel) (by decide : (Int32.ofInt 0).toInt = 0) (by decide) (by decide)) h5 h6 (by decide +kernel) (fun σ9 h10 h11 h12 h13 => ?_)
  refine En_Ps 2 (pc' := 14) (lv' := [(2, .int ((Int32.ofInt 0))), (0, .ref 4), (1, .int a)]) (st' := []) rfl ?_
  have key14 : ∀ (n14 : Nat) (σ16 : SG) (y14 : Int32) (y15 : Int32), WT σ16 → Fr [(4, 0), (4, 1), (5, 0), (6, 0), (7, 0)] σ0 σ16 → (σ16 4)[0]? = some (Value.int z1) → (σ16 4)[1]? = some (Value.int y15) → 0 ≤ y14.toInt → y14.toInt ≤ 5 → 0 ≤ y15.toInt → y15.toInt ≤ 81 → y14.toInt - a.toInt - 1 ≤ 0 → -y14.toInt + 5 < (n14 : Int) → RN z1.toInt y14.toInt 0 y15.toInt → TB σ16 5 6 7 z1.toInt y15.toInt → En 2 46 none mr_82 (P_82x σ0 a) 14 [(0, .ref 4), (1, .int a), (2, .int y14)] [] σ16 := by
    intro n14
    induction n14 with
    | zero =>
      intro σ16 y14 y15 h17 h18 h19 h20 h21 h22 h23 h24 h25 h26 h27 h28
      first | exact (q_94ef5d5129 h26 h22).elim | (exfalso; omega)
    | succ n14 ih14 =>
      intro σ16 y14 y15 h17 h18 h19 h20 h21 h22 h23 h24 h25 h26 h27 h28
      refine En_Ps 2 (pc' := 16) (lv' := [(0, .ref 4), (1, .int a), (2, .int y14)]) (st' := [.int a, .int y14]) rfl ?_
      refine En_icGt _ rfl rfl rfl (fun h29 => ?_) (fun h29 => ?_)
      · exact En_ret (v := none) rfl rfl rfl ⟨h17, h18, rfl, (by have ek : z1.toInt = pI a.toInt := (by (first | exact q_b1495600e7 h3 | omega)); have er := RN_end (s := a.toInt) (by (first | exact q_58e6e51dcc hl_a | omega)) (by (first | exact q_c82ed93a8c hu_a | omega)) ek h27 (by (first | exact q_3431e9be85 h29 h25 | omega)) rfl; exact ⟨(ci_at (j := 0) h19 rfl).trans ek, (ci_at (j := 1) h20 rfl).trans er, by rw [← ek, ← er]; exact h28⟩)⟩
      · refine En_Ps 2 (pc' := 21) (lv' := [(3, .int ((Int32.ofInt 0))), (0, .ref 4), (1, .int a), (2, .int y14)]) (st' := []) rfl ?_
        have key21 : ∀ (n21 : Nat) (σ32 : SG) (y30 : Int32) (y31 : Int32), WT σ32 → Fr [(4, 0), (4, 1), (5, 0), (6, 0), (7, 0)] σ0 σ32 → (σ32 4)[0]? = some (Value.int z1) → (σ32 4)[1]? = some (Value.int y31) → 0 ≤ y30.toInt → y30.toInt ≤ 16 → 0 ≤ y31.toInt → y31.toInt ≤ 81 → y30.toInt - z1.toInt ≤ 0 → z1.toInt - y30.toInt < (n21 : Int) → RN z1.toInt y14.toInt y30.toInt y31.toInt → TB σ32 5 6 7 z1.toInt y31.toInt → En 2 46 none mr_82 (P_82x σ0 a) 21 [(0, .ref 4), (1, .int a), (2, .int y14), (3, .int y30)] [] σ32 := by
          intro n21
          induction n21 with
          | zero =>
            intro σ32 y30 y31 h33 h34 h35 h36 h37 h38 h39 h40 h41 h42 h43 h44
            first | exact (q_14257feae7 h41 h42).elim | (exfalso; omega)
          | succ n21 ih21 =>
            intro σ32 y30 y31 h33 h34 h35 h36 h37 h38 h39 h40 h41 h42 h43 h44
            refine En_Ps 2 (pc' := 23) (lv' := [(0, .ref 4), (1, .int a), (2, .int y14), (3, .int y30)]) (st' := [.ref 4, .int y30]) rfl ?_
            refine En_getK (j := 0) h35 rfl rfl rfl tgz_4 (by decide +kernel) ?_
            refine En_icGe _ rfl rfl rfl (fun h45 => ?_) (fun h45 => ?_)
            · refine En_Ps 1 (pc' := 51) (lv' := [(2, .int ((y14 + Int32.ofInt 1))), (0, .ref 4), (1, .int a), (3, .int y30)]) (st' := []) rfl ?_
              refine En_lv1 (addI rfl (by decide : (Int32.ofInt 1).toInt = 1) (by first | exact q_465ab79ac1 h21 | omega) (by first | exact q_aeda34609f h22 | omega)) (fun z46 h47 => ?_)
              refine En_Ps 1 (pc' := 14) (lv' := [(2, .int z46), (0, .ref 4), (1, .int a), (3, .int y30)]) (st' := []) rfl ?_
              refine En_lv (lv := [(0, .ref 4), (1, .int a), (2, .int z46)]) ⟨rfl, rfl, rfl, trivial⟩ ?_
              exact ih14 σ32 z46 y31 h33 h34 h35 h36 (by first | exact q_35104ce9d3 h47 h21 | omega) (by first | exact q_45f670d5d5 h47 h29 hu_a | omega) (by first | exact q_58e6e51dcc h39 | omega) (by first | exact q_938d18a0b8 h40 | omega) (by first | exact q_521b808ea1 h29 h47 | omega) (by first | exact q_4f8c136792 h47 h26 | omega) (RN_n h43 (by (first | exact q_7b14c78c18 h45 | omega)) (by (first | exact q_d97751b118 h29 hu_a | omega)) (by (first | exact q_ba1b2c713b h47 | omega)) rfl (by (first | exact q_61ddd2b576 | omega))) (TB_eq h44 (by (first | exact q_61ddd2b576 | omega)))
            · refine En_Ps 1 (pc' := 30) (lv' := [(0, .ref 4), (1, .int a), (2, .int y14), (3, .int y30)]) (st' := [.int y30]) rfl ?_
              refine En_callS rfl rfl rfl rfl rfl rfl rfl rfl rfl (c_7ax σ32 h33 y30 (geI rfl (by first | exact q_58e6e51dcc h37 | omega)) (leI rfl (by (first | exact q_e17d4ea60b h45 h3 this | omega)))) (by decide) (by decide) (fun v49 σ50 h48 => ?_)
              obtain ⟨h51, h52, z54, rfl, h53⟩ := h48
              have h55 := h53.2.2
              obtain rfl : σ32 = σ50 := Fr_nil h52
              refine En_Ps 1 (pc' := 34) (lv' := [(0, .ref 4), (1, .int a), (2, .int y14), (3, .int y30)]) (st' := [.int y14, .int z54]) rfl ?_
              refine En_icNe _ rfl rfl rfl (fun h56 => ?_) (fun h56 => ?_)
              · refine En_Ps 1 (pc' := 45) (lv' := [(3, .int ((y30 + Int32.ofInt 1))), (0, .ref 4), (1, .int a), (2, .int y14)]) (st' := []) rfl ?_
                refine En_lv1 (addI rfl (by decide : (Int32.ofInt 1).toInt = 1) (by first | exact q_465ab79ac1 h37 | omega) (by first | exact q_f3f8e04381 h38 | omega)) (fun z57 h58 => ?_)
                refine En_Ps 1 (pc' := 21) (lv' := [(3, .int z57), (0, .ref 4), (1, .int a), (2, .int y14)]) (st' := []) rfl ?_
                refine En_lv (lv := [(0, .ref 4), (1, .int a), (2, .int y14), (3, .int z57)]) ⟨rfl, rfl, rfl, rfl, trivial⟩ ?_
                exact ih21 σ32 z57 y31 h33 h34 h35 h36 (by first | exact q_35104ce9d3 h58 h37 | omega) (by (first | exact q_de592af7ee h58 h45 h3 this | omega)) (by first | exact q_58e6e51dcc h39 | omega) (by first | exact q_938d18a0b8 h40 | omega) (by first | exact q_ae2dbf4292 h45 h58 | omega) (by first | exact q_8d03a5a7cb h58 h42 | omega) (RN_skip h43 (by (first | exact q_114b7bcb5b h45 | omega)) (by (first | exact q_9ab7013364 h56 h55 | omega)) (by (first | exact q_61ddd2b576 | omega)) (by (first | exact q_ba1b2c713b h58 | omega)) (by (first | exact q_61ddd2b576 | omega))) (TB_eq h44 (by (first | exact q_61ddd2b576 | omega)))
              · refine En_Ps 2 (pc' := 39) (lv' := [(0, .ref 4), (1, .int a), (2, .int y14), (3, .int y30)]) (st' := [.int y30, .ref 4]) rfl ?_
                refine En_callV rfl rfl rfl rfl rfl rfl rfl rfl tgz_4 (by decide +kernel) rfl (c_76x σ32 h33 y30 (geI rfl (by first | exact q_58e6e51dcc h37 | omega)) (leI rfl (by (first | exact q_e17d4ea60b h45 h3 this | omega))) z1 h35 y31 h36 h43 (by (first | exact q_114b7bcb5b h45 | omega)) (by (first | exact q_aeeede310e h56 h55 | omega)) h44 (by rw [show z1.toInt = pI a.toInt by (first | exact q_b1495600e7 h3 | omega)]; exact P2_pI (by (first | exact q_58e6e51dcc hl_a | omega)) (by (first | exact q_c82ed93a8c hu_a | omega)))) (by decide) (by decide) (fun v60 σ61 h59 => ?_)
                obtain ⟨h62, h63, z65, h66, rfl, h64⟩ := h59
                have h67 := h64.2.2.2
                have h68 := Fr_trans h34 h63 (by decide +kernel)
                refine En_Ps 1 (pc' := 45) (lv' := [(3, .int ((y30 + Int32.ofInt 1))), (0, .ref 4), (1, .int a), (2, .int y14)]) (st' := []) rfl ?_
                refine En_lv1 (addI rfl (by decide : (Int32.ofInt 1).toInt = 1) (by first | exact q_465ab79ac1 h37 | omega) (by first | exact q_f3f8e04381 h38 | omega)) (fun z69 h70 => ?_)
                refine En_Ps 1 (pc' := 21) (lv' := [(3, .int z69), (0, .ref 4), (1, .int a), (2, .int y14)]) (st' := []) rfl ?_
                refine En_lv (lv := [(0, .ref 4), (1, .int a), (2, .int y14), (3, .int z69)]) ⟨rfl, rfl, rfl, rfl, trivial⟩ ?_
                exact ih21 σ61 z69 z65 h62 h68 ((h63 _ _ (inW tgz_4 (by decide +kernel))).trans h35) h66 (by first | exact q_35104ce9d3 h70 h37 | omega) (by (first | exact q_de592af7ee h70 h45 h3 this | omega)) (by first | exact q_ef1e8e38bf h64.1 | omega) (by first | exact q_e0af57759e h64.2.1 | omega) (by first | exact q_ae2dbf4292 h45 h70 | omega) (by first | exact q_8d03a5a7cb h70 h42 | omega) (RN_eq h67.1 (by (first | exact q_61ddd2b576 | omega)) (by (first | exact q_ba1b2c713b h70 | omega)) (by (first | exact q_61ddd2b576 | omega))) (TB_eq h67.2 (by (first | exact q_61ddd2b576 | omega)))
        have := (by decide : (Int32.ofInt 0).toInt = 0)
        refine En_lv (lv := [(0, .ref 4), (1, .int a), (2, .int y14), (3, .int ((Int32.ofInt 0)))]) ⟨rfl, rfl, rfl, rfl, trivial⟩ ?_
        exact key21 (Int.toNat (z1.toInt) + 1) σ16 ((Int32.ofInt 0)) y15 h17 h18 h19 h20 (by decide) (by decide) (by first | exact q_58e6e51dcc h23 | omega) (by first | exact q_938d18a0b8 h24 | omega) (by omega) (by first | exact toN_lt _ | omega) (RN_eq h27 (by (first | exact q_61ddd2b576 | omega)) (by (first | exact q_d2dcd30e56 this | omega)) (by (first | exact q_61ddd2b576 | omega))) (TB_eq h28 (by (first | exact q_61ddd2b576 | omega)))
  have := (by decide : (Int32.ofInt 0).toInt = 0)
  have := (by decide : (Int32.ofInt 0).toInt = 0)
  refine En_lv (lv := [(0, .ref 4), (1, .int a), (2, .int ((Int32.ofInt 0)))]) ⟨rfl, rfl, rfl, trivial⟩ ?_
  exact key14 (Int.toNat (5) + 1) σ9 ((Int32.ofInt 0)) ((Int32.ofInt 0)) h10 h11 ((h13 _ _ (Or.inr (by decide))).trans h7) h12 (by decide) (by decide) (by decide) (by decide) (by (first | exact q_3d03bff604 (by decide) hl_a | omega)) (by first | exact toN_lt _ | omega) (RN_0 (by have := pI_rng (s := a.toInt) (by (first | exact q_58e6e51dcc hl_a | omega)) (by (first | exact q_c82ed93a8c hu_a | omega)); constructor <;> (first | exact q_ca2c16d1b2 h3 this.1 | exact q_1ef955e832 h3 this.2 | omega)) (by (first | exact q_d2dcd30e56 (by decide) | omega)) rfl (by (first | exact q_d2dcd30e56 (by decide) | omega))) (TB_0 (by (first | exact q_d2dcd30e56 (by decide) | omega)))
/-- DoorSchool$Tape.append(I)V -/
abbrev P_90x (σ0 : SG) (a : Int32) (m : Int32) : PO := fun v σ => WT σ ∧ Fr [(1, 1), (2, 0)] σ0 σ ∧ ∃ m1 : Int32, (σ 1)[1]? = some (Value.int m1) ∧ v = none ∧ -m1.toInt + 4 ≤ 0 ∧ m1.toInt - 1600 ≤ 0 ∧ -m1.toInt + m.toInt ≤ 0 ∧ m1.toInt - m.toInt - 4 ≤ 0 ∧ Imp (m.toInt - 1596 ≤ 0) (m1.toInt - m.toInt - 4 ≤ 0 ∧ -m1.toInt + m.toInt + 4 ≤ 0) ∧ APB σ0 σ 2 m.toInt (m1.toInt - m.toInt) a
set_option maxRecDepth 10000 in
set_option maxHeartbeats 4000000 in
theorem c_90x (σ0 : SG) (hσ0 : WT σ0) (a : Int32) (m : Int32) (h_m : (σ0 1)[1]? = some (Value.int m)) : En 0 0 none mr_90 (P_90x σ0 a m) 0 [(0, .ref 1), (1, .int a)] [] σ0 := by
  obtain ⟨hl_m, hu_m⟩ := WT_int hσ0 (g := 1) (by decide +kernel) (by decide +kernel) (l := 0) (u := 1600) (by decide +kernel) h_m
  have hF0 : Fr [(1, 1), (2, 0)] σ0 σ0 := Fr_rfl
  refine En_Ps 2 (pc' := 3) (lv' := [(2, .int (((Int8.ofInt 24).toInt32))), (0, .ref 1), (1, .int a)]) (st' := []) rfl ?_
  have key3 : ∀ (n3 : Nat) (σ3 : SG) (y1 : Int32) (y2 : Int32), WT σ3 → Fr [(1, 1), (2, 0)] σ0 σ3 → (σ3 1)[1]? = some (Value.int y2) → (-8) ≤ y1.toInt → y1.toInt ≤ 24 → 0 ≤ y2.toInt → y2.toInt ≤ 1600 → y1.toInt + 8 * y2.toInt - 8 * m.toInt - 24 ≤ 0 → 8 * m.toInt - y1.toInt - 8 * y2.toInt + 24 ≤ 0 → y1.toInt + 8 < (n3 : Int) → APB σ0 σ3 2 m.toInt (y2.toInt - m.toInt) a → En 0 0 none mr_90 (P_90x σ0 a m) 3 [(0, .ref 1), (1, .int a), (2, .int y1)] [] σ3 := by
    intro n3
    induction n3 with
    | zero =>
      intro σ3 y1 y2 h4 h5 h6 h7 h8 h9 h10 h11 h12 h13 h14
      first | exact (q_aaa8ec4ef7 h7 h13).elim | (exfalso; omega)
    | succ n3 ih3 =>
      intro σ3 y1 y2 h4 h5 h6 h7 h8 h9 h10 h11 h12 h13 h14
      refine En_Ps 1 (pc' := 4) (lv' := [(0, .ref 1), (1, .int a), (2, .int y1)]) (st' := [.int y1]) rfl ?_
      refine En_iLt _ rfl rfl (fun h15 => ?_) (fun h15 => ?_)
      · exact En_ret (v := none) rfl rfl rfl ⟨h4, h5, y2, h6, rfl, ⟨by first | exact q_8eb5dc48db h12 hl_m h15 | omega, by first | exact q_5a08281576 h10 | omega, by first | exact q_e38c9d072d h12 h15 | omega, by first | exact q_fff200e16d h11 h7 | omega, fun hh => by first | exact ⟨q_fff200e16d h11 h7, q_782153f87a h12 h15⟩ | omega, APB_c h14 (by (first | exact q_2301251086 | omega))⟩⟩
      · refine En_Ps 1 (pc' := 8) (lv' := [(0, .ref 1), (1, .int a), (2, .int y1)]) (st' := [.ref 1]) rfl ?_
        refine En_getK (j := 1) h6 rfl rfl rfl tgz_1 (by decide +kernel) ?_
        refine En_Ps 1 (pc' := 12) (lv' := [(0, .ref 1), (1, .int a), (2, .int y1)]) (st' := [.ref 1, .int y2]) rfl ?_
        refine En_getU (j := 0) (u := 2) (g' := 2) (q := 0) rfl rfl rfl tgz_1 (by decide +kernel) h4 (by decide +kernel) un_2_2 (fun h16 => ?_)
        refine En_alenN (n := 1600) rfl tgz_2 (by decide +kernel) (by decide +kernel) h4 ?_
        refine En_icGe _ rfl (by decide : (Int32.ofNat 1600).toInt = 1600) rfl (fun h18 => ?_) (fun h18 => ?_)
        · exact En_ret (v := none) rfl rfl rfl ⟨h4, h5, y2, h6, rfl, ⟨by first | exact q_11a59a8b8a h18 | omega, by first | exact q_5a08281576 h10 | omega, by first | exact q_b4fb6b5916 hu_m h18 | omega, by first | exact q_e822212b76 h11 h15 | omega, fun hh => by first | exact ⟨q_e822212b76 h11 h15, q_0ac42f1f87 hh h18⟩ | omega, APB_c h14 (by (first | exact q_2301251086 | omega))⟩⟩
        · refine En_Ps 1 (pc' := 20) (lv' := [(0, .ref 1), (1, .int a), (2, .int y1)]) (st' := [.ref 1]) rfl ?_
          refine En_getK (j := 0) h16 rfl rfl rfl tgz_1 (by decide +kernel) ?_
          refine En_Ps 1 (pc' := 24) (lv' := [(0, .ref 1), (1, .int a), (2, .int y1)]) (st' := [.ref 1, .ref 2]) rfl ?_
          refine En_getK (j := 1) h6 rfl rfl rfl tgz_1 (by decide +kernel) ?_
          refine En_Ps 4 (pc' := 31) (lv' := [(0, .ref 1), (1, .int a), (2, .int y1)]) (st' := [.int ((((a.toUInt32 >>> (y1.toUInt32 &&& Int32.toUInt32 31)).toInt32).toInt8.toInt32)), .int y2, .ref 2]) rfl ?_
          refine En_nam (fun z19 h20 => ?_)
          have h21 := b4_u (j := y2.toInt - m.toInt) h20 (by (first | exact q_805540dc3e h12 h11 | omega)) (by (first | exact q_9d81620b4b h12 h8 | omega)) (by (first | exact q_c49a9ec1a4 h11 h15 | omega))
          have h22 := b4_rng a (y2.toInt - m.toInt)
          refine En_bast (l := (-128)) (u := 127) rfl rfl tgz_2 (by decide +kernel) (narB rfl (by (first | exact q_a6dfc9308f h21 h22.1 | omega)) (by (first | exact q_f699f50254 h21 h22.2 | omega))) (by first | exact q_58e6e51dcc h9 | omega) (lnI (by decide +kernel : LN _ = 1600) (by first | exact q_91d929c3b7 h18 | omega)) (FTsgl (by decide +kernel)) (rngI rfl (by (first | exact q_a6dfc9308f h21 h22.1 | omega)) (by (first | exact q_f699f50254 h21 h22.2 | omega))) h4 h5 (by decide +kernel) (fun σ23 h24 h25 h26 h27 => ?_)
          have h28 := APB_s (J := y2.toInt) (y := y2.toInt - m.toInt) (y' := y2.toInt - m.toInt + 1) h14 h26 h27 (by (first | exact q_b9dc873e80 | omega)) (by (first | exact q_58e6e51dcc hl_m | omega)) (by (first | exact q_9d81620b4b h12 h8 | omega)) h21 rfl
          refine En_Ps 2 (pc' := 34) (lv' := [(0, .ref 1), (1, .int a), (2, .int y1)]) (st' := [.ref 1, .ref 1]) rfl ?_
          refine En_getK (j := 1) ((h27 _ _ (Or.inl (neTG tgz_1 tgz_2 (by decide)))).trans h6) rfl rfl rfl tgz_1 (by decide +kernel) ?_
          refine En_Ps 2 (pc' := 39) (lv' := [(0, .ref 1), (1, .int a), (2, .int y1)]) (st' := [.int ((y2 + ((Int32.ofInt 1)))), .ref 1]) rfl ?_
          refine En_top (addI rfl (by decide : (Int32.ofInt 1).toInt = 1) (by first | exact q_465ab79ac1 h9 | omega) (by first | exact q_65d0e719f1 h18 | omega)) (fun z29 h30 => ?_)
          refine En_put (j := 1) rfl rfl rfl tgz_1 (by decide +kernel) rfl (vI (l := 0) (u := 1600) (by decide +kernel) rfl (by first | exact q_35104ce9d3 h30 h9 | omega) (by first | exact q_bd0a0ef61b h30 h18 | omega)) h24 h25 (by decide +kernel) (fun σ31 h32 h33 h34 h35 => ?_)
          have h36 := APB_ne h28 h35 (by decide)
          refine En_Ps 1 (pc' := 45) (lv' := [(2, .int ((y1 + Int32.ofInt (-8)))), (0, .ref 1), (1, .int a)]) (st' := []) rfl ?_
          refine En_lv1 (addI rfl (by decide : (Int32.ofInt (-8)).toInt = -8) (by first | exact q_ec6288e748 h15 | omega) (by first | exact q_42504f709a h8 | omega)) (fun z37 h38 => ?_)
          refine En_Ps 1 (pc' := 3) (lv' := [(2, .int z37), (0, .ref 1), (1, .int a)]) (st' := []) rfl ?_
          refine En_lv (lv := [(0, .ref 1), (1, .int a), (2, .int z37)]) ⟨rfl, rfl, rfl, trivial⟩ ?_
          exact ih3 σ31 z37 z29 h32 h33 h34 (by first | exact q_f421fefebe h38 h15 | omega) (by first | exact q_23be4890e8 h38 h8 | omega) (by first | exact q_35104ce9d3 h30 h9 | omega) (by first | exact q_bd0a0ef61b h30 h18 | omega) (by first | exact q_afee5e327f h11 h30 h38 | omega) (by first | exact q_5330391d26 h12 h30 h38 | omega) (by first | exact q_c7d998f5aa h38 h13 | omega) (APB_c h36 (by (first | exact q_d565b18410 h30 | omega)))
  have := (by decide : ((Int8.ofInt 24).toInt32).toInt = 24)
  refine En_lv (lv := [(0, .ref 1), (1, .int a), (2, .int (((Int8.ofInt 24).toInt32)))]) ⟨rfl, rfl, rfl, trivial⟩ ?_
  exact key3 (Int.toNat (32) + 1) σ0 (((Int8.ofInt 24).toInt32)) m hσ0 hF0 h_m (by decide) (by decide) (by first | exact q_58e6e51dcc hl_m | omega) (by first | exact q_246f9048f8 hu_m | omega) (by (first | exact q_3d5cf09218 this | omega)) (by (first | exact q_d7b10a56d5 this | omega)) (by first | exact toN_lt _ | omega) (APB_0 (by (first | exact q_15757f85f8 | omega)))
/-- DoorSchool$Timetable.readyAt(LDoorSchool$Plan;I)I -/
abbrev P_97x (σ0 : SG) (Wv : Int → Int) (a : Nat) (b : Int32) : PO := fun v σ => WT σ ∧ Fr [] σ0 σ ∧ ∃ ret : Int32, v = some (Value.int ret) ∧ -ret.toInt ≤ 0 ∧ ret.toInt - 63 ≤ 0 ∧ Aft (tkW Wv) (ahW Wv) (bgC σ0) b.toInt.toNat ret.toInt.toNat
set_option maxRecDepth 10000 in
set_option maxHeartbeats 4000000 in
theorem c_97x {Wv : Int → Int} (σ0 : SG) (hσ0 : WT σ0) (a : Nat) (ha : TG a = 18) (b : Int32) (hl_b : 0 ≤ b.toInt) (hu_b : b.toInt ≤ 5) (hP : PLA a) (hX : FXP σ0 a) (hK : KN σ0 a Wv (act Wv)) (hN6 : Wv 5 ≤ 6) (hcN : b.toInt < Wv 5) : En 1 21 none mr_97 (P_97x σ0 Wv a b) 0 [(0, .ref 14), (1, .ref a), (2, .int b)] [] σ0 := by
  have hF0 : Fr [] σ0 σ0 := Fr_rfl
  refine En_Ps 4 (pc' := 5) (lv' := [(4, .int ((Int32.ofInt 0))), (3, .int ((Int32.ofInt 0))), (0, .ref 14), (1, .ref a), (2, .int b)]) (st' := []) rfl ?_
  have key5 : ∀ (n5 : Nat) (y1 : Int32) (y2 : Int32), 0 ≤ y1.toInt → y1.toInt ≤ 63 → 0 ≤ y2.toInt → y2.toInt ≤ 5 → y2.toInt - b.toInt ≤ 0 → b.toInt - y2.toInt < (n5 : Int) → AFW Wv σ0 b.toInt y2.toInt y1.toInt → En 1 21 none mr_97 (P_97x σ0 Wv a b) 5 [(0, .ref 14), (1, .ref a), (2, .int b), (3, .int y1), (4, .int y2)] [] σ0 := by
    intro n5
    induction n5 with
    | zero =>
      intro y1 y2 h6 h7 h8 h9 h10 h11 h12
      first | exact (q_14257feae7 h10 h11).elim | (exfalso; omega)
    | succ n5 ih5 =>
      intro y1 y2 h6 h7 h8 h9 h10 h11 h12
      refine En_Ps 2 (pc' := 8) (lv' := [(0, .ref 14), (1, .ref a), (2, .int b), (3, .int y1), (4, .int y2)]) (st' := [.int b, .int y2]) rfl ?_
      refine En_icGe _ rfl rfl rfl (fun h13 => ?_) (fun h13 => ?_)
      · refine En_Ps 1 (pc' := 53) (lv' := [(0, .ref 14), (1, .ref a), (2, .int b), (3, .int y1), (4, .int y2)]) (st' := [.int y1]) rfl ?_
        exact En_ret (v := some (Value.int y1)) rfl rfl rfl ⟨hσ0, hF0, y1, rfl, ⟨by first | exact q_c803b490ef h6 | omega, by first | exact q_ac3306975b h7 | omega, AFW_x h12 (by omega)⟩⟩
      · refine En_Ps 1 (pc' := 12) (lv' := [(0, .ref 14), (1, .ref a), (2, .int b), (3, .int y1), (4, .int y2)]) (st' := [.ref a]) rfl ?_
        refine En_getR (j := 13) (g' := 26) (u := 0) rfl rfl rfl ha (by decide +kernel) hσ0 (by decide +kernel) (fun a15 h14 ha15 => ?_)
        have t16 : a15 = a + 8 := ref_uniq h14 (FXP_fr hP hX hF0 (by decide +kernel)).2.2.2.2.2.1
        refine En_Ps 1 (pc' := 16) (lv' := [(0, .ref 14), (1, .ref a), (2, .int b), (3, .int y1), (4, .int y2)]) (st' := [.int b, .ref a15]) rfl ?_
        refine En_iald (l := 0) (u := 63) rfl rfl ha15 (by decide +kernel) hσ0 (by first | exact q_58e6e51dcc hl_b | omega) (lnI (by decide +kernel : LN _ = 6) (by first | exact q_f6226e27c9 hu_b | omega)) (FTsgl (by decide +kernel)) (fun z18 h17 h19 h20 => ?_)
        have h21 : ci σ0 a15 (b.toInt) = z18.toInt := ci_at h17 rfl
        have t22 := lc_c (m := b.toInt) (by omega) (by omega)
        have t23 : Wv (155 + 2 * (b.toInt)) = z18.toInt := KN_v hK (Or.inr (Or.inr (Or.inr (Or.inr (Or.inr (Or.inl ⟨by omega, by omega, by omega⟩)))))) (by omega) (by omega) (by omega) (by omega) h17
        refine En_Ps 1 (pc' := 19) (lv' := [(0, .ref 14), (1, .ref a), (2, .int b), (3, .int y1), (4, .int y2)]) (st' := [.int y2, .int z18]) rfl ?_
        refine En_callS rfl rfl rfl rfl rfl rfl rfl rfl rfl (c_108ax σ0 hσ0 z18 y2 (geI rfl (by first | exact q_58e6e51dcc h19 | omega)) (leI rfl (by first | exact q_442e014c00 h20 | omega)) (geI rfl (by first | exact q_58e6e51dcc h8 | omega)) (leI rfl (by first | exact q_182bdf90dd h9 | omega))) (by decide) (by decide) (fun v25 σ26 h24 => ?_)
        obtain ⟨h27, h28, z30, rfl, h29⟩ := h24
        have h31 := h29.2.2
        obtain rfl : σ0 = σ26 := Fr_nil h28
        refine En_Ps 1 (pc' := 23) (lv' := [(0, .ref 14), (1, .ref a), (2, .int b), (3, .int y1), (4, .int y2)]) (st' := [.int ((Int32.ofInt 1)), .int z30]) rfl ?_
        refine En_icNe _ rfl (by decide : (Int32.ofInt 1).toInt = 1) rfl (fun h32 => ?_) (fun h32 => ?_)
        · refine En_Ps 1 (pc' := 49) (lv' := [(4, .int ((y2 + Int32.ofInt 1))), (0, .ref 14), (1, .ref a), (2, .int b), (3, .int y1)]) (st' := []) rfl ?_
          refine En_lv1 (addI rfl (by decide : (Int32.ofInt 1).toInt = 1) (by first | exact q_465ab79ac1 h8 | omega) (by first | exact q_aeda34609f h9 | omega)) (fun z33 h34 => ?_)
          refine En_Ps 1 (pc' := 5) (lv' := [(4, .int z33), (0, .ref 14), (1, .ref a), (2, .int b), (3, .int y1)]) (st' := []) rfl ?_
          refine En_lv (lv := [(0, .ref 14), (1, .ref a), (2, .int b), (3, .int y1), (4, .int z33)]) ⟨rfl, rfl, rfl, rfl, rfl, trivial⟩ ?_
          exact ih5 y1 z33 (by first | exact q_58e6e51dcc h6 | omega) (by first | exact q_8bf848900a h7 | omega) (by first | exact q_35104ce9d3 h34 h8 | omega) (by first | exact q_b880857b86 h34 h13 hu_b | omega) (by first | exact q_ae2dbf4292 h13 h34 | omega) (by first | exact q_8d03a5a7cb h34 h11 | omega) (AFW_n h12 hl_b (by omega) t23 (by omega) h31 (by omega) (by omega))
        · refine En_Ps 2 (pc' := 28) (lv' := [(0, .ref 14), (1, .ref a), (2, .int b), (3, .int y1), (4, .int y2)]) (st' := [.ref 14, .int y1]) rfl ?_
          refine En_getU (j := 1) (u := 16) (g' := 16) (q := 0) rfl rfl rfl tgz_14 (by decide +kernel) hσ0 (by decide +kernel) un_16_16 (fun h35 => ?_)
          refine En_Ps 1 (pc' := 33) (lv' := [(0, .ref 14), (1, .ref a), (2, .int b), (3, .int y1), (4, .int y2)]) (st' := [.int y2, .ref 16, .int y1]) rfl ?_
          refine En_iald (l := 0) (u := 54) rfl rfl tgz_16 (by decide +kernel) hσ0 (by first | exact q_58e6e51dcc h8 | omega) (lnI (by decide +kernel : LN _ = 6) (by first | exact q_f6226e27c9 h9 | omega)) (FTsgl (by decide +kernel)) (fun z38 h37 h39 h40 => ?_)
          have h41 : ci σ0 16 (y2.toInt) = z38.toInt := ci_at h37 rfl
          refine En_Ps 1 (pc' := 35) (lv' := [(0, .ref 14), (1, .ref a), (2, .int b), (3, .int y1), (4, .int y2)]) (st' := [.ref a, .int z38, .int y1]) rfl ?_
          refine En_getR (j := 12) (g' := 25) (u := 0) rfl rfl rfl ha (by decide +kernel) hσ0 (by decide +kernel) (fun a43 h42 ha43 => ?_)
          have t44 : a43 = a + 7 := ref_uniq h42 (FXP_fr hP hX hF0 (by decide +kernel)).2.2.2.2.1
          refine En_Ps 1 (pc' := 40) (lv' := [(0, .ref 14), (1, .ref a), (2, .int b), (3, .int y1), (4, .int y2)]) (st' := [.int y2, .ref a43, .int z38, .int y1]) rfl ?_
          refine En_iald (l := 0) (u := 9) rfl rfl ha43 (by decide +kernel) hσ0 (by first | exact q_58e6e51dcc h8 | omega) (lnI (by decide +kernel : LN _ = 6) (by first | exact q_f6226e27c9 h9 | omega)) (FTsgl (by decide +kernel)) (fun z46 h45 h47 h48 => ?_)
          have h49 : ci σ0 a43 (y2.toInt) = z46.toInt := ci_at h45 rfl
          have t50 := lc_c (m := y2.toInt) (by omega) (by omega)
          have t51 : Wv (154 + 2 * (y2.toInt)) = z46.toInt := KN_v hK (Or.inr (Or.inr (Or.inr (Or.inr (Or.inr (Or.inl ⟨by omega, by omega, by omega⟩)))))) (by omega) (by omega) (by omega) (by omega) h45
          refine En_Ps 1 (pc' := 42) (lv' := [(0, .ref 14), (1, .ref a), (2, .int b), (3, .int y1), (4, .int y2)]) (st' := [.int ((z38 + z46)), .int y1]) rfl ?_
          refine En_top (addI rfl rfl (by first | exact q_3bb374bebc h39 h47 | omega) (by first | exact q_3df52fe59d h40 h48 | omega)) (fun z52 h53 => ?_)
          refine En_callS rfl rfl rfl rfl rfl rfl rfl rfl rfl (c_10 σ0 hσ0 y1 z52) (by decide) (by decide) (fun v55 σ56 h54 => ?_)
          obtain ⟨h57, h58, z60, rfl, h59⟩ := h54
          obtain rfl : σ0 = σ56 := Fr_nil h58
          refine En_Ps 2 (pc' := 49) (lv' := [(4, .int ((y2 + Int32.ofInt 1))), (3, .int z60), (0, .ref 14), (1, .ref a), (2, .int b)]) (st' := []) rfl ?_
          refine En_lv1 (addI rfl (by decide : (Int32.ofInt 1).toInt = 1) (by first | exact q_465ab79ac1 h8 | omega) (by first | exact q_aeda34609f h9 | omega)) (fun z61 h62 => ?_)
          refine En_Ps 1 (pc' := 5) (lv' := [(4, .int z61), (3, .int z60), (0, .ref 14), (1, .ref a), (2, .int b)]) (st' := []) rfl ?_
          refine En_lv (lv := [(0, .ref 14), (1, .ref a), (2, .int b), (3, .int z60), (4, .int z61)]) ⟨rfl, rfl, rfl, rfl, rfl, trivial⟩ ?_
          exact ih5 z60 z61 (by first | exact q_f062bc8aa8 h59.1 h6 | omega) (by omega) (by first | exact q_35104ce9d3 h62 h8 | omega) (by first | exact q_b880857b86 h62 h13 hu_b | omega) (by first | exact q_ae2dbf4292 h13 h62 | omega) (by first | exact q_8d03a5a7cb h62 h11 | omega) (AFW_y h12 hl_b (by omega) (by omega) t23 (by omega) h31 (by omega) h41 (by omega) t51 (by omega) (by omega) (by omega) (by omega) (by omega))
  have := (by decide : (Int32.ofInt 0).toInt = 0)
  have := (by decide : (Int32.ofInt 0).toInt = 0)
  refine En_lv (lv := [(0, .ref 14), (1, .ref a), (2, .int b), (3, .int ((Int32.ofInt 0))), (4, .int ((Int32.ofInt 0)))]) ⟨rfl, rfl, rfl, rfl, rfl, trivial⟩ ?_
  exact key5 (Int.toNat (b.toInt) + 1) ((Int32.ofInt 0)) ((Int32.ofInt 0)) (by decide) (by decide) (by decide) (by decide) (by omega) (by first | exact toN_lt _ | omega) (AFW_0 (by decide) (by decide))
/-- DoorSchool$Timetable.earliest(LDoorSchool$Plan;I)I -/
abbrev P_92x (σ0 : SG) (Wv : Int → Int) (a : Nat) (b : Int32) (te : Int32) : PO := fun v σ => WT σ ∧ Fr [] σ0 σ ∧ ∃ ret : Int32, v = some (Value.int ret) ∧ -ret.toInt ≤ 0 ∧ ret.toInt - 54 ≤ 0 ∧ EAR Wv σ0 b.toInt ret.toInt
set_option maxRecDepth 10000 in
set_option maxHeartbeats 4000000 in
theorem c_92x {Wv : Int → Int} (σ0 : SG) (hσ0 : WT σ0) (a : Nat) (ha : TG a = 18) (b : Int32) (hl_b : 0 ≤ b.toInt) (hu_b : b.toInt ≤ 5) (te : Int32) (h_te : (σ0 14)[3]? = some (Value.int te)) (hP : PLA a) (hX : FXP σ0 a) (hK : KN σ0 a Wv (act Wv)) (hN6 : Wv 5 ≤ 6) (hcN : b.toInt < Wv 5) (hc : CX Wv) (hB : BSB σ0 100) : En 2 45 none mr_92 (P_92x σ0 Wv a b te) 0 [(0, .ref 14), (1, .ref a), (2, .int b)] [] σ0 := by
  obtain ⟨hl_te, hu_te⟩ := WT_int hσ0 (g := 14) (by decide +kernel) (by decide +kernel) (l := (-1)) (u := 4) (by decide +kernel) h_te
  have hF0 : Fr [] σ0 σ0 := Fr_rfl
  have h1 := (hc b.toInt hl_b (by omega)).1 hcN
  refine En_Ps 5 (pc' := 5) (lv' := [(3, .int ((Int32.ofInt 0))), (0, .ref 14), (1, .ref a), (2, .int b)]) (st' := [.int b, .ref a, .ref 14]) rfl ?_
  refine En_callV rfl rfl rfl rfl rfl rfl rfl rfl tgz_14 (by decide +kernel) rfl (c_97x σ0 hσ0 a ha b (geI rfl (by first | exact q_58e6e51dcc hl_b | omega)) (leI rfl (by first | exact q_d9092b5ca1 hu_b | omega)) hP (FXP_fr hP hX hF0 (by decide +kernel)) hK hN6 hcN) (by decide) (by decide) (fun v3 σ4 h2 => ?_)
  obtain ⟨h5, h6, z8, rfl, h7⟩ := h2
  have h9 := h7.2.2
  obtain rfl : σ0 = σ4 := Fr_nil h6
  refine En_Ps 1 (pc' := 10) (lv' := [(4, .int z8), (3, .int ((Int32.ofInt 0))), (0, .ref 14), (1, .ref a), (2, .int b)]) (st' := []) rfl ?_
  have key10 : ∀ (n10 : Nat) (y10 : Int32) (y11 : Int32), 0 ≤ y10.toInt → y10.toInt ≤ 54 → 0 ≤ y11.toInt → y11.toInt ≤ 63 → y10.toInt - y11.toInt ≤ 0 → -y11.toInt + 63 < (n10 : Int) → EAI Wv σ0 b.toInt y11.toInt y10.toInt → En 2 45 none mr_92 (P_92x σ0 Wv a b te) 10 [(0, .ref 14), (1, .ref a), (2, .int b), (3, .int y10), (4, .int y11)] [] σ0 := by
    intro n10
    induction n10 with
    | zero =>
      intro y10 y11 h21 h22 h23 h24 h25 h26 h27
      have h28 := h27.1
      first | exact (q_a146501c70 h26 h24).elim | (exfalso; omega)
    | succ n10 ih10 =>
      intro y10 y11 h21 h22 h23 h24 h25 h26 h27
      have h32 := h27.1
      refine En_Ps 2 (pc' := 14) (lv' := [(0, .ref 14), (1, .ref a), (2, .int b), (3, .int y10), (4, .int y11)]) (st' := [.int (((Int8.ofInt 54).toInt32)), .int y11]) rfl ?_
      refine En_icGe _ rfl (by decide : ((Int8.ofInt 54).toInt32).toInt = 54) rfl (fun h33 => ?_) (fun h33 => ?_)
      · refine En_Ps 1 (pc' := 64) (lv' := [(0, .ref 14), (1, .ref a), (2, .int b), (3, .int y10), (4, .int y11)]) (st' := [.int (((Int8.ofInt 54).toInt32))]) rfl ?_
        refine En_top (by decide : ((Int8.ofInt 54).toInt32).toInt = 54) (fun z34 h35 => ?_)
        exact En_ret (v := some (Value.int z34)) rfl rfl rfl ⟨hσ0, hF0, z34, rfl, ⟨by first | exact q_2edcb5af22 h35 | omega, by first | exact q_3ab2471794 h35 | omega, EAI_e h27 (by omega) (by omega)⟩⟩
      · refine En_Ps 1 (pc' := 18) (lv' := [(0, .ref 14), (1, .ref a), (2, .int b), (3, .int y10), (4, .int y11)]) (st' := [.ref 14]) rfl ?_
        refine En_getU (j := 0) (u := 15) (g' := 15) (q := 0) rfl rfl rfl tgz_14 (by decide +kernel) hσ0 (by decide +kernel) un_15_15 (fun h36 => ?_)
        refine En_Ps 1 (pc' := 23) (lv' := [(0, .ref 14), (1, .ref a), (2, .int b), (3, .int y10), (4, .int y11)]) (st' := [.int y11, .ref 15]) rfl ?_
        refine En_iald (l := (-2147483648)) (u := 2147483647) rfl rfl tgz_15 (by decide +kernel) hσ0 (by first | exact q_58e6e51dcc h23 | omega) (lnI (by decide +kernel : LN _ = 54) (by first | exact q_0242c386f2 h33 | omega)) (FTsgl (by decide +kernel)) (fun z39 h38 h40 h41 => ?_)
        have h42 : ci σ0 15 (y11.toInt) = z39.toInt := ci_at h38 rfl
        have h43 := BSB_v hB (by omega) (by omega) h42
        refine En_Ps 1 (pc' := 25) (lv' := [(0, .ref 14), (1, .ref a), (2, .int b), (3, .int y10), (4, .int y11)]) (st' := [.ref 14, .int z39]) rfl ?_
        refine En_getK (j := 3) h_te rfl rfl rfl tgz_14 (by decide +kernel) ?_
        refine En_icGe _ rfl rfl rfl (fun h44 => ?_) (fun h44 => ?_)
        · refine En_Ps 4 (pc' := 41) (lv' := [(3, .int ((Int32.ofInt 0))), (0, .ref 14), (1, .ref a), (2, .int b), (4, .int y11)]) (st' := [.ref a, .int ((Int32.ofInt 0))]) rfl ?_
          refine En_getR (j := 12) (g' := 25) (u := 0) rfl rfl rfl ha (by decide +kernel) hσ0 (by decide +kernel) (fun a46 h45 ha46 => ?_)
          have t47 : a46 = a + 7 := ref_uniq h45 (FXP_fr hP hX hF0 (by decide +kernel)).2.2.2.2.1
          refine En_Ps 1 (pc' := 45) (lv' := [(3, .int ((Int32.ofInt 0))), (0, .ref 14), (1, .ref a), (2, .int b), (4, .int y11)]) (st' := [.int b, .ref a46, .int ((Int32.ofInt 0))]) rfl ?_
          refine En_iald (l := 0) (u := 9) rfl rfl ha46 (by decide +kernel) hσ0 (by first | exact q_58e6e51dcc hl_b | omega) (lnI (by decide +kernel : LN _ = 6) (by first | exact q_f6226e27c9 hu_b | omega)) (FTsgl (by decide +kernel)) (fun z49 h48 h50 h51 => ?_)
          have h52 : ci σ0 a46 (b.toInt) = z49.toInt := ci_at h48 rfl
          have t53 := lc_c (m := b.toInt) (by omega) (by omega)
          have t54 : Wv (154 + 2 * (b.toInt)) = z49.toInt := KN_v hK (Or.inr (Or.inr (Or.inr (Or.inr (Or.inr (Or.inl ⟨by omega, by omega, by omega⟩)))))) (by omega) (by omega) (by omega) (by omega) h48
          have h55 : 1 ≤ z49.toInt := (by omega)
          refine En_icNe _ (by decide : (Int32.ofInt 0).toInt = 0) rfl rfl (fun h56 => ?_) (fun hx => by exfalso; omega)
          refine En_Ps 1 (pc' := 59) (lv' := [(4, .int ((y11 + Int32.ofInt 1))), (3, .int ((Int32.ofInt 0))), (0, .ref 14), (1, .ref a), (2, .int b)]) (st' := []) rfl ?_
          refine En_lv1 (addI rfl (by decide : (Int32.ofInt 1).toInt = 1) (by first | exact q_465ab79ac1 h23 | omega) (by first | exact q_e95318b4b5 h33 | omega)) (fun z57 h58 => ?_)
          refine En_Ps 1 (pc' := 10) (lv' := [(4, .int z57), (3, .int ((Int32.ofInt 0))), (0, .ref 14), (1, .ref a), (2, .int b)]) (st' := []) rfl ?_
          have := (by decide : (Int32.ofInt 0).toInt = 0)
          refine En_lv (lv := [(0, .ref 14), (1, .ref a), (2, .int b), (3, .int ((Int32.ofInt 0))), (4, .int z57)]) ⟨rfl, rfl, rfl, rfl, rfl, trivial⟩ ?_
          exact ih10 ((Int32.ofInt 0)) z57 (by decide) (by decide) (by first | exact q_35104ce9d3 h58 h23 | omega) (by first | exact q_0165bec008 h58 h33 | omega) (by omega) (by first | exact q_46521c46ca h58 h26 | omega) (EAI_b h27 (by omega) h42 (ci_at (j := 3) h_te rfl) (by omega) (by omega) (by omega) (by omega))
        · refine En_Ps 3 (pc' := 34) (lv' := [(0, .ref 14), (1, .ref a), (2, .int b), (3, .int y10), (4, .int y11)]) (st' := [.int ((y10 + ((Int32.ofInt 1))))]) rfl ?_
          refine En_top (addI rfl (by decide : (Int32.ofInt 1).toInt = 1) (by first | exact q_465ab79ac1 h21 | omega) (by first | exact q_6f39cb8ea5 h22 | omega)) (fun z59 h60 => ?_)
          refine En_Ps 4 (pc' := 41) (lv' := [(3, .int z59), (0, .ref 14), (1, .ref a), (2, .int b), (4, .int y11)]) (st' := [.ref a, .int z59]) rfl ?_
          refine En_getR (j := 12) (g' := 25) (u := 0) rfl rfl rfl ha (by decide +kernel) hσ0 (by decide +kernel) (fun a62 h61 ha62 => ?_)
          have t63 : a62 = a + 7 := ref_uniq h61 (FXP_fr hP hX hF0 (by decide +kernel)).2.2.2.2.1
          refine En_Ps 1 (pc' := 45) (lv' := [(3, .int z59), (0, .ref 14), (1, .ref a), (2, .int b), (4, .int y11)]) (st' := [.int b, .ref a62, .int z59]) rfl ?_
          refine En_iald (l := 0) (u := 9) rfl rfl ha62 (by decide +kernel) hσ0 (by first | exact q_58e6e51dcc hl_b | omega) (lnI (by decide +kernel : LN _ = 6) (by first | exact q_f6226e27c9 hu_b | omega)) (FTsgl (by decide +kernel)) (fun z65 h64 h66 h67 => ?_)
          have h68 : ci σ0 a62 (b.toInt) = z65.toInt := ci_at h64 rfl
          have t69 := lc_c (m := b.toInt) (by omega) (by omega)
          have t70 : Wv (154 + 2 * (b.toInt)) = z65.toInt := KN_v hK (Or.inr (Or.inr (Or.inr (Or.inr (Or.inr (Or.inl ⟨by omega, by omega, by omega⟩)))))) (by omega) (by omega) (by omega) (by omega) h64
          have h71 : 1 ≤ z65.toInt := (by omega)
          refine En_icNe _ rfl rfl rfl (fun h72 => ?_) (fun h72 => ?_)
          · refine En_Ps 1 (pc' := 59) (lv' := [(4, .int ((y11 + Int32.ofInt 1))), (3, .int z59), (0, .ref 14), (1, .ref a), (2, .int b)]) (st' := []) rfl ?_
            refine En_lv1 (addI rfl (by decide : (Int32.ofInt 1).toInt = 1) (by first | exact q_465ab79ac1 h23 | omega) (by first | exact q_e95318b4b5 h33 | omega)) (fun z73 h74 => ?_)
            refine En_Ps 1 (pc' := 10) (lv' := [(4, .int z73), (3, .int z59), (0, .ref 14), (1, .ref a), (2, .int b)]) (st' := []) rfl ?_
            refine En_lv (lv := [(0, .ref 14), (1, .ref a), (2, .int b), (3, .int z59), (4, .int z73)]) ⟨rfl, rfl, rfl, rfl, rfl, trivial⟩ ?_
            exact ih10 z59 z73 (by first | exact q_35104ce9d3 h60 h21 | omega) (by first | exact q_f6ca810411 h60 h25 h33 | omega) (by first | exact q_35104ce9d3 h74 h23 | omega) (by first | exact q_0165bec008 h74 h33 | omega) (by first | exact q_1ff421e7a2 h60 h74 h25 | omega) (by first | exact q_46521c46ca h74 h26 | omega) (EAI_f h27 (by omega) hl_b (by omega) h42 (ci_at (j := 3) h_te rfl) (by omega) (by omega) t70 (by omega) (by omega) (by omega))
          · refine En_Ps 3 (pc' := 53) (lv' := [(3, .int z59), (0, .ref 14), (1, .ref a), (2, .int b), (4, .int y11)]) (st' := [.int ((y11 + ((Int32.ofInt 1))))]) rfl ?_
            refine En_top (addI rfl (by decide : (Int32.ofInt 1).toInt = 1) (by first | exact q_465ab79ac1 h23 | omega) (by first | exact q_e95318b4b5 h33 | omega)) (fun z75 h76 => ?_)
            refine En_Ps 2 (pc' := 55) (lv' := [(3, .int z59), (0, .ref 14), (1, .ref a), (2, .int b), (4, .int y11)]) (st' := [.int ((z75 - z59))]) rfl ?_
            refine En_top (subI rfl rfl (by first | exact q_ab015180c8 h60 h76 h25 | omega) (by first | exact q_916b6f8bc5 h60 h76 h21 h33 | omega)) (fun z77 h78 => ?_)
            exact En_ret (v := some (Value.int z77)) rfl rfl rfl ⟨hσ0, hF0, z77, rfl, ⟨by first | exact q_7fc46aa87a h78 h60 h76 h25 | omega, by first | exact q_8b0265cdc1 h78 h60 h76 h21 h33 | omega, EAI_y h27 (by omega) hl_b (by omega) h42 (ci_at (j := 3) h_te rfl) (by omega) (by omega) t70 (by omega) (by omega)⟩⟩
  have := (by decide : (Int32.ofInt 0).toInt = 0)
  refine En_lv (lv := [(0, .ref 14), (1, .ref a), (2, .int b), (3, .int ((Int32.ofInt 0))), (4, .int z8)]) ⟨rfl, rfl, rfl, rfl, rfl, trivial⟩ ?_
  exact key10 (Int.toNat (-z8.toInt + 63) + 1) ((Int32.ofInt 0)) z8 (by decide) (by decide) (by first | exact q_ef1e8e38bf h7.1 | omega) (by first | exact q_3ea7e55eca h7.2.1 | omega) (by omega) (by first | exact toN_lt _ | omega) (EAI_0 h9 (by omega) hl_b (by omega) (by omega) rfl (by decide))
/-- DoorSchool$Timetable.keepIfFirst(I)V -/
abbrev P_95x (σ0 : SG) (a : Int32) (so : Int32) : PO := fun v σ => WT σ ∧ Fr [(14, 4), (17, 0)] σ0 σ ∧ ∃ so1 : Int32, (σ 14)[4]? = some (Value.int so1) ∧ v = none ∧ -so1.toInt ≤ 0 ∧ so1.toInt - 1000 ≤ 0 ∧ so1.toInt - so.toInt ≤ 0 ∧ (so1.toInt ≤ so.toInt ∧ so1.toInt ≤ a.toInt ∧ (so1.toInt = so.toInt ∨ so1.toInt = a.toInt))
set_option maxRecDepth 10000 in
set_option maxHeartbeats 4000000 in
theorem c_95x (σ0 : SG) (hσ0 : WT σ0) (a : Int32) (hl_a : 0 ≤ a.toInt) (hu_a : a.toInt ≤ 1000) (so : Int32) (h_so : (σ0 14)[4]? = some (Value.int so)) : En 1 60 none mr_95 (P_95x σ0 a so) 0 [(0, .ref 14), (1, .int a)] [] σ0 := by
  obtain ⟨hl_so, hu_so⟩ := WT_int hσ0 (g := 14) (by decide +kernel) (by decide +kernel) (l := 0) (u := 1000) (by decide +kernel) h_so
  have hF0 : Fr [(14, 4), (17, 0)] σ0 σ0 := Fr_rfl
  refine En_Ps 2 (pc' := 2) (lv' := [(0, .ref 14), (1, .int a)]) (st' := [.ref 14, .int a]) rfl ?_
  refine En_getK (j := 4) h_so rfl rfl rfl tgz_14 (by decide +kernel) ?_
  refine En_icGt _ rfl rfl rfl (fun h1 => ?_) (fun h1 => ?_)
  · exact En_ret (v := none) rfl rfl rfl ⟨hσ0, hF0, so, h_so, rfl, ⟨by first | exact q_c803b490ef hl_so | omega, by first | exact q_4e46b9e1ab hu_so | omega, by first | exact q_1bb76abeaf | omega, (by omega)⟩⟩
  · refine En_Ps 2 (pc' := 10) (lv' := [(0, .ref 14), (1, .int a)]) (st' := [.ref 14, .int a]) rfl ?_
    refine En_getK (j := 4) h_so rfl rfl rfl tgz_14 (by decide +kernel) ?_
    refine En_icNe _ rfl rfl rfl (fun h2 => ?_) (fun h2 => ?_)
    · refine En_Ps 2 (pc' := 26) (lv' := [(0, .ref 14), (1, .int a)]) (st' := [.int a, .ref 14]) rfl ?_
      refine En_put (j := 4) rfl rfl rfl tgz_14 (by decide +kernel) rfl (vI (l := 0) (u := 1000) (by decide +kernel) rfl (by first | exact q_58e6e51dcc hl_a | omega) (by first | exact q_2a7c2c8d7c hu_a | omega)) hσ0 hF0 (by decide +kernel) (fun σ3 h4 h5 h6 h7 => ?_)
      refine En_Ps 1 (pc' := 30) (lv' := [(0, .ref 14), (1, .int a)]) (st' := [.ref 14]) rfl ?_
      refine En_getU (j := 1) (u := 16) (g' := 16) (q := 0) rfl rfl rfl tgz_14 (by decide +kernel) h4 (by decide +kernel) un_16_16 (fun h8 => ?_)
      refine En_Ps 2 (pc' := 35) (lv' := [(0, .ref 14), (1, .int a)]) (st' := [.ref 14, .int ((Int32.ofInt 0)), .ref 16]) rfl ?_
      refine En_getU (j := 2) (u := 17) (g' := 17) (q := 0) rfl rfl rfl tgz_14 (by decide +kernel) h4 (by decide +kernel) un_17_17 (fun h10 => ?_)
      refine En_Ps 2 (pc' := 41) (lv' := [(0, .ref 14), (1, .int a)]) (st' := [.int (((Int8.ofInt 6).toInt32)), .int ((Int32.ofInt 0)), .ref 17, .int ((Int32.ofInt 0)), .ref 16]) rfl ?_
      refine En_copy (n0 := 6) (n1 := 6) (by decide : ((Int8.ofInt 6).toInt32).toInt = 6) (by decide : (Int32.ofInt 0).toInt = 0) (by decide : (Int32.ofInt 0).toInt = 0) rfl rfl rfl rfl tgz_16 tgz_17 (by decide +kernel) (by decide +kernel) (by decide +kernel) (by decide +kernel) (by decide +kernel) (by omega) (by omega) (by omega) (by omega) (by omega) h4 h5 (by decide +kernel) (fun σ12 h13 h14 h15 => ?_)
      exact En_ret (v := none) rfl rfl rfl ⟨h13, h14, a, ((h15 _ _ (neTG tgz_14 tgz_17 (by decide))).trans h6), rfl, ⟨by first | exact q_c803b490ef hl_a | omega, by first | exact q_4e46b9e1ab hu_a | omega, by first | exact q_a461a73438 h2 h1 | omega, (by omega)⟩⟩
    · refine En_Ps 1 (pc' := 17) (lv' := [(0, .ref 14), (1, .int a)]) (st' := [.ref 14]) rfl ?_
      refine En_callV rfl rfl rfl rfl rfl rfl rfl rfl tgz_14 (by decide +kernel) rfl (c_94 σ0 hσ0) (by decide) (by decide) (fun v17 σ18 h16 => ?_)
      obtain ⟨h19, h20, z22, rfl, h21⟩ := h16
      have h23 := Fr_trans hF0 h20 (by decide +kernel)
      refine En_iNe _ rfl rfl (fun h24 => ?_) (fun h24 => ?_)
      · refine En_Ps 2 (pc' := 26) (lv' := [(0, .ref 14), (1, .int a)]) (st' := [.int a, .ref 14]) rfl ?_
        refine En_put (j := 4) rfl rfl rfl tgz_14 (by decide +kernel) rfl (vI (l := 0) (u := 1000) (by decide +kernel) rfl (by first | exact q_58e6e51dcc hl_a | omega) (by first | exact q_2a7c2c8d7c hu_a | omega)) h19 h23 (by decide +kernel) (fun σ25 h26 h27 h28 h29 => ?_)
        refine En_Ps 1 (pc' := 30) (lv' := [(0, .ref 14), (1, .int a)]) (st' := [.ref 14]) rfl ?_
        refine En_getU (j := 1) (u := 16) (g' := 16) (q := 0) rfl rfl rfl tgz_14 (by decide +kernel) h26 (by decide +kernel) un_16_16 (fun h30 => ?_)
        refine En_Ps 2 (pc' := 35) (lv' := [(0, .ref 14), (1, .int a)]) (st' := [.ref 14, .int ((Int32.ofInt 0)), .ref 16]) rfl ?_
        refine En_getU (j := 2) (u := 17) (g' := 17) (q := 0) rfl rfl rfl tgz_14 (by decide +kernel) h26 (by decide +kernel) un_17_17 (fun h32 => ?_)
        refine En_Ps 2 (pc' := 41) (lv' := [(0, .ref 14), (1, .int a)]) (st' := [.int (((Int8.ofInt 6).toInt32)), .int ((Int32.ofInt 0)), .ref 17, .int ((Int32.ofInt 0)), .ref 16]) rfl ?_
        refine En_copy (n0 := 6) (n1 := 6) (by decide : ((Int8.ofInt 6).toInt32).toInt = 6) (by decide : (Int32.ofInt 0).toInt = 0) (by decide : (Int32.ofInt 0).toInt = 0) rfl rfl rfl rfl tgz_16 tgz_17 (by decide +kernel) (by decide +kernel) (by decide +kernel) (by decide +kernel) (by decide +kernel) (by omega) (by omega) (by omega) (by omega) (by omega) h26 h27 (by decide +kernel) (fun σ34 h35 h36 h37 => ?_)
        exact En_ret (v := none) rfl rfl rfl ⟨h35, h36, a, ((h37 _ _ (neTG tgz_14 tgz_17 (by decide))).trans h28), rfl, ⟨by first | exact q_c803b490ef hl_a | omega, by first | exact q_4e46b9e1ab hu_a | omega, by first | exact q_15b82e7ad8 h1 | omega, (by omega)⟩⟩
      · exact En_ret (v := none) rfl rfl rfl ⟨h19, h23, so, ((h20 _ _ (inW tgz_14 (by decide +kernel))).trans h_so), rfl, ⟨by first | exact q_c803b490ef hl_so | omega, by first | exact q_4e46b9e1ab hu_so | omega, by first | exact q_1bb76abeaf | omega, (by omega)⟩⟩
/-- DoorSchool$Timetable.work(III)V -/
abbrev P_99x (σ0 : SG) (a : Int32) (b : Int32) (c : Int32) : PO := fun v σ => WT σ ∧ Fr [(15, 0)] σ0 σ ∧ v = none ∧ WRK σ0 σ a.toInt b.toInt c.toInt
set_option maxRecDepth 10000 in
set_option maxHeartbeats 4000000 in
theorem c_99x (σ0 : SG) (hσ0 : WT σ0) (a : Int32) (b : Int32) (c : Int32) (hl_a : 0 ≤ a.toInt) (hu_a : a.toInt ≤ 54) (hl_c : (-1) ≤ c.toInt) (hu_c : c.toInt ≤ 1) (hB : BSB σ0 100) : En 0 0 none mr_99 (P_99x σ0 a b c) 0 [(0, .ref 14), (1, .int a), (2, .int b), (3, .int c)] [] σ0 := by
  have hF0 : Fr [(15, 0)] σ0 σ0 := Fr_rfl
  refine En_Ps 2 (pc' := 3) (lv' := [(4, .int a), (0, .ref 14), (1, .int a), (2, .int b), (3, .int c)]) (st' := []) rfl ?_
  have key3 : ∀ (n3 : Nat) (σ2 : SG) (y1 : Int32), WT σ2 → Fr [(15, 0)] σ0 σ2 → 0 ≤ y1.toInt → y1.toInt ≤ 54 → a.toInt - y1.toInt ≤ 0 → -y1.toInt + 54 < (n3 : Int) → WRK σ0 σ2 a.toInt y1.toInt c.toInt → a.toInt ≤ y1.toInt → y1.toInt ≤ b.toInt ∨ y1.toInt = a.toInt → En 0 0 none mr_99 (P_99x σ0 a b c) 3 [(0, .ref 14), (1, .int a), (2, .int b), (3, .int c), (4, .int y1)] [] σ2 := by
    intro n3
    induction n3 with
    | zero =>
      intro σ2 y1 h3 h4 h5 h6 h7 h8 h9 h10 h11
      first | exact (q_73036d2669 h8 h6).elim | (exfalso; omega)
    | succ n3 ih3 =>
      intro σ2 y1 h3 h4 h5 h6 h7 h8 h9 h10 h11
      refine En_Ps 2 (pc' := 6) (lv' := [(0, .ref 14), (1, .int a), (2, .int b), (3, .int c), (4, .int y1)]) (st' := [.int b, .int y1]) rfl ?_
      refine En_icGe _ rfl rfl rfl (fun h12 => ?_) (fun h12 => ?_)
      · exact En_ret (v := none) rfl rfl rfl ⟨h3, h4, rfl, WRK_x h9 (by omega) (by omega) (by omega)⟩
      · refine En_Ps 2 (pc' := 13) (lv' := [(0, .ref 14), (1, .int a), (2, .int b), (3, .int c), (4, .int y1)]) (st' := [.int (((Int8.ofInt 54).toInt32)), .int y1]) rfl ?_
        refine En_icGe _ rfl (by decide : ((Int8.ofInt 54).toInt32).toInt = 54) rfl (fun h13 => ?_) (fun h13 => ?_)
        · exact En_ret (v := none) rfl rfl rfl ⟨h3, h4, rfl, WRK_x h9 (by omega) (by omega) (by omega)⟩
        · refine En_Ps 1 (pc' := 17) (lv' := [(0, .ref 14), (1, .int a), (2, .int b), (3, .int c), (4, .int y1)]) (st' := [.ref 14]) rfl ?_
          refine En_getU (j := 0) (u := 15) (g' := 15) (q := 0) rfl rfl rfl tgz_14 (by decide +kernel) h3 (by decide +kernel) un_15_15 (fun h14 => ?_)
          refine En_Ps 2 (pc' := 23) (lv' := [(0, .ref 14), (1, .int a), (2, .int b), (3, .int c), (4, .int y1)]) (st' := [.int y1, .ref 15, .int y1, .ref 15]) rfl ?_
          refine En_iald (l := (-2147483648)) (u := 2147483647) rfl rfl tgz_15 (by decide +kernel) h3 (by first | exact q_58e6e51dcc h5 | omega) (lnI (by decide +kernel : LN _ = 54) (by first | exact q_0242c386f2 h13 | omega)) (FTsgl (by decide +kernel)) (fun z17 h16 h18 h19 => ?_)
          have h20 : ci σ2 15 (y1.toInt) = z17.toInt := ci_at h16 rfl
          have h21 := WRK_z h9 hB (by omega) (by omega) h20
          refine En_Ps 2 (pc' := 26) (lv' := [(0, .ref 14), (1, .int a), (2, .int b), (3, .int c), (4, .int y1)]) (st' := [.int ((z17 + c)), .int y1, .ref 15]) rfl ?_
          refine En_top (addI rfl rfl (by omega) (by omega)) (fun z22 h23 => ?_)
          refine En_iast (l := (-2147483648)) (u := 2147483647) rfl rfl tgz_15 (by decide +kernel) (by first | exact q_58e6e51dcc h5 | omega) (lnI (by decide +kernel : LN _ = 54) (by first | exact q_0242c386f2 h13 | omega)) (FTsgl (by decide +kernel)) (fullI _) h3 h4 (by decide +kernel) (fun σ24 h25 h26 h27 h28 => ?_)
          refine En_Ps 1 (pc' := 30) (lv' := [(4, .int ((y1 + Int32.ofInt 1))), (0, .ref 14), (1, .int a), (2, .int b), (3, .int c)]) (st' := []) rfl ?_
          refine En_lv1 (addI rfl (by decide : (Int32.ofInt 1).toInt = 1) (by first | exact q_465ab79ac1 h5 | omega) (by first | exact q_e95318b4b5 h13 | omega)) (fun z29 h30 => ?_)
          refine En_Ps 1 (pc' := 3) (lv' := [(4, .int z29), (0, .ref 14), (1, .int a), (2, .int b), (3, .int c)]) (st' := []) rfl ?_
          refine En_lv (lv := [(0, .ref 14), (1, .int a), (2, .int b), (3, .int c), (4, .int z29)]) ⟨rfl, rfl, rfl, rfl, rfl, trivial⟩ ?_
          exact ih3 σ24 z29 h25 h26 (by first | exact q_35104ce9d3 h30 h5 | omega) (by first | exact q_d421e1eb08 h30 h13 | omega) (by first | exact q_3a5e225620 h7 h30 | omega) (by first | exact q_356d0c0a02 h30 h8 | omega) (WRK_s h9 (by omega) (by omega) h20 h27 h28 (by omega) (by omega)) ((by omega)) ((by omega))
  refine En_lv (lv := [(0, .ref 14), (1, .int a), (2, .int b), (3, .int c), (4, .int a)]) ⟨rfl, rfl, rfl, rfl, rfl, trivial⟩ ?_
  exact key3 (Int.toNat (-a.toInt + 54) + 1) σ0 a hσ0 hF0 (by first | exact q_58e6e51dcc hl_a | omega) (by first | exact q_badf304c6d hu_a | omega) (by first | exact q_1bb76abeaf | omega) (by first | exact toN_lt _ | omega) (WRK_0 rfl) ((by omega)) ((by omega))
/-- DoorSchool$Timetable.placeFrom(LDoorSchool$Timetable;LDoorSchool$Plan;III)V -/
abbrev P_96ax (σ0 : SG) (Wv : Int → Int) (p : Nat) (a : Int32) (b : Int32) (c : Int32) (so : Int32) (te : Int32) : PO := fun v σ => WT σ ∧ Fr [(14, 4), (17, 0)] σ0 σ ∧ ∃ so1 : Int32, (σ 14)[4]? = some (Value.int so1) ∧ v = none ∧ -so1.toInt ≤ 0 ∧ so1.toInt - 1000 ≤ 0 ∧ so1.toInt - so.toInt ≤ 0 ∧ PFR Wv te.toInt σ0 σ b.toInt c.toInt so.toInt so1.toInt
set_option maxRecDepth 10000 in
set_option maxHeartbeats 4000000 in
theorem c_96ax {Wv : Int → Int} (σ0 : SG) (hσ0 : WT σ0) (p : Nat) (hp : TG p = 18) (a : Int32) (b : Int32) (c : Int32) (hl_a : 6 ≤ a.toInt) (hu_a : a.toInt ≤ 6) (hl_b : 0 ≤ b.toInt) (hu_b : b.toInt ≤ 63) (hl_c : 0 ≤ c.toInt) (hu_c : c.toInt ≤ 1000) (so : Int32) (h_so : (σ0 14)[4]? = some (Value.int so)) (te : Int32) (h_te : (σ0 14)[3]? = some (Value.int te)) (hP : PLA p) (hX : FXP σ0 p) (hK : KN σ0 p Wv (act Wv)) (hN6 : Wv 5 ≤ 6) (hc : CX Wv) (hB : BSB σ0 a.toInt) (hn : cnt b.toInt.toNat (Wv 5).toNat = a.toInt.toNat) : En 3 81 none mr_96 (P_96ax σ0 Wv p a b c so te) 0 [(0, .ref 14), (1, .ref p), (2, .int a), (3, .int b), (4, .int c)] [] σ0 := by
  obtain ⟨hl_so, hu_so⟩ := WT_int hσ0 (g := 14) (by decide +kernel) (by decide +kernel) (l := 0) (u := 1000) (by decide +kernel) h_so
  obtain ⟨hl_te, hu_te⟩ := WT_int hσ0 (g := 14) (by decide +kernel) (by decide +kernel) (l := (-1)) (u := 4) (by decide +kernel) h_te
  have hF0 : Fr [(14, 4), (17, 0)] σ0 σ0 := Fr_rfl
  refine En_Ps 2 (pc' := 2) (lv' := [(0, .ref 14), (1, .ref p), (2, .int a), (3, .int b), (4, .int c)]) (st' := [.ref p, .int a]) rfl ?_
  refine En_getI (j := 11) (l := 0) (u := 6) rfl rfl rfl hp (by decide +kernel) hσ0 (by decide +kernel) (fun z2 h1 h3 h4 => ?_)
  have t5 : Wv (5) = z2.toInt := KN_v hK (Or.inl (by decide)) (by decide) (by decide) (by rw [lcO_lt (by decide) (by decide), Nat.add_zero]) rfl h1
  refine En_icGe _ rfl rfl rfl (fun h6 => ?_) (fun hx => by first | exact (q_071bc28013 hl_a h4 hx).elim | (exfalso; omega))
  refine En_Ps 2 (pc' := 17) (lv' := [(0, .ref 14), (1, .ref p), (2, .int a), (3, .int b), (4, .int c)]) (st' := [.int c, .ref 14]) rfl ?_
  refine En_callV rfl rfl rfl rfl rfl rfl rfl rfl tgz_14 (by decide +kernel) rfl (c_95x σ0 hσ0 c (geI rfl (by first | exact q_58e6e51dcc hl_c | omega)) (leI rfl (by first | exact q_2a7c2c8d7c hu_c | omega)) so h_so) (by decide) (by decide) (fun v8 σ9 h7 => ?_)
  obtain ⟨h10, h11, z13, h14, rfl, h12⟩ := h7
  have h15 := h12.2.2.2
  have h16 := Fr_trans hF0 h11 (by decide +kernel)
  exact En_ret (v := none) rfl rfl rfl ⟨h10, h16, z13, h14, rfl, ⟨by first | exact q_a555021d16 h12.1 | omega, by first | exact q_1655d09eed h12.2.1 | omega, by first | exact q_f67127b06c h12.2.2.1 | omega, (by have e9 := h15; exact PFR_end hn (by omega) (BSS_fr h11 (by decide +kernel)) (BGS_fr h11 (by decide +kernel)) (by omega) (by omega) (by omega))⟩⟩
/-- DoorSchool$Timetable.placeFrom(LDoorSchool$Timetable;LDoorSchool$Plan;III)V -/
abbrev P_96bx (σ0 : SG) (Wv : Int → Int) (p : Nat) (a : Int32) (b : Int32) (c : Int32) (so : Int32) (te : Int32) : PO := fun v σ => WT σ ∧ Fr [(14, 4), (15, 0), (16, 0), (17, 0)] σ0 σ ∧ ∃ so1 : Int32, (σ 14)[4]? = some (Value.int so1) ∧ v = none ∧ -so1.toInt ≤ 0 ∧ so1.toInt - 1000 ≤ 0 ∧ PFR Wv te.toInt σ0 σ b.toInt c.toInt so.toInt so1.toInt
set_option maxRecDepth 10000 in
set_option maxHeartbeats 4000000 in
theorem c_96bx {Wv : Int → Int} (σ0 : SG) (hσ0 : WT σ0) (p : Nat) (hp : TG p = 18) (a : Int32) (b : Int32) (c : Int32) (hl_a : 5 ≤ a.toInt) (hu_a : a.toInt ≤ 6) (hl_b : 0 ≤ b.toInt) (hu_b : b.toInt ≤ 63) (hl_c : 0 ≤ c.toInt) (hu_c : c.toInt ≤ 1000) (so : Int32) (h_so : (σ0 14)[4]? = some (Value.int so)) (te : Int32) (h_te : (σ0 14)[3]? = some (Value.int te)) (hP : PLA p) (hX : FXP σ0 p) (hK : KN σ0 p Wv (act Wv)) (hN6 : Wv 5 ≤ 6) (hc : CX Wv) (hB : BSB σ0 a.toInt) (hn : cnt b.toInt.toNat (Wv 5).toNat = a.toInt.toNat) : En 4 108 none mr_96 (P_96bx σ0 Wv p a b c so te) 0 [(0, .ref 14), (1, .ref p), (2, .int a), (3, .int b), (4, .int c)] [] σ0 := by
  obtain ⟨hl_so, hu_so⟩ := WT_int hσ0 (g := 14) (by decide +kernel) (by decide +kernel) (l := 0) (u := 1000) (by decide +kernel) h_so
  obtain ⟨hl_te, hu_te⟩ := WT_int hσ0 (g := 14) (by decide +kernel) (by decide +kernel) (l := (-1)) (u := 4) (by decide +kernel) h_te
  have hF0 : Fr [(14, 4), (15, 0), (16, 0), (17, 0)] σ0 σ0 := Fr_rfl
  refine En_Ps 2 (pc' := 2) (lv' := [(0, .ref 14), (1, .ref p), (2, .int a), (3, .int b), (4, .int c)]) (st' := [.ref p, .int a]) rfl ?_
  refine En_getI (j := 11) (l := 0) (u := 6) rfl rfl rfl hp (by decide +kernel) hσ0 (by decide +kernel) (fun z2 h1 h3 h4 => ?_)
  have t5 : Wv (5) = z2.toInt := KN_v hK (Or.inl (by decide)) (by decide) (by decide) (by rw [lcO_lt (by decide) (by decide), Nat.add_zero]) rfl h1
  refine En_icGe _ rfl rfl rfl (fun h6 => ?_) (fun h6 => ?_)
  · refine En_Ps 2 (pc' := 17) (lv' := [(0, .ref 14), (1, .ref p), (2, .int a), (3, .int b), (4, .int c)]) (st' := [.int c, .ref 14]) rfl ?_
    refine En_callV rfl rfl rfl rfl rfl rfl rfl rfl tgz_14 (by decide +kernel) rfl (c_95x σ0 hσ0 c (geI rfl (by first | exact q_58e6e51dcc hl_c | omega)) (leI rfl (by first | exact q_2a7c2c8d7c hu_c | omega)) so h_so) (by decide) (by decide) (fun v8 σ9 h7 => ?_)
    obtain ⟨h10, h11, z13, h14, rfl, h12⟩ := h7
    have h15 := h12.2.2.2
    have h16 := Fr_trans hF0 h11 (by decide +kernel)
    exact En_ret (v := none) rfl rfl rfl ⟨h10, h16, z13, h14, rfl, ⟨by first | exact q_a555021d16 h12.1 | omega, by first | exact q_1655d09eed h12.2.1 | omega, (by have e9 := h15; exact PFR_end hn (by omega) (BSS_fr h11 (by decide +kernel)) (BGS_fr h11 (by decide +kernel)) (by omega) (by omega) (by omega))⟩⟩
  · refine En_Ps 2 (pc' := 11) (lv' := [(0, .ref 14), (1, .ref p), (2, .int a), (3, .int b), (4, .int c)]) (st' := [.int (((Int8.ofInt 6).toInt32)), .int a]) rfl ?_
    refine En_icLt _ rfl (by decide : ((Int8.ofInt 6).toInt32).toInt = 6) rfl (fun h17 => ?_) (fun hx => by first | exact (q_071bc28013 hx h4 h6).elim | (exfalso; omega))
    refine En_Ps 2 (pc' := 24) (lv' := [(5, .int ((Int32.ofInt 0))), (0, .ref 14), (1, .ref p), (2, .int a), (3, .int b), (4, .int c)]) (st' := []) rfl ?_
    have key24 : ∀ (n24 : Nat) (σ20 : SG) (y18 : Int32) (y19 : Int32), WT σ20 → Fr [(14, 4), (15, 0), (16, 0), (17, 0)] σ0 σ20 → (σ20 14)[3]? = some (Value.int te) → (σ20 p)[11]? = some (Value.int z2) → (σ20 14)[4]? = some (Value.int y19) → 0 ≤ y18.toInt → y18.toInt ≤ 6 → 0 ≤ y19.toInt → y19.toInt ≤ 1000 → z2.toInt - y18.toInt < (n24 : Int) → PFI Wv te.toInt σ0 σ20 b.toInt c.toInt y18.toInt so.toInt y19.toInt → y18.toInt ≤ Wv 5 → En 4 108 none mr_96 (P_96bx σ0 Wv p a b c so te) 24 [(0, .ref 14), (1, .ref p), (2, .int a), (3, .int b), (4, .int c), (5, .int y18)] [] σ20 := by
      intro n24
      induction n24 with
      | zero =>
        intro σ20 y18 y19 h21 h22 h23 h24 h25 h26 h27 h28 h29 h30 h31 h32
        first | exact (q_8174e62746 hl_a h6 h27 h30).elim | (exfalso; omega)
      | succ n24 ih24 =>
        intro σ20 y18 y19 h21 h22 h23 h24 h25 h26 h27 h28 h29 h30 h31 h32
        refine En_Ps 2 (pc' := 27) (lv' := [(0, .ref 14), (1, .ref p), (2, .int a), (3, .int b), (4, .int c), (5, .int y18)]) (st' := [.ref p, .int y18]) rfl ?_
        refine En_getK (j := 11) h24 rfl rfl rfl hp (by decide +kernel) ?_
        refine En_icGe _ rfl rfl rfl (fun h33 => ?_) (fun h33 => ?_)
        · exact En_ret (v := none) rfl rfl rfl ⟨h21, h22, y19, h25, rfl, ⟨by first | exact q_c803b490ef h28 | omega, by first | exact q_4e46b9e1ab h29 | omega, PFR_of h31 hn (by omega) (by omega) (by omega)⟩⟩
        · refine En_Ps 2 (pc' := 36) (lv' := [(0, .ref 14), (1, .ref p), (2, .int a), (3, .int b), (4, .int c), (5, .int y18)]) (st' := [.int y18, .int b]) rfl ?_
          refine En_callS rfl rfl rfl rfl rfl rfl rfl rfl rfl (c_108ax σ20 h21 b y18 (geI rfl (by first | exact q_58e6e51dcc hl_b | omega)) (leI rfl (by first | exact q_442e014c00 hu_b | omega)) (geI rfl (by first | exact q_58e6e51dcc h26 | omega)) (leI rfl (by first | exact q_65989d2eba h27 | omega))) (by decide) (by decide) (fun v35 σ36 h34 => ?_)
          obtain ⟨h37, h38, z40, rfl, h39⟩ := h34
          have h41 := h39.2.2
          obtain rfl : σ20 = σ36 := Fr_nil h38
          refine En_iNe _ rfl rfl (fun h42 => ?_) (fun h42 => ?_)
          · refine En_Ps 1 (pc' := 144) (lv' := [(5, .int ((y18 + Int32.ofInt 1))), (0, .ref 14), (1, .ref p), (2, .int a), (3, .int b), (4, .int c)]) (st' := []) rfl ?_
            refine En_lv1 (addI rfl (by decide : (Int32.ofInt 1).toInt = 1) (by first | exact q_465ab79ac1 h26 | omega) (by first | exact q_9a865ca0e4 h27 | omega)) (fun z43 h44 => ?_)
            refine En_Ps 1 (pc' := 24) (lv' := [(5, .int z43), (0, .ref 14), (1, .ref p), (2, .int a), (3, .int b), (4, .int c)]) (st' := []) rfl ?_
            refine En_lv (lv := [(0, .ref 14), (1, .ref p), (2, .int a), (3, .int b), (4, .int c), (5, .int z43)]) ⟨rfl, rfl, rfl, rfl, rfl, rfl, trivial⟩ ?_
            exact ih24 σ20 z43 y19 h21 h22 h23 h24 h25 (by first | exact q_35104ce9d3 h44 h26 | omega) (by first | exact q_c76cfd8d15 h44 h33 h4 | omega) (by first | exact q_58e6e51dcc h28 | omega) (by first | exact q_2a7c2c8d7c h29 | omega) (by first | exact q_8d03a5a7cb h44 h30 | omega) (PFI_b h31 (by omega) (by omega) h41 (by omega) (by omega)) ((by omega))
          · refine En_Ps 1 (pc' := 43) (lv' := [(0, .ref 14), (1, .ref p), (2, .int a), (3, .int b), (4, .int c), (5, .int y18)]) (st' := [.ref p]) rfl ?_
            refine En_getR (j := 13) (g' := 26) (u := 0) rfl rfl rfl hp (by decide +kernel) h21 (by decide +kernel) (fun a46 h45 ha46 => ?_)
            have t47 : a46 = p + 8 := ref_uniq h45 (FXP_fr hP hX h22 (by decide +kernel)).2.2.2.2.2.1
            refine En_Ps 1 (pc' := 48) (lv' := [(0, .ref 14), (1, .ref p), (2, .int a), (3, .int b), (4, .int c), (5, .int y18)]) (st' := [.int y18, .ref a46]) rfl ?_
            refine En_iald (l := 0) (u := 63) rfl rfl ha46 (by decide +kernel) h21 (by first | exact q_58e6e51dcc h26 | omega) (lnI (by decide +kernel : LN _ = 6) (by first | exact q_f252e21553 h33 h4 | omega)) (FTsgl (by decide +kernel)) (fun z49 h48 h50 h51 => ?_)
            have h52 : ci σ20 a46 (y18.toInt) = z49.toInt := ci_at h48 rfl
            have t53 := lc_c (m := y18.toInt) (by omega) (by omega)
            have t54 : Wv (155 + 2 * (y18.toInt)) = z49.toInt := KN_v (KN_fr hP hK h22 (by decide +kernel)) (Or.inr (Or.inr (Or.inr (Or.inr (Or.inr (Or.inl ⟨by omega, by omega, by omega⟩)))))) (by omega) (by omega) (by omega) (by omega) h48
            have h55 := hc y18.toInt (by omega) (by omega)
            have h56 : z49.toInt < pI y18.toInt := by have e9 := h55.2.2.1; omega
            refine En_Ps 3 (pc' := 52) (lv' := [(0, .ref 14), (1, .ref p), (2, .int a), (3, .int b), (4, .int c), (5, .int y18)]) (st' := [.int ((b ^^^ ((Int32.ofInt (-1))))), .int z49]) rfl ?_
            refine En_nam (fun z57 h58 => ?_)
            refine En_Ps 1 (pc' := 53) (lv' := [(0, .ref 14), (1, .ref p), (2, .int a), (3, .int b), (4, .int c), (5, .int y18)]) (st' := [.int ((z49 &&& z57))]) rfl ?_
            refine En_nam (fun z60 h61 => ?_)
            have h62 : z60.toInt = z49.toInt - aN z49.toInt b.toInt := andn_v h61 h58 rfl rfl (by omega) (by omega)
            have := aN_le (X := z49.toInt) (Y := b.toInt) (by omega) (by omega)
            refine En_iNe _ rfl rfl (fun h63 => ?_) (fun h63 => ?_)
            · refine En_Ps 1 (pc' := 144) (lv' := [(5, .int ((y18 + Int32.ofInt 1))), (0, .ref 14), (1, .ref p), (2, .int a), (3, .int b), (4, .int c)]) (st' := []) rfl ?_
              refine En_lv1 (addI rfl (by decide : (Int32.ofInt 1).toInt = 1) (by first | exact q_465ab79ac1 h26 | omega) (by first | exact q_9a865ca0e4 h27 | omega)) (fun z64 h65 => ?_)
              refine En_Ps 1 (pc' := 24) (lv' := [(5, .int z64), (0, .ref 14), (1, .ref p), (2, .int a), (3, .int b), (4, .int c)]) (st' := []) rfl ?_
              refine En_lv (lv := [(0, .ref 14), (1, .ref p), (2, .int a), (3, .int b), (4, .int c), (5, .int z64)]) ⟨rfl, rfl, rfl, rfl, rfl, rfl, trivial⟩ ?_
              exact ih24 σ20 z64 y19 h21 h22 h23 h24 h25 (by first | exact q_35104ce9d3 h65 h26 | omega) (by first | exact q_c76cfd8d15 h65 h33 h4 | omega) (by first | exact q_58e6e51dcc h28 | omega) (by first | exact q_2a7c2c8d7c h29 | omega) (by first | exact q_8d03a5a7cb h65 h30 | omega) (PFI_n (z := z60.toInt) h31 (by omega) (by omega) t54 (by omega) h56 (by omega) (by omega) (by omega)) ((by omega))
            · obtain ⟨h66, h67⟩ := andn_zero h61 h58 h63 rfl rfl (by omega)
              refine En_Ps 3 (pc' := 60) (lv' := [(0, .ref 14), (1, .ref p), (2, .int a), (3, .int b), (4, .int c), (5, .int y18)]) (st' := [.int y18, .ref p, .ref 14]) rfl ?_
              refine En_callV rfl rfl rfl rfl rfl rfl rfl rfl tgz_14 (by decide +kernel) rfl (c_92x σ20 h21 p hp y18 (geI rfl (by first | exact q_58e6e51dcc h26 | omega)) (leI rfl (by first | exact q_2c6b8d4bd3 h33 h4 | omega)) te h23 hP (FXP_fr hP hX h22 (by decide +kernel)) (KN_fr hP hK h22 (by decide +kernel)) hN6 (by omega) hc (BSB_m (BSB_e hB h31.2.1) (by omega))) (by decide) (by decide) (fun v69 σ70 h68 => ?_)
              obtain ⟨h71, h72, z74, rfl, h73⟩ := h68
              have h75 := h73.2.2
              obtain rfl : σ20 = σ70 := Fr_nil h72
              refine En_Ps 3 (pc' := 68) (lv' := [(6, .int z74), (0, .ref 14), (1, .ref p), (2, .int a), (3, .int b), (4, .int c), (5, .int y18)]) (st' := [.ref p, .int z74]) rfl ?_
              refine En_getR (j := 12) (g' := 25) (u := 0) rfl rfl rfl hp (by decide +kernel) h21 (by decide +kernel) (fun a77 h76 ha77 => ?_)
              have t78 : a77 = p + 7 := ref_uniq h76 (FXP_fr hP hX h22 (by decide +kernel)).2.2.2.2.1
              refine En_Ps 1 (pc' := 73) (lv' := [(6, .int z74), (0, .ref 14), (1, .ref p), (2, .int a), (3, .int b), (4, .int c), (5, .int y18)]) (st' := [.int y18, .ref a77, .int z74]) rfl ?_
              refine En_iald (l := 0) (u := 9) rfl rfl ha77 (by decide +kernel) h21 (by first | exact q_58e6e51dcc h26 | omega) (lnI (by decide +kernel : LN _ = 6) (by first | exact q_f252e21553 h33 h4 | omega)) (FTsgl (by decide +kernel)) (fun z80 h79 h81 h82 => ?_)
              have h83 : ci σ20 a77 (y18.toInt) = z80.toInt := ci_at h79 rfl
              have t84 := lc_c (m := y18.toInt) (by omega) (by omega)
              have t85 : Wv (154 + 2 * (y18.toInt)) = z80.toInt := KN_v (KN_fr hP hK h22 (by decide +kernel)) (Or.inr (Or.inr (Or.inr (Or.inr (Or.inr (Or.inl ⟨by omega, by omega, by omega⟩)))))) (by omega) (by omega) (by omega) (by omega) h79
              have h86 : 1 ≤ z80.toInt := by have e9 := h55.1 (by omega); omega
              refine En_Ps 1 (pc' := 75) (lv' := [(6, .int z74), (0, .ref 14), (1, .ref p), (2, .int a), (3, .int b), (4, .int c), (5, .int y18)]) (st' := [.int ((z74 + z80))]) rfl ?_
              refine En_top (addI rfl rfl (by first | exact q_2027e39019 h73.1 h81 | omega) (by first | exact q_66d03a076a h73.2.1 h82 | omega)) (fun z87 h88 => ?_)
              refine En_Ps 1 (pc' := 77) (lv' := [(7, .int z87), (6, .int z74), (0, .ref 14), (1, .ref p), (2, .int a), (3, .int b), (4, .int c), (5, .int y18)]) (st' := []) rfl ?_
              refine En_Ps 2 (pc' := 80) (lv' := [(7, .int z87), (6, .int z74), (0, .ref 14), (1, .ref p), (2, .int a), (3, .int b), (4, .int c), (5, .int y18)]) (st' := [.ref 14, .int z87]) rfl ?_
              refine En_getK (j := 4) h25 rfl rfl rfl tgz_14 (by decide +kernel) ?_
              refine En_icGt _ rfl rfl rfl (fun h89 => ?_) (fun h89 => ?_)
              · refine En_Ps 1 (pc' := 144) (lv' := [(5, .int ((y18 + Int32.ofInt 1))), (7, .int z87), (6, .int z74), (0, .ref 14), (1, .ref p), (2, .int a), (3, .int b), (4, .int c)]) (st' := []) rfl ?_
                refine En_lv1 (addI rfl (by decide : (Int32.ofInt 1).toInt = 1) (by first | exact q_465ab79ac1 h26 | omega) (by first | exact q_9a865ca0e4 h27 | omega)) (fun z90 h91 => ?_)
                refine En_Ps 1 (pc' := 24) (lv' := [(5, .int z90), (7, .int z87), (6, .int z74), (0, .ref 14), (1, .ref p), (2, .int a), (3, .int b), (4, .int c)]) (st' := []) rfl ?_
                refine En_lv (lv := [(0, .ref 14), (1, .ref p), (2, .int a), (3, .int b), (4, .int c), (5, .int z90)]) ⟨rfl, rfl, rfl, rfl, rfl, rfl, trivial⟩ ?_
                exact ih24 σ20 z90 y19 h21 h22 h23 h24 h25 (by first | exact q_35104ce9d3 h91 h26 | omega) (by first | exact q_c76cfd8d15 h91 h33 h4 | omega) (by first | exact q_58e6e51dcc h28 | omega) (by first | exact q_2a7c2c8d7c h29 | omega) (by first | exact q_8d03a5a7cb h91 h30 | omega) (PFI_l h31 h75 (ci_at (j := 3) h23 rfl) (by omega) (by omega) t85 (by omega) (by omega) (by omega) (by omega) (by omega)) ((by omega))
              · refine En_Ps 2 (pc' := 90) (lv' := [(7, .int z87), (6, .int z74), (0, .ref 14), (1, .ref p), (2, .int a), (3, .int b), (4, .int c), (5, .int y18)]) (st' := [.int (((Int8.ofInt 54).toInt32)), .int z87]) rfl ?_
                refine En_icGt _ rfl (by decide : ((Int8.ofInt 54).toInt32).toInt = 54) rfl (fun h92 => ?_) (fun h92 => ?_)
                · refine En_Ps 1 (pc' := 144) (lv' := [(5, .int ((y18 + Int32.ofInt 1))), (7, .int z87), (6, .int z74), (0, .ref 14), (1, .ref p), (2, .int a), (3, .int b), (4, .int c)]) (st' := []) rfl ?_
                  refine En_lv1 (addI rfl (by decide : (Int32.ofInt 1).toInt = 1) (by first | exact q_465ab79ac1 h26 | omega) (by first | exact q_9a865ca0e4 h27 | omega)) (fun z93 h94 => ?_)
                  refine En_Ps 1 (pc' := 24) (lv' := [(5, .int z93), (7, .int z87), (6, .int z74), (0, .ref 14), (1, .ref p), (2, .int a), (3, .int b), (4, .int c)]) (st' := []) rfl ?_
                  refine En_lv (lv := [(0, .ref 14), (1, .ref p), (2, .int a), (3, .int b), (4, .int c), (5, .int z93)]) ⟨rfl, rfl, rfl, rfl, rfl, rfl, trivial⟩ ?_
                  exact ih24 σ20 z93 y19 h21 h22 h23 h24 h25 (by first | exact q_35104ce9d3 h94 h26 | omega) (by first | exact q_c76cfd8d15 h94 h33 h4 | omega) (by first | exact q_58e6e51dcc h28 | omega) (by first | exact q_2a7c2c8d7c h29 | omega) (by first | exact q_8d03a5a7cb h94 h30 | omega) (PFI_l h31 h75 (ci_at (j := 3) h23 rfl) (by omega) (by omega) t85 (by omega) (by omega) (by omega) (by omega) (by omega)) ((by omega))
                · refine En_Ps 1 (pc' := 94) (lv' := [(7, .int z87), (6, .int z74), (0, .ref 14), (1, .ref p), (2, .int a), (3, .int b), (4, .int c), (5, .int y18)]) (st' := [.ref 14]) rfl ?_
                  refine En_getU (j := 1) (u := 16) (g' := 16) (q := 0) rfl rfl rfl tgz_14 (by decide +kernel) h21 (by decide +kernel) un_16_16 (fun h95 => ?_)
                  refine En_Ps 2 (pc' := 101) (lv' := [(7, .int z87), (6, .int z74), (0, .ref 14), (1, .ref p), (2, .int a), (3, .int b), (4, .int c), (5, .int y18)]) (st' := [.int z74, .int y18, .ref 16]) rfl ?_
                  refine En_iast (l := 0) (u := 54) rfl rfl tgz_16 (by decide +kernel) (by first | exact q_58e6e51dcc h26 | omega) (lnI (by decide +kernel : LN _ = 6) (by first | exact q_f252e21553 h33 h4 | omega)) (FTsgl (by decide +kernel)) (rngI rfl (by first | exact q_ef1e8e38bf h73.1 | omega) (by first | exact q_f1c8c7c399 h73.2.1 | omega)) h21 h22 (by decide +kernel) (fun σ97 h98 h99 h100 h101 => ?_)
                  have h102 := BSB_e (BSB_e hB h31.2.1) (fun x _ => ci_ne h101 (by decide) (x : Int) : BSS _ σ97)
                  refine En_Ps 4 (pc' := 108) (lv' := [(7, .int z87), (6, .int z74), (0, .ref 14), (1, .ref p), (2, .int a), (3, .int b), (4, .int c), (5, .int y18)]) (st' := [.int ((Int32.ofInt 1)), .int z87, .int z74, .ref 14]) rfl ?_
                  have := (by decide : ((Int32.ofInt 1)).toInt = 1)
                  refine En_callV rfl rfl rfl rfl rfl rfl rfl rfl tgz_14 (by decide +kernel) rfl (c_99x σ97 h98 z74 z87 ((Int32.ofInt 1)) (geI rfl (by first | exact q_ef1e8e38bf h73.1 | omega)) (leI rfl (by first | exact q_f1c8c7c399 h73.2.1 | omega)) (geI (by decide : (Int32.ofInt 1).toInt = 1) (by decide)) (leI (by decide : (Int32.ofInt 1).toInt = 1) (by decide)) (BSB_m h102 (by omega))) (by decide) (by decide) (fun v104 σ105 h103 => ?_)
                  obtain ⟨h106, h107, rfl, h108⟩ := h103
                  have h109 := h108
                  have h110 := Fr_trans h99 h107 (by decide +kernel)
                  refine En_Ps 5 (pc' := 116) (lv' := [(7, .int z87), (6, .int z74), (0, .ref 14), (1, .ref p), (2, .int a), (3, .int b), (4, .int c), (5, .int y18)]) (st' := [.int ((a + ((Int32.ofInt 1)))), .ref p, .ref 14]) rfl ?_
                  refine En_top (addI rfl (by decide : (Int32.ofInt 1).toInt = 1) (by first | exact q_4737848389 hl_a | omega) (by first | exact q_2918abfa70 h17 | omega)) (fun z111 h112 => ?_)
                  refine En_Ps 5 (pc' := 122) (lv' := [(7, .int z87), (6, .int z74), (0, .ref 14), (1, .ref p), (2, .int a), (3, .int b), (4, .int c), (5, .int y18)]) (st' := [.int ((b ||| ((Int32.ofInt 1) <<< (y18 &&& 31)))), .int z111, .ref p, .ref 14]) rfl ?_
                  refine En_nam (fun z113 h114 => ?_)
                  have h115 := or_small h114 rfl rfl (by omega) (by omega) (by omega) (by omega)
                  refine En_Ps 2 (pc' := 126) (lv' := [(7, .int z87), (6, .int z74), (0, .ref 14), (1, .ref p), (2, .int a), (3, .int b), (4, .int c), (5, .int y18)]) (st' := [.int z87, .int c, .int z113, .int z111, .ref p, .ref 14]) rfl ?_
                  refine En_callS rfl rfl rfl rfl rfl rfl rfl rfl rfl (c_10 σ105 h106 c z87) (by decide) (by decide) (fun v117 σ118 h116 => ?_)
                  obtain ⟨h119, h120, z122, rfl, h121⟩ := h116
                  obtain rfl : σ105 = σ118 := Fr_nil h120
                  refine En_callS rfl rfl rfl rfl rfl rfl rfl rfl rfl (c_96ax σ105 h106 p hp z111 z113 z122 (geI rfl (by first | exact q_dd9d8c1961 h112 hl_a | omega)) (leI rfl (by first | exact q_13d1e79bb8 h112 h17 | omega)) (geI rfl (by omega)) (leI rfl (by omega)) (geI rfl (by first | exact q_f062bc8aa8 h121.1 hl_c | omega)) (leI rfl (by omega)) y19 ((h107 _ _ (inW tgz_14 (by decide +kernel))).trans ((h101 _ _ (Or.inl (neTG tgz_14 tgz_16 (by decide)))).trans h25)) te ((h107 _ _ (inW tgz_14 (by decide +kernel))).trans ((h101 _ _ (Or.inl (neTG tgz_14 tgz_16 (by decide)))).trans h23)) hP (FXP_fr hP hX h110 (by decide +kernel)) (KN_fr hP hK h110 (by decide +kernel)) hN6 hc (BSB_w h102 h109 (by omega)) (PF_cnt hn (by omega) (by omega) h41 (by omega) (by omega) h115.1 (by omega))) (by decide) (by decide) (fun v124 σ125 h123 => ?_)
                  obtain ⟨h126, h127, z129, h130, rfl, h128⟩ := h123
                  have h131 := h128.2.2.2
                  have h132 := Fr_trans h110 h127 (by decide +kernel)
                  refine En_Ps 4 (pc' := 138) (lv' := [(7, .int z87), (6, .int z74), (0, .ref 14), (1, .ref p), (2, .int a), (3, .int b), (4, .int c), (5, .int y18)]) (st' := [.int ((Int32.ofInt (-1))), .int z87, .int z74, .ref 14]) rfl ?_
                  have := (by decide : ((Int32.ofInt (-1))).toInt = -1)
                  refine En_callV rfl rfl rfl rfl rfl rfl rfl rfl tgz_14 (by decide +kernel) rfl (c_99x σ125 h126 z74 z87 ((Int32.ofInt (-1))) (geI rfl (by first | exact q_ef1e8e38bf h73.1 | omega)) (leI rfl (by first | exact q_f1c8c7c399 h73.2.1 | omega)) (geI (by decide : (Int32.ofInt (-1)).toInt = -1) (by decide)) (leI (by decide : (Int32.ofInt (-1)).toInt = -1) (by decide)) (BSB_m (BSB_e (BSB_w (m := 7) h102 h109 (by omega)) h131.2.1) (by omega))) (by decide) (by decide) (fun v134 σ135 h133 => ?_)
                  obtain ⟨h136, h137, rfl, h138⟩ := h133
                  have h139 := h138
                  have h140 := Fr_trans h132 h137 (by decide +kernel)
                  refine En_Ps 1 (pc' := 144) (lv' := [(5, .int ((y18 + Int32.ofInt 1))), (7, .int z87), (6, .int z74), (0, .ref 14), (1, .ref p), (2, .int a), (3, .int b), (4, .int c)]) (st' := []) rfl ?_
                  refine En_lv1 (addI rfl (by decide : (Int32.ofInt 1).toInt = 1) (by first | exact q_465ab79ac1 h26 | omega) (by first | exact q_9a865ca0e4 h27 | omega)) (fun z141 h142 => ?_)
                  refine En_Ps 1 (pc' := 24) (lv' := [(5, .int z141), (7, .int z87), (6, .int z74), (0, .ref 14), (1, .ref p), (2, .int a), (3, .int b), (4, .int c)]) (st' := []) rfl ?_
                  refine En_lv (lv := [(0, .ref 14), (1, .ref p), (2, .int a), (3, .int b), (4, .int c), (5, .int z141)]) ⟨rfl, rfl, rfl, rfl, rfl, rfl, trivial⟩ ?_
                  exact ih24 σ135 z141 z129 h136 h140 ((h137 _ _ (inW tgz_14 (by decide +kernel))).trans ((h127 _ _ (inW tgz_14 (by decide +kernel))).trans ((h107 _ _ (inW tgz_14 (by decide +kernel))).trans ((h101 _ _ (Or.inl (neTG tgz_14 tgz_16 (by decide)))).trans h23)))) ((h137 _ _ (inW hp (by decide +kernel))).trans ((h127 _ _ (inW hp (by decide +kernel))).trans ((h107 _ _ (inW hp (by decide +kernel))).trans ((h101 _ _ (Or.inl (neTG hp tgz_16 (by decide)))).trans h24)))) ((h137 _ _ (inW tgz_14 (by decide +kernel))).trans h130) (by first | exact q_35104ce9d3 h142 h26 | omega) (by first | exact q_c76cfd8d15 h142 h33 h4 | omega) (by first | exact q_ef1e8e38bf h128.1 | omega) (by first | exact q_1a8f925876 h128.2.1 | omega) (by first | exact q_8d03a5a7cb h142 h30 | omega) (PFI_i (z := z60.toInt) h31 h75 (ci_at (j := 3) h23 rfl) (by omega) (by omega) (by omega) t85 (by omega) (by omega) (by omega) (by omega) (by omega) h41 (by omega) t54 (by omega) h56 (by omega) (by omega) hB h100 h101 (by omega) h109 h107 (by decide +kernel) h115.1 (by omega) (by omega) h131 h139 h137 (by decide +kernel) (by omega)) ((by omega))
    have := (by decide : (Int32.ofInt 0).toInt = 0)
    refine En_lv (lv := [(0, .ref 14), (1, .ref p), (2, .int a), (3, .int b), (4, .int c), (5, .int ((Int32.ofInt 0)))]) ⟨rfl, rfl, rfl, rfl, rfl, rfl, trivial⟩ ?_
    exact key24 (Int.toNat (z2.toInt) + 1) σ0 ((Int32.ofInt 0)) so hσ0 hF0 h_te h1 h_so (by decide) (by decide) (by first | exact q_58e6e51dcc hl_so | omega) (by first | exact q_2a7c2c8d7c hu_so | omega) (by first | exact toN_lt _ | omega) (PFI_0 (by omega) rfl) ((by omega))
/-- DoorSchool$Timetable.placeFrom(LDoorSchool$Timetable;LDoorSchool$Plan;III)V -/
abbrev P_96cx (σ0 : SG) (Wv : Int → Int) (p : Nat) (a : Int32) (b : Int32) (c : Int32) (so : Int32) (te : Int32) : PO := fun v σ => WT σ ∧ Fr [(14, 4), (15, 0), (16, 0), (17, 0)] σ0 σ ∧ ∃ so1 : Int32, (σ 14)[4]? = some (Value.int so1) ∧ v = none ∧ -so1.toInt ≤ 0 ∧ so1.toInt - 1000 ≤ 0 ∧ PFR Wv te.toInt σ0 σ b.toInt c.toInt so.toInt so1.toInt
set_option maxRecDepth 10000 in
set_option maxHeartbeats 4000000 in
theorem c_96cx {Wv : Int → Int} (σ0 : SG) (hσ0 : WT σ0) (p : Nat) (hp : TG p = 18) (a : Int32) (b : Int32) (c : Int32) (hl_a : 4 ≤ a.toInt) (hu_a : a.toInt ≤ 6) (hl_b : 0 ≤ b.toInt) (hu_b : b.toInt ≤ 63) (hl_c : 0 ≤ c.toInt) (hu_c : c.toInt ≤ 1000) (so : Int32) (h_so : (σ0 14)[4]? = some (Value.int so)) (te : Int32) (h_te : (σ0 14)[3]? = some (Value.int te)) (hP : PLA p) (hX : FXP σ0 p) (hK : KN σ0 p Wv (act Wv)) (hN6 : Wv 5 ≤ 6) (hc : CX Wv) (hB : BSB σ0 a.toInt) (hn : cnt b.toInt.toNat (Wv 5).toNat = a.toInt.toNat) : En 5 135 none mr_96 (P_96cx σ0 Wv p a b c so te) 0 [(0, .ref 14), (1, .ref p), (2, .int a), (3, .int b), (4, .int c)] [] σ0 := by
  obtain ⟨hl_so, hu_so⟩ := WT_int hσ0 (g := 14) (by decide +kernel) (by decide +kernel) (l := 0) (u := 1000) (by decide +kernel) h_so
  obtain ⟨hl_te, hu_te⟩ := WT_int hσ0 (g := 14) (by decide +kernel) (by decide +kernel) (l := (-1)) (u := 4) (by decide +kernel) h_te
  have hF0 : Fr [(14, 4), (15, 0), (16, 0), (17, 0)] σ0 σ0 := Fr_rfl
  refine En_Ps 2 (pc' := 2) (lv' := [(0, .ref 14), (1, .ref p), (2, .int a), (3, .int b), (4, .int c)]) (st' := [.ref p, .int a]) rfl ?_
  refine En_getI (j := 11) (l := 0) (u := 6) rfl rfl rfl hp (by decide +kernel) hσ0 (by decide +kernel) (fun z2 h1 h3 h4 => ?_)
  have t5 : Wv (5) = z2.toInt := KN_v hK (Or.inl (by decide)) (by decide) (by decide) (by rw [lcO_lt (by decide) (by decide), Nat.add_zero]) rfl h1
  refine En_icGe _ rfl rfl rfl (fun h6 => ?_) (fun h6 => ?_)
  · refine En_Ps 2 (pc' := 17) (lv' := [(0, .ref 14), (1, .ref p), (2, .int a), (3, .int b), (4, .int c)]) (st' := [.int c, .ref 14]) rfl ?_
    refine En_callV rfl rfl rfl rfl rfl rfl rfl rfl tgz_14 (by decide +kernel) rfl (c_95x σ0 hσ0 c (geI rfl (by first | exact q_58e6e51dcc hl_c | omega)) (leI rfl (by first | exact q_2a7c2c8d7c hu_c | omega)) so h_so) (by decide) (by decide) (fun v8 σ9 h7 => ?_)
    obtain ⟨h10, h11, z13, h14, rfl, h12⟩ := h7
    have h15 := h12.2.2.2
    have h16 := Fr_trans hF0 h11 (by decide +kernel)
    exact En_ret (v := none) rfl rfl rfl ⟨h10, h16, z13, h14, rfl, ⟨by first | exact q_a555021d16 h12.1 | omega, by first | exact q_1655d09eed h12.2.1 | omega, (by have e9 := h15; exact PFR_end hn (by omega) (BSS_fr h11 (by decide +kernel)) (BGS_fr h11 (by decide +kernel)) (by omega) (by omega) (by omega))⟩⟩
  · refine En_Ps 2 (pc' := 11) (lv' := [(0, .ref 14), (1, .ref p), (2, .int a), (3, .int b), (4, .int c)]) (st' := [.int (((Int8.ofInt 6).toInt32)), .int a]) rfl ?_
    refine En_icLt _ rfl (by decide : ((Int8.ofInt 6).toInt32).toInt = 6) rfl (fun h17 => ?_) (fun hx => by first | exact (q_071bc28013 hx h4 h6).elim | (exfalso; omega))
    refine En_Ps 2 (pc' := 24) (lv' := [(5, .int ((Int32.ofInt 0))), (0, .ref 14), (1, .ref p), (2, .int a), (3, .int b), (4, .int c)]) (st' := []) rfl ?_
    have key24 : ∀ (n24 : Nat) (σ20 : SG) (y18 : Int32) (y19 : Int32), WT σ20 → Fr [(14, 4), (15, 0), (16, 0), (17, 0)] σ0 σ20 → (σ20 14)[3]? = some (Value.int te) → (σ20 p)[11]? = some (Value.int z2) → (σ20 14)[4]? = some (Value.int y19) → 0 ≤ y18.toInt → y18.toInt ≤ 6 → 0 ≤ y19.toInt → y19.toInt ≤ 1000 → y18.toInt - z2.toInt ≤ 0 → z2.toInt - y18.toInt < (n24 : Int) → PFI Wv te.toInt σ0 σ20 b.toInt c.toInt y18.toInt so.toInt y19.toInt → y18.toInt ≤ Wv 5 → En 5 135 none mr_96 (P_96cx σ0 Wv p a b c so te) 24 [(0, .ref 14), (1, .ref p), (2, .int a), (3, .int b), (4, .int c), (5, .int y18)] [] σ20 := by
      intro n24
      induction n24 with
      | zero =>
        intro σ20 y18 y19 h21 h22 h23 h24 h25 h26 h27 h28 h29 h30 h31 h32 h33
        first | exact (q_14257feae7 h30 h31).elim | (exfalso; omega)
      | succ n24 ih24 =>
        intro σ20 y18 y19 h21 h22 h23 h24 h25 h26 h27 h28 h29 h30 h31 h32 h33
        refine En_Ps 2 (pc' := 27) (lv' := [(0, .ref 14), (1, .ref p), (2, .int a), (3, .int b), (4, .int c), (5, .int y18)]) (st' := [.ref p, .int y18]) rfl ?_
        refine En_getK (j := 11) h24 rfl rfl rfl hp (by decide +kernel) ?_
        refine En_icGe _ rfl rfl rfl (fun h34 => ?_) (fun h34 => ?_)
        · exact En_ret (v := none) rfl rfl rfl ⟨h21, h22, y19, h25, rfl, ⟨by first | exact q_c803b490ef h28 | omega, by first | exact q_4e46b9e1ab h29 | omega, PFR_of h32 hn (by omega) (by omega) (by omega)⟩⟩
        · refine En_Ps 2 (pc' := 36) (lv' := [(0, .ref 14), (1, .ref p), (2, .int a), (3, .int b), (4, .int c), (5, .int y18)]) (st' := [.int y18, .int b]) rfl ?_
          refine En_callS rfl rfl rfl rfl rfl rfl rfl rfl rfl (c_108ax σ20 h21 b y18 (geI rfl (by first | exact q_58e6e51dcc hl_b | omega)) (leI rfl (by first | exact q_442e014c00 hu_b | omega)) (geI rfl (by first | exact q_58e6e51dcc h26 | omega)) (leI rfl (by first | exact q_65989d2eba h27 | omega))) (by decide) (by decide) (fun v36 σ37 h35 => ?_)
          obtain ⟨h38, h39, z41, rfl, h40⟩ := h35
          have h42 := h40.2.2
          obtain rfl : σ20 = σ37 := Fr_nil h39
          refine En_iNe _ rfl rfl (fun h43 => ?_) (fun h43 => ?_)
          · refine En_Ps 1 (pc' := 144) (lv' := [(5, .int ((y18 + Int32.ofInt 1))), (0, .ref 14), (1, .ref p), (2, .int a), (3, .int b), (4, .int c)]) (st' := []) rfl ?_
            refine En_lv1 (addI rfl (by decide : (Int32.ofInt 1).toInt = 1) (by first | exact q_465ab79ac1 h26 | omega) (by first | exact q_9a865ca0e4 h27 | omega)) (fun z44 h45 => ?_)
            refine En_Ps 1 (pc' := 24) (lv' := [(5, .int z44), (0, .ref 14), (1, .ref p), (2, .int a), (3, .int b), (4, .int c)]) (st' := []) rfl ?_
            refine En_lv (lv := [(0, .ref 14), (1, .ref p), (2, .int a), (3, .int b), (4, .int c), (5, .int z44)]) ⟨rfl, rfl, rfl, rfl, rfl, rfl, trivial⟩ ?_
            exact ih24 σ20 z44 y19 h21 h22 h23 h24 h25 (by first | exact q_35104ce9d3 h45 h26 | omega) (by first | exact q_c76cfd8d15 h45 h34 h4 | omega) (by first | exact q_58e6e51dcc h28 | omega) (by first | exact q_2a7c2c8d7c h29 | omega) (by first | exact q_ae2dbf4292 h34 h45 | omega) (by first | exact q_8d03a5a7cb h45 h31 | omega) (PFI_b h32 (by omega) (by omega) h42 (by omega) (by omega)) ((by omega))
          · refine En_Ps 1 (pc' := 43) (lv' := [(0, .ref 14), (1, .ref p), (2, .int a), (3, .int b), (4, .int c), (5, .int y18)]) (st' := [.ref p]) rfl ?_
            refine En_getR (j := 13) (g' := 26) (u := 0) rfl rfl rfl hp (by decide +kernel) h21 (by decide +kernel) (fun a47 h46 ha47 => ?_)
            have t48 : a47 = p + 8 := ref_uniq h46 (FXP_fr hP hX h22 (by decide +kernel)).2.2.2.2.2.1
            refine En_Ps 1 (pc' := 48) (lv' := [(0, .ref 14), (1, .ref p), (2, .int a), (3, .int b), (4, .int c), (5, .int y18)]) (st' := [.int y18, .ref a47]) rfl ?_
            refine En_iald (l := 0) (u := 63) rfl rfl ha47 (by decide +kernel) h21 (by first | exact q_58e6e51dcc h26 | omega) (lnI (by decide +kernel : LN _ = 6) (by first | exact q_f252e21553 h34 h4 | omega)) (FTsgl (by decide +kernel)) (fun z50 h49 h51 h52 => ?_)
            have h53 : ci σ20 a47 (y18.toInt) = z50.toInt := ci_at h49 rfl
            have t54 := lc_c (m := y18.toInt) (by omega) (by omega)
            have t55 : Wv (155 + 2 * (y18.toInt)) = z50.toInt := KN_v (KN_fr hP hK h22 (by decide +kernel)) (Or.inr (Or.inr (Or.inr (Or.inr (Or.inr (Or.inl ⟨by omega, by omega, by omega⟩)))))) (by omega) (by omega) (by omega) (by omega) h49
            have h56 := hc y18.toInt (by omega) (by omega)
            have h57 : z50.toInt < pI y18.toInt := by have e9 := h56.2.2.1; omega
            refine En_Ps 3 (pc' := 52) (lv' := [(0, .ref 14), (1, .ref p), (2, .int a), (3, .int b), (4, .int c), (5, .int y18)]) (st' := [.int ((b ^^^ ((Int32.ofInt (-1))))), .int z50]) rfl ?_
            refine En_nam (fun z58 h59 => ?_)
            refine En_Ps 1 (pc' := 53) (lv' := [(0, .ref 14), (1, .ref p), (2, .int a), (3, .int b), (4, .int c), (5, .int y18)]) (st' := [.int ((z50 &&& z58))]) rfl ?_
            refine En_nam (fun z61 h62 => ?_)
            have h63 : z61.toInt = z50.toInt - aN z50.toInt b.toInt := andn_v h62 h59 rfl rfl (by omega) (by omega)
            have := aN_le (X := z50.toInt) (Y := b.toInt) (by omega) (by omega)
            refine En_iNe _ rfl rfl (fun h64 => ?_) (fun h64 => ?_)
            · refine En_Ps 1 (pc' := 144) (lv' := [(5, .int ((y18 + Int32.ofInt 1))), (0, .ref 14), (1, .ref p), (2, .int a), (3, .int b), (4, .int c)]) (st' := []) rfl ?_
              refine En_lv1 (addI rfl (by decide : (Int32.ofInt 1).toInt = 1) (by first | exact q_465ab79ac1 h26 | omega) (by first | exact q_9a865ca0e4 h27 | omega)) (fun z65 h66 => ?_)
              refine En_Ps 1 (pc' := 24) (lv' := [(5, .int z65), (0, .ref 14), (1, .ref p), (2, .int a), (3, .int b), (4, .int c)]) (st' := []) rfl ?_
              refine En_lv (lv := [(0, .ref 14), (1, .ref p), (2, .int a), (3, .int b), (4, .int c), (5, .int z65)]) ⟨rfl, rfl, rfl, rfl, rfl, rfl, trivial⟩ ?_
              exact ih24 σ20 z65 y19 h21 h22 h23 h24 h25 (by first | exact q_35104ce9d3 h66 h26 | omega) (by first | exact q_c76cfd8d15 h66 h34 h4 | omega) (by first | exact q_58e6e51dcc h28 | omega) (by first | exact q_2a7c2c8d7c h29 | omega) (by first | exact q_ae2dbf4292 h34 h66 | omega) (by first | exact q_8d03a5a7cb h66 h31 | omega) (PFI_n (z := z61.toInt) h32 (by omega) (by omega) t55 (by omega) h57 (by omega) (by omega) (by omega)) ((by omega))
            · obtain ⟨h67, h68⟩ := andn_zero h62 h59 h64 rfl rfl (by omega)
              refine En_Ps 3 (pc' := 60) (lv' := [(0, .ref 14), (1, .ref p), (2, .int a), (3, .int b), (4, .int c), (5, .int y18)]) (st' := [.int y18, .ref p, .ref 14]) rfl ?_
              refine En_callV rfl rfl rfl rfl rfl rfl rfl rfl tgz_14 (by decide +kernel) rfl (c_92x σ20 h21 p hp y18 (geI rfl (by first | exact q_58e6e51dcc h26 | omega)) (leI rfl (by first | exact q_2c6b8d4bd3 h34 h4 | omega)) te h23 hP (FXP_fr hP hX h22 (by decide +kernel)) (KN_fr hP hK h22 (by decide +kernel)) hN6 (by omega) hc (BSB_m (BSB_e hB h32.2.1) (by omega))) (by decide) (by decide) (fun v70 σ71 h69 => ?_)
              obtain ⟨h72, h73, z75, rfl, h74⟩ := h69
              have h76 := h74.2.2
              obtain rfl : σ20 = σ71 := Fr_nil h73
              refine En_Ps 3 (pc' := 68) (lv' := [(6, .int z75), (0, .ref 14), (1, .ref p), (2, .int a), (3, .int b), (4, .int c), (5, .int y18)]) (st' := [.ref p, .int z75]) rfl ?_
              refine En_getR (j := 12) (g' := 25) (u := 0) rfl rfl rfl hp (by decide +kernel) h21 (by decide +kernel) (fun a78 h77 ha78 => ?_)
              have t79 : a78 = p + 7 := ref_uniq h77 (FXP_fr hP hX h22 (by decide +kernel)).2.2.2.2.1
              refine En_Ps 1 (pc' := 73) (lv' := [(6, .int z75), (0, .ref 14), (1, .ref p), (2, .int a), (3, .int b), (4, .int c), (5, .int y18)]) (st' := [.int y18, .ref a78, .int z75]) rfl ?_
              refine En_iald (l := 0) (u := 9) rfl rfl ha78 (by decide +kernel) h21 (by first | exact q_58e6e51dcc h26 | omega) (lnI (by decide +kernel : LN _ = 6) (by first | exact q_f252e21553 h34 h4 | omega)) (FTsgl (by decide +kernel)) (fun z81 h80 h82 h83 => ?_)
              have h84 : ci σ20 a78 (y18.toInt) = z81.toInt := ci_at h80 rfl
              have t85 := lc_c (m := y18.toInt) (by omega) (by omega)
              have t86 : Wv (154 + 2 * (y18.toInt)) = z81.toInt := KN_v (KN_fr hP hK h22 (by decide +kernel)) (Or.inr (Or.inr (Or.inr (Or.inr (Or.inr (Or.inl ⟨by omega, by omega, by omega⟩)))))) (by omega) (by omega) (by omega) (by omega) h80
              have h87 : 1 ≤ z81.toInt := by have e9 := h56.1 (by omega); omega
              refine En_Ps 1 (pc' := 75) (lv' := [(6, .int z75), (0, .ref 14), (1, .ref p), (2, .int a), (3, .int b), (4, .int c), (5, .int y18)]) (st' := [.int ((z75 + z81))]) rfl ?_
              refine En_top (addI rfl rfl (by first | exact q_2027e39019 h74.1 h82 | omega) (by first | exact q_66d03a076a h74.2.1 h83 | omega)) (fun z88 h89 => ?_)
              refine En_Ps 1 (pc' := 77) (lv' := [(7, .int z88), (6, .int z75), (0, .ref 14), (1, .ref p), (2, .int a), (3, .int b), (4, .int c), (5, .int y18)]) (st' := []) rfl ?_
              refine En_Ps 2 (pc' := 80) (lv' := [(7, .int z88), (6, .int z75), (0, .ref 14), (1, .ref p), (2, .int a), (3, .int b), (4, .int c), (5, .int y18)]) (st' := [.ref 14, .int z88]) rfl ?_
              refine En_getK (j := 4) h25 rfl rfl rfl tgz_14 (by decide +kernel) ?_
              refine En_icGt _ rfl rfl rfl (fun h90 => ?_) (fun h90 => ?_)
              · refine En_Ps 1 (pc' := 144) (lv' := [(5, .int ((y18 + Int32.ofInt 1))), (7, .int z88), (6, .int z75), (0, .ref 14), (1, .ref p), (2, .int a), (3, .int b), (4, .int c)]) (st' := []) rfl ?_
                refine En_lv1 (addI rfl (by decide : (Int32.ofInt 1).toInt = 1) (by first | exact q_465ab79ac1 h26 | omega) (by first | exact q_9a865ca0e4 h27 | omega)) (fun z91 h92 => ?_)
                refine En_Ps 1 (pc' := 24) (lv' := [(5, .int z91), (7, .int z88), (6, .int z75), (0, .ref 14), (1, .ref p), (2, .int a), (3, .int b), (4, .int c)]) (st' := []) rfl ?_
                refine En_lv (lv := [(0, .ref 14), (1, .ref p), (2, .int a), (3, .int b), (4, .int c), (5, .int z91)]) ⟨rfl, rfl, rfl, rfl, rfl, rfl, trivial⟩ ?_
                exact ih24 σ20 z91 y19 h21 h22 h23 h24 h25 (by first | exact q_35104ce9d3 h92 h26 | omega) (by first | exact q_c76cfd8d15 h92 h34 h4 | omega) (by first | exact q_58e6e51dcc h28 | omega) (by first | exact q_2a7c2c8d7c h29 | omega) (by first | exact q_ae2dbf4292 h34 h92 | omega) (by first | exact q_8d03a5a7cb h92 h31 | omega) (PFI_l h32 h76 (ci_at (j := 3) h23 rfl) (by omega) (by omega) t86 (by omega) (by omega) (by omega) (by omega) (by omega)) ((by omega))
              · refine En_Ps 2 (pc' := 90) (lv' := [(7, .int z88), (6, .int z75), (0, .ref 14), (1, .ref p), (2, .int a), (3, .int b), (4, .int c), (5, .int y18)]) (st' := [.int (((Int8.ofInt 54).toInt32)), .int z88]) rfl ?_
                refine En_icGt _ rfl (by decide : ((Int8.ofInt 54).toInt32).toInt = 54) rfl (fun h93 => ?_) (fun h93 => ?_)
                · refine En_Ps 1 (pc' := 144) (lv' := [(5, .int ((y18 + Int32.ofInt 1))), (7, .int z88), (6, .int z75), (0, .ref 14), (1, .ref p), (2, .int a), (3, .int b), (4, .int c)]) (st' := []) rfl ?_
                  refine En_lv1 (addI rfl (by decide : (Int32.ofInt 1).toInt = 1) (by first | exact q_465ab79ac1 h26 | omega) (by first | exact q_9a865ca0e4 h27 | omega)) (fun z94 h95 => ?_)
                  refine En_Ps 1 (pc' := 24) (lv' := [(5, .int z94), (7, .int z88), (6, .int z75), (0, .ref 14), (1, .ref p), (2, .int a), (3, .int b), (4, .int c)]) (st' := []) rfl ?_
                  refine En_lv (lv := [(0, .ref 14), (1, .ref p), (2, .int a), (3, .int b), (4, .int c), (5, .int z94)]) ⟨rfl, rfl, rfl, rfl, rfl, rfl, trivial⟩ ?_
                  exact ih24 σ20 z94 y19 h21 h22 h23 h24 h25 (by first | exact q_35104ce9d3 h95 h26 | omega) (by first | exact q_c76cfd8d15 h95 h34 h4 | omega) (by first | exact q_58e6e51dcc h28 | omega) (by first | exact q_2a7c2c8d7c h29 | omega) (by first | exact q_ae2dbf4292 h34 h95 | omega) (by first | exact q_8d03a5a7cb h95 h31 | omega) (PFI_l h32 h76 (ci_at (j := 3) h23 rfl) (by omega) (by omega) t86 (by omega) (by omega) (by omega) (by omega) (by omega)) ((by omega))
                · refine En_Ps 1 (pc' := 94) (lv' := [(7, .int z88), (6, .int z75), (0, .ref 14), (1, .ref p), (2, .int a), (3, .int b), (4, .int c), (5, .int y18)]) (st' := [.ref 14]) rfl ?_
                  refine En_getU (j := 1) (u := 16) (g' := 16) (q := 0) rfl rfl rfl tgz_14 (by decide +kernel) h21 (by decide +kernel) un_16_16 (fun h96 => ?_)
                  refine En_Ps 2 (pc' := 101) (lv' := [(7, .int z88), (6, .int z75), (0, .ref 14), (1, .ref p), (2, .int a), (3, .int b), (4, .int c), (5, .int y18)]) (st' := [.int z75, .int y18, .ref 16]) rfl ?_
                  refine En_iast (l := 0) (u := 54) rfl rfl tgz_16 (by decide +kernel) (by first | exact q_58e6e51dcc h26 | omega) (lnI (by decide +kernel : LN _ = 6) (by first | exact q_f252e21553 h34 h4 | omega)) (FTsgl (by decide +kernel)) (rngI rfl (by first | exact q_ef1e8e38bf h74.1 | omega) (by first | exact q_f1c8c7c399 h74.2.1 | omega)) h21 h22 (by decide +kernel) (fun σ98 h99 h100 h101 h102 => ?_)
                  have h103 := BSB_e (BSB_e hB h32.2.1) (fun x _ => ci_ne h102 (by decide) (x : Int) : BSS _ σ98)
                  refine En_Ps 4 (pc' := 108) (lv' := [(7, .int z88), (6, .int z75), (0, .ref 14), (1, .ref p), (2, .int a), (3, .int b), (4, .int c), (5, .int y18)]) (st' := [.int ((Int32.ofInt 1)), .int z88, .int z75, .ref 14]) rfl ?_
                  have := (by decide : ((Int32.ofInt 1)).toInt = 1)
                  refine En_callV rfl rfl rfl rfl rfl rfl rfl rfl tgz_14 (by decide +kernel) rfl (c_99x σ98 h99 z75 z88 ((Int32.ofInt 1)) (geI rfl (by first | exact q_ef1e8e38bf h74.1 | omega)) (leI rfl (by first | exact q_f1c8c7c399 h74.2.1 | omega)) (geI (by decide : (Int32.ofInt 1).toInt = 1) (by decide)) (leI (by decide : (Int32.ofInt 1).toInt = 1) (by decide)) (BSB_m h103 (by omega))) (by decide) (by decide) (fun v105 σ106 h104 => ?_)
                  obtain ⟨h107, h108, rfl, h109⟩ := h104
                  have h110 := h109
                  have h111 := Fr_trans h100 h108 (by decide +kernel)
                  refine En_Ps 5 (pc' := 116) (lv' := [(7, .int z88), (6, .int z75), (0, .ref 14), (1, .ref p), (2, .int a), (3, .int b), (4, .int c), (5, .int y18)]) (st' := [.int ((a + ((Int32.ofInt 1)))), .ref p, .ref 14]) rfl ?_
                  refine En_top (addI rfl (by decide : (Int32.ofInt 1).toInt = 1) (by first | exact q_85d77b4496 hl_a | omega) (by first | exact q_2918abfa70 h17 | omega)) (fun z112 h113 => ?_)
                  refine En_Ps 5 (pc' := 122) (lv' := [(7, .int z88), (6, .int z75), (0, .ref 14), (1, .ref p), (2, .int a), (3, .int b), (4, .int c), (5, .int y18)]) (st' := [.int ((b ||| ((Int32.ofInt 1) <<< (y18 &&& 31)))), .int z112, .ref p, .ref 14]) rfl ?_
                  refine En_nam (fun z114 h115 => ?_)
                  have h116 := or_small h115 rfl rfl (by omega) (by omega) (by omega) (by omega)
                  refine En_Ps 2 (pc' := 126) (lv' := [(7, .int z88), (6, .int z75), (0, .ref 14), (1, .ref p), (2, .int a), (3, .int b), (4, .int c), (5, .int y18)]) (st' := [.int z88, .int c, .int z114, .int z112, .ref p, .ref 14]) rfl ?_
                  refine En_callS rfl rfl rfl rfl rfl rfl rfl rfl rfl (c_10 σ106 h107 c z88) (by decide) (by decide) (fun v118 σ119 h117 => ?_)
                  obtain ⟨h120, h121, z123, rfl, h122⟩ := h117
                  obtain rfl : σ106 = σ119 := Fr_nil h121
                  refine En_callS rfl rfl rfl rfl rfl rfl rfl rfl rfl (c_96bx σ106 h107 p hp z112 z114 z123 (geI rfl (by first | exact q_c90b6e32f1 h113 hl_a | omega)) (leI rfl (by first | exact q_13d1e79bb8 h113 h17 | omega)) (geI rfl (by omega)) (leI rfl (by omega)) (geI rfl (by first | exact q_f062bc8aa8 h122.1 hl_c | omega)) (leI rfl (by omega)) y19 ((h108 _ _ (inW tgz_14 (by decide +kernel))).trans ((h102 _ _ (Or.inl (neTG tgz_14 tgz_16 (by decide)))).trans h25)) te ((h108 _ _ (inW tgz_14 (by decide +kernel))).trans ((h102 _ _ (Or.inl (neTG tgz_14 tgz_16 (by decide)))).trans h23)) hP (FXP_fr hP hX h111 (by decide +kernel)) (KN_fr hP hK h111 (by decide +kernel)) hN6 hc (BSB_w h103 h110 (by omega)) (PF_cnt hn (by omega) (by omega) h42 (by omega) (by omega) h116.1 (by omega))) (by decide) (by decide) (fun v125 σ126 h124 => ?_)
                  obtain ⟨h127, h128, z130, h131, rfl, h129⟩ := h124
                  have h132 := h129.2.2
                  have h133 := Fr_trans h111 h128 (by decide +kernel)
                  refine En_Ps 4 (pc' := 138) (lv' := [(7, .int z88), (6, .int z75), (0, .ref 14), (1, .ref p), (2, .int a), (3, .int b), (4, .int c), (5, .int y18)]) (st' := [.int ((Int32.ofInt (-1))), .int z88, .int z75, .ref 14]) rfl ?_
                  have := (by decide : ((Int32.ofInt (-1))).toInt = -1)
                  refine En_callV rfl rfl rfl rfl rfl rfl rfl rfl tgz_14 (by decide +kernel) rfl (c_99x σ126 h127 z75 z88 ((Int32.ofInt (-1))) (geI rfl (by first | exact q_ef1e8e38bf h74.1 | omega)) (leI rfl (by first | exact q_f1c8c7c399 h74.2.1 | omega)) (geI (by decide : (Int32.ofInt (-1)).toInt = -1) (by decide)) (leI (by decide : (Int32.ofInt (-1)).toInt = -1) (by decide)) (BSB_m (BSB_e (BSB_w (m := 7) h103 h110 (by omega)) h132.2.1) (by omega))) (by decide) (by decide) (fun v135 σ136 h134 => ?_)
                  obtain ⟨h137, h138, rfl, h139⟩ := h134
                  have h140 := h139
                  have h141 := Fr_trans h133 h138 (by decide +kernel)
                  refine En_Ps 1 (pc' := 144) (lv' := [(5, .int ((y18 + Int32.ofInt 1))), (7, .int z88), (6, .int z75), (0, .ref 14), (1, .ref p), (2, .int a), (3, .int b), (4, .int c)]) (st' := []) rfl ?_
                  refine En_lv1 (addI rfl (by decide : (Int32.ofInt 1).toInt = 1) (by first | exact q_465ab79ac1 h26 | omega) (by first | exact q_9a865ca0e4 h27 | omega)) (fun z142 h143 => ?_)
                  refine En_Ps 1 (pc' := 24) (lv' := [(5, .int z142), (7, .int z88), (6, .int z75), (0, .ref 14), (1, .ref p), (2, .int a), (3, .int b), (4, .int c)]) (st' := []) rfl ?_
                  refine En_lv (lv := [(0, .ref 14), (1, .ref p), (2, .int a), (3, .int b), (4, .int c), (5, .int z142)]) ⟨rfl, rfl, rfl, rfl, rfl, rfl, trivial⟩ ?_
                  exact ih24 σ136 z142 z130 h137 h141 ((h138 _ _ (inW tgz_14 (by decide +kernel))).trans ((h128 _ _ (inW tgz_14 (by decide +kernel))).trans ((h108 _ _ (inW tgz_14 (by decide +kernel))).trans ((h102 _ _ (Or.inl (neTG tgz_14 tgz_16 (by decide)))).trans h23)))) ((h138 _ _ (inW hp (by decide +kernel))).trans ((h128 _ _ (inW hp (by decide +kernel))).trans ((h108 _ _ (inW hp (by decide +kernel))).trans ((h102 _ _ (Or.inl (neTG hp tgz_16 (by decide)))).trans h24)))) ((h138 _ _ (inW tgz_14 (by decide +kernel))).trans h131) (by first | exact q_35104ce9d3 h143 h26 | omega) (by first | exact q_c76cfd8d15 h143 h34 h4 | omega) (by first | exact q_ef1e8e38bf h129.1 | omega) (by first | exact q_1a8f925876 h129.2.1 | omega) (by first | exact q_ae2dbf4292 h34 h143 | omega) (by first | exact q_8d03a5a7cb h143 h31 | omega) (PFI_i (z := z61.toInt) h32 h76 (ci_at (j := 3) h23 rfl) (by omega) (by omega) (by omega) t86 (by omega) (by omega) (by omega) (by omega) (by omega) h42 (by omega) t55 (by omega) h57 (by omega) (by omega) hB h101 h102 (by omega) h110 h108 (by decide +kernel) h116.1 (by omega) (by omega) h132 h140 h138 (by decide +kernel) (by omega)) ((by omega))
    have := (by decide : (Int32.ofInt 0).toInt = 0)
    refine En_lv (lv := [(0, .ref 14), (1, .ref p), (2, .int a), (3, .int b), (4, .int c), (5, .int ((Int32.ofInt 0)))]) ⟨rfl, rfl, rfl, rfl, rfl, rfl, trivial⟩ ?_
    exact key24 (Int.toNat (z2.toInt) + 1) σ0 ((Int32.ofInt 0)) so hσ0 hF0 h_te h1 h_so (by decide) (by decide) (by first | exact q_58e6e51dcc hl_so | omega) (by first | exact q_2a7c2c8d7c hu_so | omega) (by omega) (by first | exact toN_lt _ | omega) (PFI_0 (by omega) rfl) ((by omega))
end
/-! 32.n07 -/
section
/-- DoorSchool$Timetable.placeFrom(LDoorSchool$Timetable;LDoorSchool$Plan;III)V -/
abbrev P_96dx (σ0 : SG) (Wv : Int → Int) (p : Nat) (a : Int32) (b : Int32) (c : Int32) (so : Int32) (te : Int32) : PO := fun v σ => WT σ ∧ Fr [(14, 4), (15, 0), (16, 0), (17, 0)] σ0 σ ∧ ∃ so1 : Int32, (σ 14)[4]? = some (Value.int so1) ∧ v = none ∧ -so1.toInt ≤ 0 ∧ so1.toInt - 1000 ≤ 0 ∧ PFR Wv te.toInt σ0 σ b.toInt c.toInt so.toInt so1.toInt
set_option maxRecDepth 10000 in
set_option maxHeartbeats 4000000 in
theorem c_96dx {Wv : Int → Int} (σ0 : SG) (hσ0 : WT σ0) (p : Nat) (hp : TG p = 18) (a : Int32) (b : Int32) (c : Int32) (hl_a : 3 ≤ a.toInt) (hu_a : a.toInt ≤ 6) (hl_b : 0 ≤ b.toInt) (hu_b : b.toInt ≤ 63) (hl_c : 0 ≤ c.toInt) (hu_c : c.toInt ≤ 1000) (so : Int32) (h_so : (σ0 14)[4]? = some (Value.int so)) (te : Int32) (h_te : (σ0 14)[3]? = some (Value.int te)) (hP : PLA p) (hX : FXP σ0 p) (hK : KN σ0 p Wv (act Wv)) (hN6 : Wv 5 ≤ 6) (hc : CX Wv) (hB : BSB σ0 a.toInt) (hn : cnt b.toInt.toNat (Wv 5).toNat = a.toInt.toNat) : En 6 162 none mr_96 (P_96dx σ0 Wv p a b c so te) 0 [(0, .ref 14), (1, .ref p), (2, .int a), (3, .int b), (4, .int c)] [] σ0 := by
  obtain ⟨hl_so, hu_so⟩ := WT_int hσ0 (g := 14) (by decide +kernel) (by decide +kernel) (l := 0) (u := 1000) (by decide +kernel) h_so
  obtain ⟨hl_te, hu_te⟩ := WT_int hσ0 (g := 14) (by decide +kernel) (by decide +kernel) (l := (-1)) (u := 4) (by decide +kernel) h_te
  have hF0 : Fr [(14, 4), (15, 0), (16, 0), (17, 0)] σ0 σ0 := Fr_rfl
  refine En_Ps 2 (pc' := 2) (lv' := [(0, .ref 14), (1, .ref p), (2, .int a), (3, .int b), (4, .int c)]) (st' := [.ref p, .int a]) rfl ?_
  refine En_getI (j := 11) (l := 0) (u := 6) rfl rfl rfl hp (by decide +kernel) hσ0 (by decide +kernel) (fun z2 h1 h3 h4 => ?_)
  have t5 : Wv (5) = z2.toInt := KN_v hK (Or.inl (by decide)) (by decide) (by decide) (by rw [lcO_lt (by decide) (by decide), Nat.add_zero]) rfl h1
  refine En_icGe _ rfl rfl rfl (fun h6 => ?_) (fun h6 => ?_)
  · refine En_Ps 2 (pc' := 17) (lv' := [(0, .ref 14), (1, .ref p), (2, .int a), (3, .int b), (4, .int c)]) (st' := [.int c, .ref 14]) rfl ?_
    refine En_callV rfl rfl rfl rfl rfl rfl rfl rfl tgz_14 (by decide +kernel) rfl (c_95x σ0 hσ0 c (geI rfl (by first | exact q_58e6e51dcc hl_c | omega)) (leI rfl (by first | exact q_2a7c2c8d7c hu_c | omega)) so h_so) (by decide) (by decide) (fun v8 σ9 h7 => ?_)
    obtain ⟨h10, h11, z13, h14, rfl, h12⟩ := h7
    have h15 := h12.2.2.2
    have h16 := Fr_trans hF0 h11 (by decide +kernel)
    exact En_ret (v := none) rfl rfl rfl ⟨h10, h16, z13, h14, rfl, ⟨by first | exact q_a555021d16 h12.1 | omega, by first | exact q_1655d09eed h12.2.1 | omega, (by have e9 := h15; exact PFR_end hn (by omega) (BSS_fr h11 (by decide +kernel)) (BGS_fr h11 (by decide +kernel)) (by omega) (by omega) (by omega))⟩⟩
  · refine En_Ps 2 (pc' := 11) (lv' := [(0, .ref 14), (1, .ref p), (2, .int a), (3, .int b), (4, .int c)]) (st' := [.int (((Int8.ofInt 6).toInt32)), .int a]) rfl ?_
    refine En_icLt _ rfl (by decide : ((Int8.ofInt 6).toInt32).toInt = 6) rfl (fun h17 => ?_) (fun hx => by first | exact (q_071bc28013 hx h4 h6).elim | (exfalso; omega))
    refine En_Ps 2 (pc' := 24) (lv' := [(5, .int ((Int32.ofInt 0))), (0, .ref 14), (1, .ref p), (2, .int a), (3, .int b), (4, .int c)]) (st' := []) rfl ?_
    have key24 : ∀ (n24 : Nat) (σ20 : SG) (y18 : Int32) (y19 : Int32), WT σ20 → Fr [(14, 4), (15, 0), (16, 0), (17, 0)] σ0 σ20 → (σ20 14)[3]? = some (Value.int te) → (σ20 p)[11]? = some (Value.int z2) → (σ20 14)[4]? = some (Value.int y19) → 0 ≤ y18.toInt → y18.toInt ≤ 6 → 0 ≤ y19.toInt → y19.toInt ≤ 1000 → y18.toInt - z2.toInt ≤ 0 → z2.toInt - y18.toInt < (n24 : Int) → PFI Wv te.toInt σ0 σ20 b.toInt c.toInt y18.toInt so.toInt y19.toInt → y18.toInt ≤ Wv 5 → En 6 162 none mr_96 (P_96dx σ0 Wv p a b c so te) 24 [(0, .ref 14), (1, .ref p), (2, .int a), (3, .int b), (4, .int c), (5, .int y18)] [] σ20 := by
      intro n24
      induction n24 with
      | zero =>
        intro σ20 y18 y19 h21 h22 h23 h24 h25 h26 h27 h28 h29 h30 h31 h32 h33
        first | exact (q_14257feae7 h30 h31).elim | (exfalso; omega)
      | succ n24 ih24 =>
        intro σ20 y18 y19 h21 h22 h23 h24 h25 h26 h27 h28 h29 h30 h31 h32 h33
        refine En_Ps 2 (pc' := 27) (lv' := [(0, .ref 14), (1, .ref p), (2, .int a), (3, .int b), (4, .int c), (5, .int y18)]) (st' := [.ref p, .int y18]) rfl ?_
        refine En_getK (j := 11) h24 rfl rfl rfl hp (by decide +kernel) ?_
        refine En_icGe _ rfl rfl rfl (fun h34 => ?_) (fun h34 => ?_)
        · exact En_ret (v := none) rfl rfl rfl ⟨h21, h22, y19, h25, rfl, ⟨by first | exact q_c803b490ef h28 | omega, by first | exact q_4e46b9e1ab h29 | omega, PFR_of h32 hn (by omega) (by omega) (by omega)⟩⟩
        · refine En_Ps 2 (pc' := 36) (lv' := [(0, .ref 14), (1, .ref p), (2, .int a), (3, .int b), (4, .int c), (5, .int y18)]) (st' := [.int y18, .int b]) rfl ?_
          refine En_callS rfl rfl rfl rfl rfl rfl rfl rfl rfl (c_108ax σ20 h21 b y18 (geI rfl (by first | exact q_58e6e51dcc hl_b | omega)) (leI rfl (by first | exact q_442e014c00 hu_b | omega)) (geI rfl (by first | exact q_58e6e51dcc h26 | omega)) (leI rfl (by first | exact q_65989d2eba h27 | omega))) (by decide) (by decide) (fun v36 σ37 h35 => ?_)
          obtain ⟨h38, h39, z41, rfl, h40⟩ := h35
          have h42 := h40.2.2
          obtain rfl : σ20 = σ37 := Fr_nil h39
          refine En_iNe _ rfl rfl (fun h43 => ?_) (fun h43 => ?_)
          · refine En_Ps 1 (pc' := 144) (lv' := [(5, .int ((y18 + Int32.ofInt 1))), (0, .ref 14), (1, .ref p), (2, .int a), (3, .int b), (4, .int c)]) (st' := []) rfl ?_
            refine En_lv1 (addI rfl (by decide : (Int32.ofInt 1).toInt = 1) (by first | exact q_465ab79ac1 h26 | omega) (by first | exact q_9a865ca0e4 h27 | omega)) (fun z44 h45 => ?_)
            refine En_Ps 1 (pc' := 24) (lv' := [(5, .int z44), (0, .ref 14), (1, .ref p), (2, .int a), (3, .int b), (4, .int c)]) (st' := []) rfl ?_
            refine En_lv (lv := [(0, .ref 14), (1, .ref p), (2, .int a), (3, .int b), (4, .int c), (5, .int z44)]) ⟨rfl, rfl, rfl, rfl, rfl, rfl, trivial⟩ ?_
            exact ih24 σ20 z44 y19 h21 h22 h23 h24 h25 (by first | exact q_35104ce9d3 h45 h26 | omega) (by first | exact q_c76cfd8d15 h45 h34 h4 | omega) (by first | exact q_58e6e51dcc h28 | omega) (by first | exact q_2a7c2c8d7c h29 | omega) (by first | exact q_ae2dbf4292 h34 h45 | omega) (by first | exact q_8d03a5a7cb h45 h31 | omega) (PFI_b h32 (by omega) (by omega) h42 (by omega) (by omega)) ((by omega))
          · refine En_Ps 1 (pc' := 43) (lv' := [(0, .ref 14), (1, .ref p), (2, .int a), (3, .int b), (4, .int c), (5, .int y18)]) (st' := [.ref p]) rfl ?_
            refine En_getR (j := 13) (g' := 26) (u := 0) rfl rfl rfl hp (by decide +kernel) h21 (by decide +kernel) (fun a47 h46 ha47 => ?_)
            have t48 : a47 = p + 8 := ref_uniq h46 (FXP_fr hP hX h22 (by decide +kernel)).2.2.2.2.2.1
            refine En_Ps 1 (pc' := 48) (lv' := [(0, .ref 14), (1, .ref p), (2, .int a), (3, .int b), (4, .int c), (5, .int y18)]) (st' := [.int y18, .ref a47]) rfl ?_
            refine En_iald (l := 0) (u := 63) rfl rfl ha47 (by decide +kernel) h21 (by first | exact q_58e6e51dcc h26 | omega) (lnI (by decide +kernel : LN _ = 6) (by first | exact q_f252e21553 h34 h4 | omega)) (FTsgl (by decide +kernel)) (fun z50 h49 h51 h52 => ?_)
            have h53 : ci σ20 a47 (y18.toInt) = z50.toInt := ci_at h49 rfl
            have t54 := lc_c (m := y18.toInt) (by omega) (by omega)
            have t55 : Wv (155 + 2 * (y18.toInt)) = z50.toInt := KN_v (KN_fr hP hK h22 (by decide +kernel)) (Or.inr (Or.inr (Or.inr (Or.inr (Or.inr (Or.inl ⟨by omega, by omega, by omega⟩)))))) (by omega) (by omega) (by omega) (by omega) h49
            have h56 := hc y18.toInt (by omega) (by omega)
            have h57 : z50.toInt < pI y18.toInt := by have e9 := h56.2.2.1; omega
            refine En_Ps 3 (pc' := 52) (lv' := [(0, .ref 14), (1, .ref p), (2, .int a), (3, .int b), (4, .int c), (5, .int y18)]) (st' := [.int ((b ^^^ ((Int32.ofInt (-1))))), .int z50]) rfl ?_
            refine En_nam (fun z58 h59 => ?_)
            refine En_Ps 1 (pc' := 53) (lv' := [(0, .ref 14), (1, .ref p), (2, .int a), (3, .int b), (4, .int c), (5, .int y18)]) (st' := [.int ((z50 &&& z58))]) rfl ?_
            refine En_nam (fun z61 h62 => ?_)
            have h63 : z61.toInt = z50.toInt - aN z50.toInt b.toInt := andn_v h62 h59 rfl rfl (by omega) (by omega)
            have := aN_le (X := z50.toInt) (Y := b.toInt) (by omega) (by omega)
            refine En_iNe _ rfl rfl (fun h64 => ?_) (fun h64 => ?_)
            · refine En_Ps 1 (pc' := 144) (lv' := [(5, .int ((y18 + Int32.ofInt 1))), (0, .ref 14), (1, .ref p), (2, .int a), (3, .int b), (4, .int c)]) (st' := []) rfl ?_
              refine En_lv1 (addI rfl (by decide : (Int32.ofInt 1).toInt = 1) (by first | exact q_465ab79ac1 h26 | omega) (by first | exact q_9a865ca0e4 h27 | omega)) (fun z65 h66 => ?_)
              refine En_Ps 1 (pc' := 24) (lv' := [(5, .int z65), (0, .ref 14), (1, .ref p), (2, .int a), (3, .int b), (4, .int c)]) (st' := []) rfl ?_
              refine En_lv (lv := [(0, .ref 14), (1, .ref p), (2, .int a), (3, .int b), (4, .int c), (5, .int z65)]) ⟨rfl, rfl, rfl, rfl, rfl, rfl, trivial⟩ ?_
              exact ih24 σ20 z65 y19 h21 h22 h23 h24 h25 (by first | exact q_35104ce9d3 h66 h26 | omega) (by first | exact q_c76cfd8d15 h66 h34 h4 | omega) (by first | exact q_58e6e51dcc h28 | omega) (by first | exact q_2a7c2c8d7c h29 | omega) (by first | exact q_ae2dbf4292 h34 h66 | omega) (by first | exact q_8d03a5a7cb h66 h31 | omega) (PFI_n (z := z61.toInt) h32 (by omega) (by omega) t55 (by omega) h57 (by omega) (by omega) (by omega)) ((by omega))
            · obtain ⟨h67, h68⟩ := andn_zero h62 h59 h64 rfl rfl (by omega)
              refine En_Ps 3 (pc' := 60) (lv' := [(0, .ref 14), (1, .ref p), (2, .int a), (3, .int b), (4, .int c), (5, .int y18)]) (st' := [.int y18, .ref p, .ref 14]) rfl ?_
              refine En_callV rfl rfl rfl rfl rfl rfl rfl rfl tgz_14 (by decide +kernel) rfl (c_92x σ20 h21 p hp y18 (geI rfl (by first | exact q_58e6e51dcc h26 | omega)) (leI rfl (by first | exact q_2c6b8d4bd3 h34 h4 | omega)) te h23 hP (FXP_fr hP hX h22 (by decide +kernel)) (KN_fr hP hK h22 (by decide +kernel)) hN6 (by omega) hc (BSB_m (BSB_e hB h32.2.1) (by omega))) (by decide) (by decide) (fun v70 σ71 h69 => ?_)
              obtain ⟨h72, h73, z75, rfl, h74⟩ := h69
              have h76 := h74.2.2
              obtain rfl : σ20 = σ71 := Fr_nil h73
              refine En_Ps 3 (pc' := 68) (lv' := [(6, .int z75), (0, .ref 14), (1, .ref p), (2, .int a), (3, .int b), (4, .int c), (5, .int y18)]) (st' := [.ref p, .int z75]) rfl ?_
              refine En_getR (j := 12) (g' := 25) (u := 0) rfl rfl rfl hp (by decide +kernel) h21 (by decide +kernel) (fun a78 h77 ha78 => ?_)
              have t79 : a78 = p + 7 := ref_uniq h77 (FXP_fr hP hX h22 (by decide +kernel)).2.2.2.2.1
              refine En_Ps 1 (pc' := 73) (lv' := [(6, .int z75), (0, .ref 14), (1, .ref p), (2, .int a), (3, .int b), (4, .int c), (5, .int y18)]) (st' := [.int y18, .ref a78, .int z75]) rfl ?_
              refine En_iald (l := 0) (u := 9) rfl rfl ha78 (by decide +kernel) h21 (by first | exact q_58e6e51dcc h26 | omega) (lnI (by decide +kernel : LN _ = 6) (by first | exact q_f252e21553 h34 h4 | omega)) (FTsgl (by decide +kernel)) (fun z81 h80 h82 h83 => ?_)
              have h84 : ci σ20 a78 (y18.toInt) = z81.toInt := ci_at h80 rfl
              have t85 := lc_c (m := y18.toInt) (by omega) (by omega)
              have t86 : Wv (154 + 2 * (y18.toInt)) = z81.toInt := KN_v (KN_fr hP hK h22 (by decide +kernel)) (Or.inr (Or.inr (Or.inr (Or.inr (Or.inr (Or.inl ⟨by omega, by omega, by omega⟩)))))) (by omega) (by omega) (by omega) (by omega) h80
              have h87 : 1 ≤ z81.toInt := by have e9 := h56.1 (by omega); omega
              refine En_Ps 1 (pc' := 75) (lv' := [(6, .int z75), (0, .ref 14), (1, .ref p), (2, .int a), (3, .int b), (4, .int c), (5, .int y18)]) (st' := [.int ((z75 + z81))]) rfl ?_
              refine En_top (addI rfl rfl (by first | exact q_2027e39019 h74.1 h82 | omega) (by first | exact q_66d03a076a h74.2.1 h83 | omega)) (fun z88 h89 => ?_)
              refine En_Ps 1 (pc' := 77) (lv' := [(7, .int z88), (6, .int z75), (0, .ref 14), (1, .ref p), (2, .int a), (3, .int b), (4, .int c), (5, .int y18)]) (st' := []) rfl ?_
              refine En_Ps 2 (pc' := 80) (lv' := [(7, .int z88), (6, .int z75), (0, .ref 14), (1, .ref p), (2, .int a), (3, .int b), (4, .int c), (5, .int y18)]) (st' := [.ref 14, .int z88]) rfl ?_
              refine En_getK (j := 4) h25 rfl rfl rfl tgz_14 (by decide +kernel) ?_
              refine En_icGt _ rfl rfl rfl (fun h90 => ?_) (fun h90 => ?_)
              · refine En_Ps 1 (pc' := 144) (lv' := [(5, .int ((y18 + Int32.ofInt 1))), (7, .int z88), (6, .int z75), (0, .ref 14), (1, .ref p), (2, .int a), (3, .int b), (4, .int c)]) (st' := []) rfl ?_
                refine En_lv1 (addI rfl (by decide : (Int32.ofInt 1).toInt = 1) (by first | exact q_465ab79ac1 h26 | omega) (by first | exact q_9a865ca0e4 h27 | omega)) (fun z91 h92 => ?_)
                refine En_Ps 1 (pc' := 24) (lv' := [(5, .int z91), (7, .int z88), (6, .int z75), (0, .ref 14), (1, .ref p), (2, .int a), (3, .int b), (4, .int c)]) (st' := []) rfl ?_
                refine En_lv (lv := [(0, .ref 14), (1, .ref p), (2, .int a), (3, .int b), (4, .int c), (5, .int z91)]) ⟨rfl, rfl, rfl, rfl, rfl, rfl, trivial⟩ ?_
                exact ih24 σ20 z91 y19 h21 h22 h23 h24 h25 (by first | exact q_35104ce9d3 h92 h26 | omega) (by first | exact q_c76cfd8d15 h92 h34 h4 | omega) (by first | exact q_58e6e51dcc h28 | omega) (by first | exact q_2a7c2c8d7c h29 | omega) (by first | exact q_ae2dbf4292 h34 h92 | omega) (by first | exact q_8d03a5a7cb h92 h31 | omega) (PFI_l h32 h76 (ci_at (j := 3) h23 rfl) (by omega) (by omega) t86 (by omega) (by omega) (by omega) (by omega) (by omega)) ((by omega))
              · refine En_Ps 2 (pc' := 90) (lv' := [(7, .int z88), (6, .int z75), (0, .ref 14), (1, .ref p), (2, .int a), (3, .int b), (4, .int c), (5, .int y18)]) (st' := [.int (((Int8.ofInt 54).toInt32)), .int z88]) rfl ?_
                refine En_icGt _ rfl (by decide : ((Int8.ofInt 54).toInt32).toInt = 54) rfl (fun h93 => ?_) (fun h93 => ?_)
                · refine En_Ps 1 (pc' := 144) (lv' := [(5, .int ((y18 + Int32.ofInt 1))), (7, .int z88), (6, .int z75), (0, .ref 14), (1, .ref p), (2, .int a), (3, .int b), (4, .int c)]) (st' := []) rfl ?_
                  refine En_lv1 (addI rfl (by decide : (Int32.ofInt 1).toInt = 1) (by first | exact q_465ab79ac1 h26 | omega) (by first | exact q_9a865ca0e4 h27 | omega)) (fun z94 h95 => ?_)
                  refine En_Ps 1 (pc' := 24) (lv' := [(5, .int z94), (7, .int z88), (6, .int z75), (0, .ref 14), (1, .ref p), (2, .int a), (3, .int b), (4, .int c)]) (st' := []) rfl ?_
                  refine En_lv (lv := [(0, .ref 14), (1, .ref p), (2, .int a), (3, .int b), (4, .int c), (5, .int z94)]) ⟨rfl, rfl, rfl, rfl, rfl, rfl, trivial⟩ ?_
                  exact ih24 σ20 z94 y19 h21 h22 h23 h24 h25 (by first | exact q_35104ce9d3 h95 h26 | omega) (by first | exact q_c76cfd8d15 h95 h34 h4 | omega) (by first | exact q_58e6e51dcc h28 | omega) (by first | exact q_2a7c2c8d7c h29 | omega) (by first | exact q_ae2dbf4292 h34 h95 | omega) (by first | exact q_8d03a5a7cb h95 h31 | omega) (PFI_l h32 h76 (ci_at (j := 3) h23 rfl) (by omega) (by omega) t86 (by omega) (by omega) (by omega) (by omega) (by omega)) ((by omega))
                · refine En_Ps 1 (pc' := 94) (lv' := [(7, .int z88), (6, .int z75), (0, .ref 14), (1, .ref p), (2, .int a), (3, .int b), (4, .int c), (5, .int y18)]) (st' := [.ref 14]) rfl ?_
                  refine En_getU (j := 1) (u := 16) (g' := 16) (q := 0) rfl rfl rfl tgz_14 (by decide +kernel) h21 (by decide +kernel) un_16_16 (fun h96 => ?_)
                  refine En_Ps 2 (pc' := 101) (lv' := [(7, .int z88), (6, .int z75), (0, .ref 14), (1, .ref p), (2, .int a), (3, .int b), (4, .int c), (5, .int y18)]) (st' := [.int z75, .int y18, .ref 16]) rfl ?_
                  refine En_iast (l := 0) (u := 54) rfl rfl tgz_16 (by decide +kernel) (by first | exact q_58e6e51dcc h26 | omega) (lnI (by decide +kernel : LN _ = 6) (by first | exact q_f252e21553 h34 h4 | omega)) (FTsgl (by decide +kernel)) (rngI rfl (by first | exact q_ef1e8e38bf h74.1 | omega) (by first | exact q_f1c8c7c399 h74.2.1 | omega)) h21 h22 (by decide +kernel) (fun σ98 h99 h100 h101 h102 => ?_)
                  have h103 := BSB_e (BSB_e hB h32.2.1) (fun x _ => ci_ne h102 (by decide) (x : Int) : BSS _ σ98)
                  refine En_Ps 4 (pc' := 108) (lv' := [(7, .int z88), (6, .int z75), (0, .ref 14), (1, .ref p), (2, .int a), (3, .int b), (4, .int c), (5, .int y18)]) (st' := [.int ((Int32.ofInt 1)), .int z88, .int z75, .ref 14]) rfl ?_
                  have := (by decide : ((Int32.ofInt 1)).toInt = 1)
                  refine En_callV rfl rfl rfl rfl rfl rfl rfl rfl tgz_14 (by decide +kernel) rfl (c_99x σ98 h99 z75 z88 ((Int32.ofInt 1)) (geI rfl (by first | exact q_ef1e8e38bf h74.1 | omega)) (leI rfl (by first | exact q_f1c8c7c399 h74.2.1 | omega)) (geI (by decide : (Int32.ofInt 1).toInt = 1) (by decide)) (leI (by decide : (Int32.ofInt 1).toInt = 1) (by decide)) (BSB_m h103 (by omega))) (by decide) (by decide) (fun v105 σ106 h104 => ?_)
                  obtain ⟨h107, h108, rfl, h109⟩ := h104
                  have h110 := h109
                  have h111 := Fr_trans h100 h108 (by decide +kernel)
                  refine En_Ps 5 (pc' := 116) (lv' := [(7, .int z88), (6, .int z75), (0, .ref 14), (1, .ref p), (2, .int a), (3, .int b), (4, .int c), (5, .int y18)]) (st' := [.int ((a + ((Int32.ofInt 1)))), .ref p, .ref 14]) rfl ?_
                  refine En_top (addI rfl (by decide : (Int32.ofInt 1).toInt = 1) (by first | exact q_d115ba6b9f hl_a | omega) (by first | exact q_2918abfa70 h17 | omega)) (fun z112 h113 => ?_)
                  refine En_Ps 5 (pc' := 122) (lv' := [(7, .int z88), (6, .int z75), (0, .ref 14), (1, .ref p), (2, .int a), (3, .int b), (4, .int c), (5, .int y18)]) (st' := [.int ((b ||| ((Int32.ofInt 1) <<< (y18 &&& 31)))), .int z112, .ref p, .ref 14]) rfl ?_
                  refine En_nam (fun z114 h115 => ?_)
                  have h116 := or_small h115 rfl rfl (by omega) (by omega) (by omega) (by omega)
                  refine En_Ps 2 (pc' := 126) (lv' := [(7, .int z88), (6, .int z75), (0, .ref 14), (1, .ref p), (2, .int a), (3, .int b), (4, .int c), (5, .int y18)]) (st' := [.int z88, .int c, .int z114, .int z112, .ref p, .ref 14]) rfl ?_
                  refine En_callS rfl rfl rfl rfl rfl rfl rfl rfl rfl (c_10 σ106 h107 c z88) (by decide) (by decide) (fun v118 σ119 h117 => ?_)
                  obtain ⟨h120, h121, z123, rfl, h122⟩ := h117
                  obtain rfl : σ106 = σ119 := Fr_nil h121
                  refine En_callS rfl rfl rfl rfl rfl rfl rfl rfl rfl (c_96cx σ106 h107 p hp z112 z114 z123 (geI rfl (by first | exact q_aa5623a688 h113 hl_a | omega)) (leI rfl (by first | exact q_13d1e79bb8 h113 h17 | omega)) (geI rfl (by omega)) (leI rfl (by omega)) (geI rfl (by first | exact q_f062bc8aa8 h122.1 hl_c | omega)) (leI rfl (by omega)) y19 ((h108 _ _ (inW tgz_14 (by decide +kernel))).trans ((h102 _ _ (Or.inl (neTG tgz_14 tgz_16 (by decide)))).trans h25)) te ((h108 _ _ (inW tgz_14 (by decide +kernel))).trans ((h102 _ _ (Or.inl (neTG tgz_14 tgz_16 (by decide)))).trans h23)) hP (FXP_fr hP hX h111 (by decide +kernel)) (KN_fr hP hK h111 (by decide +kernel)) hN6 hc (BSB_w h103 h110 (by omega)) (PF_cnt hn (by omega) (by omega) h42 (by omega) (by omega) h116.1 (by omega))) (by decide) (by decide) (fun v125 σ126 h124 => ?_)
                  obtain ⟨h127, h128, z130, h131, rfl, h129⟩ := h124
                  have h132 := h129.2.2
                  have h133 := Fr_trans h111 h128 (by decide +kernel)
                  refine En_Ps 4 (pc' := 138) (lv' := [(7, .int z88), (6, .int z75), (0, .ref 14), (1, .ref p), (2, .int a), (3, .int b), (4, .int c), (5, .int y18)]) (st' := [.int ((Int32.ofInt (-1))), .int z88, .int z75, .ref 14]) rfl ?_
                  have := (by decide : ((Int32.ofInt (-1))).toInt = -1)
                  refine En_callV rfl rfl rfl rfl rfl rfl rfl rfl tgz_14 (by decide +kernel) rfl (c_99x σ126 h127 z75 z88 ((Int32.ofInt (-1))) (geI rfl (by first | exact q_ef1e8e38bf h74.1 | omega)) (leI rfl (by first | exact q_f1c8c7c399 h74.2.1 | omega)) (geI (by decide : (Int32.ofInt (-1)).toInt = -1) (by decide)) (leI (by decide : (Int32.ofInt (-1)).toInt = -1) (by decide)) (BSB_m (BSB_e (BSB_w (m := 7) h103 h110 (by omega)) h132.2.1) (by omega))) (by decide) (by decide) (fun v135 σ136 h134 => ?_)
                  obtain ⟨h137, h138, rfl, h139⟩ := h134
                  have h140 := h139
                  have h141 := Fr_trans h133 h138 (by decide +kernel)
                  refine En_Ps 1 (pc' := 144) (lv' := [(5, .int ((y18 + Int32.ofInt 1))), (7, .int z88), (6, .int z75), (0, .ref 14), (1, .ref p), (2, .int a), (3, .int b), (4, .int c)]) (st' := []) rfl ?_
                  refine En_lv1 (addI rfl (by decide : (Int32.ofInt 1).toInt = 1) (by first | exact q_465ab79ac1 h26 | omega) (by first | exact q_9a865ca0e4 h27 | omega)) (fun z142 h143 => ?_)
                  refine En_Ps 1 (pc' := 24) (lv' := [(5, .int z142), (7, .int z88), (6, .int z75), (0, .ref 14), (1, .ref p), (2, .int a), (3, .int b), (4, .int c)]) (st' := []) rfl ?_
                  refine En_lv (lv := [(0, .ref 14), (1, .ref p), (2, .int a), (3, .int b), (4, .int c), (5, .int z142)]) ⟨rfl, rfl, rfl, rfl, rfl, rfl, trivial⟩ ?_
                  exact ih24 σ136 z142 z130 h137 h141 ((h138 _ _ (inW tgz_14 (by decide +kernel))).trans ((h128 _ _ (inW tgz_14 (by decide +kernel))).trans ((h108 _ _ (inW tgz_14 (by decide +kernel))).trans ((h102 _ _ (Or.inl (neTG tgz_14 tgz_16 (by decide)))).trans h23)))) ((h138 _ _ (inW hp (by decide +kernel))).trans ((h128 _ _ (inW hp (by decide +kernel))).trans ((h108 _ _ (inW hp (by decide +kernel))).trans ((h102 _ _ (Or.inl (neTG hp tgz_16 (by decide)))).trans h24)))) ((h138 _ _ (inW tgz_14 (by decide +kernel))).trans h131) (by first | exact q_35104ce9d3 h143 h26 | omega) (by first | exact q_c76cfd8d15 h143 h34 h4 | omega) (by first | exact q_ef1e8e38bf h129.1 | omega) (by first | exact q_1a8f925876 h129.2.1 | omega) (by first | exact q_ae2dbf4292 h34 h143 | omega) (by first | exact q_8d03a5a7cb h143 h31 | omega) (PFI_i (z := z61.toInt) h32 h76 (ci_at (j := 3) h23 rfl) (by omega) (by omega) (by omega) t86 (by omega) (by omega) (by omega) (by omega) (by omega) h42 (by omega) t55 (by omega) h57 (by omega) (by omega) hB h101 h102 (by omega) h110 h108 (by decide +kernel) h116.1 (by omega) (by omega) h132 h140 h138 (by decide +kernel) (by omega)) ((by omega))
    have := (by decide : (Int32.ofInt 0).toInt = 0)
    refine En_lv (lv := [(0, .ref 14), (1, .ref p), (2, .int a), (3, .int b), (4, .int c), (5, .int ((Int32.ofInt 0)))]) ⟨rfl, rfl, rfl, rfl, rfl, rfl, trivial⟩ ?_
    exact key24 (Int.toNat (z2.toInt) + 1) σ0 ((Int32.ofInt 0)) so hσ0 hF0 h_te h1 h_so (by decide) (by decide) (by first | exact q_58e6e51dcc hl_so | omega) (by first | exact q_2a7c2c8d7c hu_so | omega) (by omega) (by first | exact toN_lt _ | omega) (PFI_0 (by omega) rfl) ((by omega))
/-- DoorSchool$Timetable.placeFrom(LDoorSchool$Timetable;LDoorSchool$Plan;III)V -/
abbrev P_96ex (σ0 : SG) (Wv : Int → Int) (p : Nat) (a : Int32) (b : Int32) (c : Int32) (so : Int32) (te : Int32) : PO := fun v σ => WT σ ∧ Fr [(14, 4), (15, 0), (16, 0), (17, 0)] σ0 σ ∧ ∃ so1 : Int32, (σ 14)[4]? = some (Value.int so1) ∧ v = none ∧ -so1.toInt ≤ 0 ∧ so1.toInt - 1000 ≤ 0 ∧ PFR Wv te.toInt σ0 σ b.toInt c.toInt so.toInt so1.toInt
set_option maxRecDepth 10000 in
set_option maxHeartbeats 4000000 in
theorem c_96ex {Wv : Int → Int} (σ0 : SG) (hσ0 : WT σ0) (p : Nat) (hp : TG p = 18) (a : Int32) (b : Int32) (c : Int32) (hl_a : 2 ≤ a.toInt) (hu_a : a.toInt ≤ 6) (hl_b : 0 ≤ b.toInt) (hu_b : b.toInt ≤ 63) (hl_c : 0 ≤ c.toInt) (hu_c : c.toInt ≤ 1000) (so : Int32) (h_so : (σ0 14)[4]? = some (Value.int so)) (te : Int32) (h_te : (σ0 14)[3]? = some (Value.int te)) (hP : PLA p) (hX : FXP σ0 p) (hK : KN σ0 p Wv (act Wv)) (hN6 : Wv 5 ≤ 6) (hc : CX Wv) (hB : BSB σ0 a.toInt) (hn : cnt b.toInt.toNat (Wv 5).toNat = a.toInt.toNat) : En 7 189 none mr_96 (P_96ex σ0 Wv p a b c so te) 0 [(0, .ref 14), (1, .ref p), (2, .int a), (3, .int b), (4, .int c)] [] σ0 := by
  obtain ⟨hl_so, hu_so⟩ := WT_int hσ0 (g := 14) (by decide +kernel) (by decide +kernel) (l := 0) (u := 1000) (by decide +kernel) h_so
  obtain ⟨hl_te, hu_te⟩ := WT_int hσ0 (g := 14) (by decide +kernel) (by decide +kernel) (l := (-1)) (u := 4) (by decide +kernel) h_te
  have hF0 : Fr [(14, 4), (15, 0), (16, 0), (17, 0)] σ0 σ0 := Fr_rfl
  refine En_Ps 2 (pc' := 2) (lv' := [(0, .ref 14), (1, .ref p), (2, .int a), (3, .int b), (4, .int c)]) (st' := [.ref p, .int a]) rfl ?_
  refine En_getI (j := 11) (l := 0) (u := 6) rfl rfl rfl hp (by decide +kernel) hσ0 (by decide +kernel) (fun z2 h1 h3 h4 => ?_)
  have t5 : Wv (5) = z2.toInt := KN_v hK (Or.inl (by decide)) (by decide) (by decide) (by rw [lcO_lt (by decide) (by decide), Nat.add_zero]) rfl h1
  refine En_icGe _ rfl rfl rfl (fun h6 => ?_) (fun h6 => ?_)
  · refine En_Ps 2 (pc' := 17) (lv' := [(0, .ref 14), (1, .ref p), (2, .int a), (3, .int b), (4, .int c)]) (st' := [.int c, .ref 14]) rfl ?_
    refine En_callV rfl rfl rfl rfl rfl rfl rfl rfl tgz_14 (by decide +kernel) rfl (c_95x σ0 hσ0 c (geI rfl (by first | exact q_58e6e51dcc hl_c | omega)) (leI rfl (by first | exact q_2a7c2c8d7c hu_c | omega)) so h_so) (by decide) (by decide) (fun v8 σ9 h7 => ?_)
    obtain ⟨h10, h11, z13, h14, rfl, h12⟩ := h7
    have h15 := h12.2.2.2
    have h16 := Fr_trans hF0 h11 (by decide +kernel)
    exact En_ret (v := none) rfl rfl rfl ⟨h10, h16, z13, h14, rfl, ⟨by first | exact q_a555021d16 h12.1 | omega, by first | exact q_1655d09eed h12.2.1 | omega, (by have e9 := h15; exact PFR_end hn (by omega) (BSS_fr h11 (by decide +kernel)) (BGS_fr h11 (by decide +kernel)) (by omega) (by omega) (by omega))⟩⟩
  · refine En_Ps 2 (pc' := 11) (lv' := [(0, .ref 14), (1, .ref p), (2, .int a), (3, .int b), (4, .int c)]) (st' := [.int (((Int8.ofInt 6).toInt32)), .int a]) rfl ?_
    refine En_icLt _ rfl (by decide : ((Int8.ofInt 6).toInt32).toInt = 6) rfl (fun h17 => ?_) (fun hx => by first | exact (q_071bc28013 hx h4 h6).elim | (exfalso; omega))
    refine En_Ps 2 (pc' := 24) (lv' := [(5, .int ((Int32.ofInt 0))), (0, .ref 14), (1, .ref p), (2, .int a), (3, .int b), (4, .int c)]) (st' := []) rfl ?_
    have key24 : ∀ (n24 : Nat) (σ20 : SG) (y18 : Int32) (y19 : Int32), WT σ20 → Fr [(14, 4), (15, 0), (16, 0), (17, 0)] σ0 σ20 → (σ20 14)[3]? = some (Value.int te) → (σ20 p)[11]? = some (Value.int z2) → (σ20 14)[4]? = some (Value.int y19) → 0 ≤ y18.toInt → y18.toInt ≤ 6 → 0 ≤ y19.toInt → y19.toInt ≤ 1000 → y18.toInt - z2.toInt ≤ 0 → z2.toInt - y18.toInt < (n24 : Int) → PFI Wv te.toInt σ0 σ20 b.toInt c.toInt y18.toInt so.toInt y19.toInt → y18.toInt ≤ Wv 5 → En 7 189 none mr_96 (P_96ex σ0 Wv p a b c so te) 24 [(0, .ref 14), (1, .ref p), (2, .int a), (3, .int b), (4, .int c), (5, .int y18)] [] σ20 := by
      intro n24
      induction n24 with
      | zero =>
        intro σ20 y18 y19 h21 h22 h23 h24 h25 h26 h27 h28 h29 h30 h31 h32 h33
        first | exact (q_14257feae7 h30 h31).elim | (exfalso; omega)
      | succ n24 ih24 =>
        intro σ20 y18 y19 h21 h22 h23 h24 h25 h26 h27 h28 h29 h30 h31 h32 h33
        refine En_Ps 2 (pc' := 27) (lv' := [(0, .ref 14), (1, .ref p), (2, .int a), (3, .int b), (4, .int c), (5, .int y18)]) (st' := [.ref p, .int y18]) rfl ?_
        refine En_getK (j := 11) h24 rfl rfl rfl hp (by decide +kernel) ?_
        refine En_icGe _ rfl rfl rfl (fun h34 => ?_) (fun h34 => ?_)
        · exact En_ret (v := none) rfl rfl rfl ⟨h21, h22, y19, h25, rfl, ⟨by first | exact q_c803b490ef h28 | omega, by first | exact q_4e46b9e1ab h29 | omega, PFR_of h32 hn (by omega) (by omega) (by omega)⟩⟩
        · refine En_Ps 2 (pc' := 36) (lv' := [(0, .ref 14), (1, .ref p), (2, .int a), (3, .int b), (4, .int c), (5, .int y18)]) (st' := [.int y18, .int b]) rfl ?_
          refine En_callS rfl rfl rfl rfl rfl rfl rfl rfl rfl (c_108ax σ20 h21 b y18 (geI rfl (by first | exact q_58e6e51dcc hl_b | omega)) (leI rfl (by first | exact q_442e014c00 hu_b | omega)) (geI rfl (by first | exact q_58e6e51dcc h26 | omega)) (leI rfl (by first | exact q_65989d2eba h27 | omega))) (by decide) (by decide) (fun v36 σ37 h35 => ?_)
          obtain ⟨h38, h39, z41, rfl, h40⟩ := h35
          have h42 := h40.2.2
          obtain rfl : σ20 = σ37 := Fr_nil h39
          refine En_iNe _ rfl rfl (fun h43 => ?_) (fun h43 => ?_)
          · refine En_Ps 1 (pc' := 144) (lv' := [(5, .int ((y18 + Int32.ofInt 1))), (0, .ref 14), (1, .ref p), (2, .int a), (3, .int b), (4, .int c)]) (st' := []) rfl ?_
            refine En_lv1 (addI rfl (by decide : (Int32.ofInt 1).toInt = 1) (by first | exact q_465ab79ac1 h26 | omega) (by first | exact q_9a865ca0e4 h27 | omega)) (fun z44 h45 => ?_)
            refine En_Ps 1 (pc' := 24) (lv' := [(5, .int z44), (0, .ref 14), (1, .ref p), (2, .int a), (3, .int b), (4, .int c)]) (st' := []) rfl ?_
            refine En_lv (lv := [(0, .ref 14), (1, .ref p), (2, .int a), (3, .int b), (4, .int c), (5, .int z44)]) ⟨rfl, rfl, rfl, rfl, rfl, rfl, trivial⟩ ?_
            exact ih24 σ20 z44 y19 h21 h22 h23 h24 h25 (by first | exact q_35104ce9d3 h45 h26 | omega) (by first | exact q_c76cfd8d15 h45 h34 h4 | omega) (by first | exact q_58e6e51dcc h28 | omega) (by first | exact q_2a7c2c8d7c h29 | omega) (by first | exact q_ae2dbf4292 h34 h45 | omega) (by first | exact q_8d03a5a7cb h45 h31 | omega) (PFI_b h32 (by omega) (by omega) h42 (by omega) (by omega)) ((by omega))
          · refine En_Ps 1 (pc' := 43) (lv' := [(0, .ref 14), (1, .ref p), (2, .int a), (3, .int b), (4, .int c), (5, .int y18)]) (st' := [.ref p]) rfl ?_
            refine En_getR (j := 13) (g' := 26) (u := 0) rfl rfl rfl hp (by decide +kernel) h21 (by decide +kernel) (fun a47 h46 ha47 => ?_)
            have t48 : a47 = p + 8 := ref_uniq h46 (FXP_fr hP hX h22 (by decide +kernel)).2.2.2.2.2.1
            refine En_Ps 1 (pc' := 48) (lv' := [(0, .ref 14), (1, .ref p), (2, .int a), (3, .int b), (4, .int c), (5, .int y18)]) (st' := [.int y18, .ref a47]) rfl ?_
            refine En_iald (l := 0) (u := 63) rfl rfl ha47 (by decide +kernel) h21 (by first | exact q_58e6e51dcc h26 | omega) (lnI (by decide +kernel : LN _ = 6) (by first | exact q_f252e21553 h34 h4 | omega)) (FTsgl (by decide +kernel)) (fun z50 h49 h51 h52 => ?_)
            have h53 : ci σ20 a47 (y18.toInt) = z50.toInt := ci_at h49 rfl
            have t54 := lc_c (m := y18.toInt) (by omega) (by omega)
            have t55 : Wv (155 + 2 * (y18.toInt)) = z50.toInt := KN_v (KN_fr hP hK h22 (by decide +kernel)) (Or.inr (Or.inr (Or.inr (Or.inr (Or.inr (Or.inl ⟨by omega, by omega, by omega⟩)))))) (by omega) (by omega) (by omega) (by omega) h49
            have h56 := hc y18.toInt (by omega) (by omega)
            have h57 : z50.toInt < pI y18.toInt := by have e9 := h56.2.2.1; omega
            refine En_Ps 3 (pc' := 52) (lv' := [(0, .ref 14), (1, .ref p), (2, .int a), (3, .int b), (4, .int c), (5, .int y18)]) (st' := [.int ((b ^^^ ((Int32.ofInt (-1))))), .int z50]) rfl ?_
            refine En_nam (fun z58 h59 => ?_)
            refine En_Ps 1 (pc' := 53) (lv' := [(0, .ref 14), (1, .ref p), (2, .int a), (3, .int b), (4, .int c), (5, .int y18)]) (st' := [.int ((z50 &&& z58))]) rfl ?_
            refine En_nam (fun z61 h62 => ?_)
            have h63 : z61.toInt = z50.toInt - aN z50.toInt b.toInt := andn_v h62 h59 rfl rfl (by omega) (by omega)
            have := aN_le (X := z50.toInt) (Y := b.toInt) (by omega) (by omega)
            refine En_iNe _ rfl rfl (fun h64 => ?_) (fun h64 => ?_)
            · refine En_Ps 1 (pc' := 144) (lv' := [(5, .int ((y18 + Int32.ofInt 1))), (0, .ref 14), (1, .ref p), (2, .int a), (3, .int b), (4, .int c)]) (st' := []) rfl ?_
              refine En_lv1 (addI rfl (by decide : (Int32.ofInt 1).toInt = 1) (by first | exact q_465ab79ac1 h26 | omega) (by first | exact q_9a865ca0e4 h27 | omega)) (fun z65 h66 => ?_)
              refine En_Ps 1 (pc' := 24) (lv' := [(5, .int z65), (0, .ref 14), (1, .ref p), (2, .int a), (3, .int b), (4, .int c)]) (st' := []) rfl ?_
              refine En_lv (lv := [(0, .ref 14), (1, .ref p), (2, .int a), (3, .int b), (4, .int c), (5, .int z65)]) ⟨rfl, rfl, rfl, rfl, rfl, rfl, trivial⟩ ?_
              exact ih24 σ20 z65 y19 h21 h22 h23 h24 h25 (by first | exact q_35104ce9d3 h66 h26 | omega) (by first | exact q_c76cfd8d15 h66 h34 h4 | omega) (by first | exact q_58e6e51dcc h28 | omega) (by first | exact q_2a7c2c8d7c h29 | omega) (by first | exact q_ae2dbf4292 h34 h66 | omega) (by first | exact q_8d03a5a7cb h66 h31 | omega) (PFI_n (z := z61.toInt) h32 (by omega) (by omega) t55 (by omega) h57 (by omega) (by omega) (by omega)) ((by omega))
            · obtain ⟨h67, h68⟩ := andn_zero h62 h59 h64 rfl rfl (by omega)
              refine En_Ps 3 (pc' := 60) (lv' := [(0, .ref 14), (1, .ref p), (2, .int a), (3, .int b), (4, .int c), (5, .int y18)]) (st' := [.int y18, .ref p, .ref 14]) rfl ?_
              refine En_callV rfl rfl rfl rfl rfl rfl rfl rfl tgz_14 (by decide +kernel) rfl (c_92x σ20 h21 p hp y18 (geI rfl (by first | exact q_58e6e51dcc h26 | omega)) (leI rfl (by first | exact q_2c6b8d4bd3 h34 h4 | omega)) te h23 hP (FXP_fr hP hX h22 (by decide +kernel)) (KN_fr hP hK h22 (by decide +kernel)) hN6 (by omega) hc (BSB_m (BSB_e hB h32.2.1) (by omega))) (by decide) (by decide) (fun v70 σ71 h69 => ?_)
              obtain ⟨h72, h73, z75, rfl, h74⟩ := h69
              have h76 := h74.2.2
              obtain rfl : σ20 = σ71 := Fr_nil h73
              refine En_Ps 3 (pc' := 68) (lv' := [(6, .int z75), (0, .ref 14), (1, .ref p), (2, .int a), (3, .int b), (4, .int c), (5, .int y18)]) (st' := [.ref p, .int z75]) rfl ?_
              refine En_getR (j := 12) (g' := 25) (u := 0) rfl rfl rfl hp (by decide +kernel) h21 (by decide +kernel) (fun a78 h77 ha78 => ?_)
              have t79 : a78 = p + 7 := ref_uniq h77 (FXP_fr hP hX h22 (by decide +kernel)).2.2.2.2.1
              refine En_Ps 1 (pc' := 73) (lv' := [(6, .int z75), (0, .ref 14), (1, .ref p), (2, .int a), (3, .int b), (4, .int c), (5, .int y18)]) (st' := [.int y18, .ref a78, .int z75]) rfl ?_
              refine En_iald (l := 0) (u := 9) rfl rfl ha78 (by decide +kernel) h21 (by first | exact q_58e6e51dcc h26 | omega) (lnI (by decide +kernel : LN _ = 6) (by first | exact q_f252e21553 h34 h4 | omega)) (FTsgl (by decide +kernel)) (fun z81 h80 h82 h83 => ?_)
              have h84 : ci σ20 a78 (y18.toInt) = z81.toInt := ci_at h80 rfl
              have t85 := lc_c (m := y18.toInt) (by omega) (by omega)
              have t86 : Wv (154 + 2 * (y18.toInt)) = z81.toInt := KN_v (KN_fr hP hK h22 (by decide +kernel)) (Or.inr (Or.inr (Or.inr (Or.inr (Or.inr (Or.inl ⟨by omega, by omega, by omega⟩)))))) (by omega) (by omega) (by omega) (by omega) h80
              have h87 : 1 ≤ z81.toInt := by have e9 := h56.1 (by omega); omega
              refine En_Ps 1 (pc' := 75) (lv' := [(6, .int z75), (0, .ref 14), (1, .ref p), (2, .int a), (3, .int b), (4, .int c), (5, .int y18)]) (st' := [.int ((z75 + z81))]) rfl ?_
              refine En_top (addI rfl rfl (by first | exact q_2027e39019 h74.1 h82 | omega) (by first | exact q_66d03a076a h74.2.1 h83 | omega)) (fun z88 h89 => ?_)
              refine En_Ps 1 (pc' := 77) (lv' := [(7, .int z88), (6, .int z75), (0, .ref 14), (1, .ref p), (2, .int a), (3, .int b), (4, .int c), (5, .int y18)]) (st' := []) rfl ?_
              refine En_Ps 2 (pc' := 80) (lv' := [(7, .int z88), (6, .int z75), (0, .ref 14), (1, .ref p), (2, .int a), (3, .int b), (4, .int c), (5, .int y18)]) (st' := [.ref 14, .int z88]) rfl ?_
              refine En_getK (j := 4) h25 rfl rfl rfl tgz_14 (by decide +kernel) ?_
              refine En_icGt _ rfl rfl rfl (fun h90 => ?_) (fun h90 => ?_)
              · refine En_Ps 1 (pc' := 144) (lv' := [(5, .int ((y18 + Int32.ofInt 1))), (7, .int z88), (6, .int z75), (0, .ref 14), (1, .ref p), (2, .int a), (3, .int b), (4, .int c)]) (st' := []) rfl ?_
                refine En_lv1 (addI rfl (by decide : (Int32.ofInt 1).toInt = 1) (by first | exact q_465ab79ac1 h26 | omega) (by first | exact q_9a865ca0e4 h27 | omega)) (fun z91 h92 => ?_)
                refine En_Ps 1 (pc' := 24) (lv' := [(5, .int z91), (7, .int z88), (6, .int z75), (0, .ref 14), (1, .ref p), (2, .int a), (3, .int b), (4, .int c)]) (st' := []) rfl ?_
                refine En_lv (lv := [(0, .ref 14), (1, .ref p), (2, .int a), (3, .int b), (4, .int c), (5, .int z91)]) ⟨rfl, rfl, rfl, rfl, rfl, rfl, trivial⟩ ?_
                exact ih24 σ20 z91 y19 h21 h22 h23 h24 h25 (by first | exact q_35104ce9d3 h92 h26 | omega) (by first | exact q_c76cfd8d15 h92 h34 h4 | omega) (by first | exact q_58e6e51dcc h28 | omega) (by first | exact q_2a7c2c8d7c h29 | omega) (by first | exact q_ae2dbf4292 h34 h92 | omega) (by first | exact q_8d03a5a7cb h92 h31 | omega) (PFI_l h32 h76 (ci_at (j := 3) h23 rfl) (by omega) (by omega) t86 (by omega) (by omega) (by omega) (by omega) (by omega)) ((by omega))
              · refine En_Ps 2 (pc' := 90) (lv' := [(7, .int z88), (6, .int z75), (0, .ref 14), (1, .ref p), (2, .int a), (3, .int b), (4, .int c), (5, .int y18)]) (st' := [.int (((Int8.ofInt 54).toInt32)), .int z88]) rfl ?_
                refine En_icGt _ rfl (by decide : ((Int8.ofInt 54).toInt32).toInt = 54) rfl (fun h93 => ?_) (fun h93 => ?_)
                · refine En_Ps 1 (pc' := 144) (lv' := [(5, .int ((y18 + Int32.ofInt 1))), (7, .int z88), (6, .int z75), (0, .ref 14), (1, .ref p), (2, .int a), (3, .int b), (4, .int c)]) (st' := []) rfl ?_
                  refine En_lv1 (addI rfl (by decide : (Int32.ofInt 1).toInt = 1) (by first | exact q_465ab79ac1 h26 | omega) (by first | exact q_9a865ca0e4 h27 | omega)) (fun z94 h95 => ?_)
                  refine En_Ps 1 (pc' := 24) (lv' := [(5, .int z94), (7, .int z88), (6, .int z75), (0, .ref 14), (1, .ref p), (2, .int a), (3, .int b), (4, .int c)]) (st' := []) rfl ?_
                  refine En_lv (lv := [(0, .ref 14), (1, .ref p), (2, .int a), (3, .int b), (4, .int c), (5, .int z94)]) ⟨rfl, rfl, rfl, rfl, rfl, rfl, trivial⟩ ?_
                  exact ih24 σ20 z94 y19 h21 h22 h23 h24 h25 (by first | exact q_35104ce9d3 h95 h26 | omega) (by first | exact q_c76cfd8d15 h95 h34 h4 | omega) (by first | exact q_58e6e51dcc h28 | omega) (by first | exact q_2a7c2c8d7c h29 | omega) (by first | exact q_ae2dbf4292 h34 h95 | omega) (by first | exact q_8d03a5a7cb h95 h31 | omega) (PFI_l h32 h76 (ci_at (j := 3) h23 rfl) (by omega) (by omega) t86 (by omega) (by omega) (by omega) (by omega) (by omega)) ((by omega))
                · refine En_Ps 1 (pc' := 94) (lv' := [(7, .int z88), (6, .int z75), (0, .ref 14), (1, .ref p), (2, .int a), (3, .int b), (4, .int c), (5, .int y18)]) (st' := [.ref 14]) rfl ?_
                  refine En_getU (j := 1) (u := 16) (g' := 16) (q := 0) rfl rfl rfl tgz_14 (by decide +kernel) h21 (by decide +kernel) un_16_16 (fun h96 => ?_)
                  refine En_Ps 2 (pc' := 101) (lv' := [(7, .int z88), (6, .int z75), (0, .ref 14), (1, .ref p), (2, .int a), (3, .int b), (4, .int c), (5, .int y18)]) (st' := [.int z75, .int y18, .ref 16]) rfl ?_
                  refine En_iast (l := 0) (u := 54) rfl rfl tgz_16 (by decide +kernel) (by first | exact q_58e6e51dcc h26 | omega) (lnI (by decide +kernel : LN _ = 6) (by first | exact q_f252e21553 h34 h4 | omega)) (FTsgl (by decide +kernel)) (rngI rfl (by first | exact q_ef1e8e38bf h74.1 | omega) (by first | exact q_f1c8c7c399 h74.2.1 | omega)) h21 h22 (by decide +kernel) (fun σ98 h99 h100 h101 h102 => ?_)
                  have h103 := BSB_e (BSB_e hB h32.2.1) (fun x _ => ci_ne h102 (by decide) (x : Int) : BSS _ σ98)
                  refine En_Ps 4 (pc' := 108) (lv' := [(7, .int z88), (6, .int z75), (0, .ref 14), (1, .ref p), (2, .int a), (3, .int b), (4, .int c), (5, .int y18)]) (st' := [.int ((Int32.ofInt 1)), .int z88, .int z75, .ref 14]) rfl ?_
                  have := (by decide : ((Int32.ofInt 1)).toInt = 1)
                  refine En_callV rfl rfl rfl rfl rfl rfl rfl rfl tgz_14 (by decide +kernel) rfl (c_99x σ98 h99 z75 z88 ((Int32.ofInt 1)) (geI rfl (by first | exact q_ef1e8e38bf h74.1 | omega)) (leI rfl (by first | exact q_f1c8c7c399 h74.2.1 | omega)) (geI (by decide : (Int32.ofInt 1).toInt = 1) (by decide)) (leI (by decide : (Int32.ofInt 1).toInt = 1) (by decide)) (BSB_m h103 (by omega))) (by decide) (by decide) (fun v105 σ106 h104 => ?_)
                  obtain ⟨h107, h108, rfl, h109⟩ := h104
                  have h110 := h109
                  have h111 := Fr_trans h100 h108 (by decide +kernel)
                  refine En_Ps 5 (pc' := 116) (lv' := [(7, .int z88), (6, .int z75), (0, .ref 14), (1, .ref p), (2, .int a), (3, .int b), (4, .int c), (5, .int y18)]) (st' := [.int ((a + ((Int32.ofInt 1)))), .ref p, .ref 14]) rfl ?_
                  refine En_top (addI rfl (by decide : (Int32.ofInt 1).toInt = 1) (by first | exact q_b7dadf652e hl_a | omega) (by first | exact q_2918abfa70 h17 | omega)) (fun z112 h113 => ?_)
                  refine En_Ps 5 (pc' := 122) (lv' := [(7, .int z88), (6, .int z75), (0, .ref 14), (1, .ref p), (2, .int a), (3, .int b), (4, .int c), (5, .int y18)]) (st' := [.int ((b ||| ((Int32.ofInt 1) <<< (y18 &&& 31)))), .int z112, .ref p, .ref 14]) rfl ?_
                  refine En_nam (fun z114 h115 => ?_)
                  have h116 := or_small h115 rfl rfl (by omega) (by omega) (by omega) (by omega)
                  refine En_Ps 2 (pc' := 126) (lv' := [(7, .int z88), (6, .int z75), (0, .ref 14), (1, .ref p), (2, .int a), (3, .int b), (4, .int c), (5, .int y18)]) (st' := [.int z88, .int c, .int z114, .int z112, .ref p, .ref 14]) rfl ?_
                  refine En_callS rfl rfl rfl rfl rfl rfl rfl rfl rfl (c_10 σ106 h107 c z88) (by decide) (by decide) (fun v118 σ119 h117 => ?_)
                  obtain ⟨h120, h121, z123, rfl, h122⟩ := h117
                  obtain rfl : σ106 = σ119 := Fr_nil h121
                  refine En_callS rfl rfl rfl rfl rfl rfl rfl rfl rfl (c_96dx σ106 h107 p hp z112 z114 z123 (geI rfl (by first | exact q_ee554783ee h113 hl_a | omega)) (leI rfl (by first | exact q_13d1e79bb8 h113 h17 | omega)) (geI rfl (by omega)) (leI rfl (by omega)) (geI rfl (by first | exact q_f062bc8aa8 h122.1 hl_c | omega)) (leI rfl (by omega)) y19 ((h108 _ _ (inW tgz_14 (by decide +kernel))).trans ((h102 _ _ (Or.inl (neTG tgz_14 tgz_16 (by decide)))).trans h25)) te ((h108 _ _ (inW tgz_14 (by decide +kernel))).trans ((h102 _ _ (Or.inl (neTG tgz_14 tgz_16 (by decide)))).trans h23)) hP (FXP_fr hP hX h111 (by decide +kernel)) (KN_fr hP hK h111 (by decide +kernel)) hN6 hc (BSB_w h103 h110 (by omega)) (PF_cnt hn (by omega) (by omega) h42 (by omega) (by omega) h116.1 (by omega))) (by decide) (by decide) (fun v125 σ126 h124 => ?_)
                  obtain ⟨h127, h128, z130, h131, rfl, h129⟩ := h124
                  have h132 := h129.2.2
                  have h133 := Fr_trans h111 h128 (by decide +kernel)
                  refine En_Ps 4 (pc' := 138) (lv' := [(7, .int z88), (6, .int z75), (0, .ref 14), (1, .ref p), (2, .int a), (3, .int b), (4, .int c), (5, .int y18)]) (st' := [.int ((Int32.ofInt (-1))), .int z88, .int z75, .ref 14]) rfl ?_
                  have := (by decide : ((Int32.ofInt (-1))).toInt = -1)
                  refine En_callV rfl rfl rfl rfl rfl rfl rfl rfl tgz_14 (by decide +kernel) rfl (c_99x σ126 h127 z75 z88 ((Int32.ofInt (-1))) (geI rfl (by first | exact q_ef1e8e38bf h74.1 | omega)) (leI rfl (by first | exact q_f1c8c7c399 h74.2.1 | omega)) (geI (by decide : (Int32.ofInt (-1)).toInt = -1) (by decide)) (leI (by decide : (Int32.ofInt (-1)).toInt = -1) (by decide)) (BSB_m (BSB_e (BSB_w (m := 7) h103 h110 (by omega)) h132.2.1) (by omega))) (by decide) (by decide) (fun v135 σ136 h134 => ?_)
                  obtain ⟨h137, h138, rfl, h139⟩ := h134
                  have h140 := h139
                  have h141 := Fr_trans h133 h138 (by decide +kernel)
                  refine En_Ps 1 (pc' := 144) (lv' := [(5, .int ((y18 + Int32.ofInt 1))), (7, .int z88), (6, .int z75), (0, .ref 14), (1, .ref p), (2, .int a), (3, .int b), (4, .int c)]) (st' := []) rfl ?_
                  refine En_lv1 (addI rfl (by decide : (Int32.ofInt 1).toInt = 1) (by first | exact q_465ab79ac1 h26 | omega) (by first | exact q_9a865ca0e4 h27 | omega)) (fun z142 h143 => ?_)
                  refine En_Ps 1 (pc' := 24) (lv' := [(5, .int z142), (7, .int z88), (6, .int z75), (0, .ref 14), (1, .ref p), (2, .int a), (3, .int b), (4, .int c)]) (st' := []) rfl ?_
                  refine En_lv (lv := [(0, .ref 14), (1, .ref p), (2, .int a), (3, .int b), (4, .int c), (5, .int z142)]) ⟨rfl, rfl, rfl, rfl, rfl, rfl, trivial⟩ ?_
                  exact ih24 σ136 z142 z130 h137 h141 ((h138 _ _ (inW tgz_14 (by decide +kernel))).trans ((h128 _ _ (inW tgz_14 (by decide +kernel))).trans ((h108 _ _ (inW tgz_14 (by decide +kernel))).trans ((h102 _ _ (Or.inl (neTG tgz_14 tgz_16 (by decide)))).trans h23)))) ((h138 _ _ (inW hp (by decide +kernel))).trans ((h128 _ _ (inW hp (by decide +kernel))).trans ((h108 _ _ (inW hp (by decide +kernel))).trans ((h102 _ _ (Or.inl (neTG hp tgz_16 (by decide)))).trans h24)))) ((h138 _ _ (inW tgz_14 (by decide +kernel))).trans h131) (by first | exact q_35104ce9d3 h143 h26 | omega) (by first | exact q_c76cfd8d15 h143 h34 h4 | omega) (by first | exact q_ef1e8e38bf h129.1 | omega) (by first | exact q_1a8f925876 h129.2.1 | omega) (by first | exact q_ae2dbf4292 h34 h143 | omega) (by first | exact q_8d03a5a7cb h143 h31 | omega) (PFI_i (z := z61.toInt) h32 h76 (ci_at (j := 3) h23 rfl) (by omega) (by omega) (by omega) t86 (by omega) (by omega) (by omega) (by omega) (by omega) h42 (by omega) t55 (by omega) h57 (by omega) (by omega) hB h101 h102 (by omega) h110 h108 (by decide +kernel) h116.1 (by omega) (by omega) h132 h140 h138 (by decide +kernel) (by omega)) ((by omega))
    have := (by decide : (Int32.ofInt 0).toInt = 0)
    refine En_lv (lv := [(0, .ref 14), (1, .ref p), (2, .int a), (3, .int b), (4, .int c), (5, .int ((Int32.ofInt 0)))]) ⟨rfl, rfl, rfl, rfl, rfl, rfl, trivial⟩ ?_
    exact key24 (Int.toNat (z2.toInt) + 1) σ0 ((Int32.ofInt 0)) so hσ0 hF0 h_te h1 h_so (by decide) (by decide) (by first | exact q_58e6e51dcc hl_so | omega) (by first | exact q_2a7c2c8d7c hu_so | omega) (by omega) (by first | exact toN_lt _ | omega) (PFI_0 (by omega) rfl) ((by omega))
/-- DoorSchool$Timetable.placeFrom(LDoorSchool$Timetable;LDoorSchool$Plan;III)V -/
abbrev P_96fx (σ0 : SG) (Wv : Int → Int) (p : Nat) (a : Int32) (b : Int32) (c : Int32) (so : Int32) (te : Int32) : PO := fun v σ => WT σ ∧ Fr [(14, 4), (15, 0), (16, 0), (17, 0)] σ0 σ ∧ ∃ so1 : Int32, (σ 14)[4]? = some (Value.int so1) ∧ v = none ∧ -so1.toInt ≤ 0 ∧ so1.toInt - 1000 ≤ 0 ∧ PFR Wv te.toInt σ0 σ b.toInt c.toInt so.toInt so1.toInt
set_option maxRecDepth 10000 in
set_option maxHeartbeats 4000000 in
theorem c_96fx {Wv : Int → Int} (σ0 : SG) (hσ0 : WT σ0) (p : Nat) (hp : TG p = 18) (a : Int32) (b : Int32) (c : Int32) (hl_a : 1 ≤ a.toInt) (hu_a : a.toInt ≤ 6) (hl_b : 0 ≤ b.toInt) (hu_b : b.toInt ≤ 63) (hl_c : 0 ≤ c.toInt) (hu_c : c.toInt ≤ 1000) (so : Int32) (h_so : (σ0 14)[4]? = some (Value.int so)) (te : Int32) (h_te : (σ0 14)[3]? = some (Value.int te)) (hP : PLA p) (hX : FXP σ0 p) (hK : KN σ0 p Wv (act Wv)) (hN6 : Wv 5 ≤ 6) (hc : CX Wv) (hB : BSB σ0 a.toInt) (hn : cnt b.toInt.toNat (Wv 5).toNat = a.toInt.toNat) : En 8 216 none mr_96 (P_96fx σ0 Wv p a b c so te) 0 [(0, .ref 14), (1, .ref p), (2, .int a), (3, .int b), (4, .int c)] [] σ0 := by
  obtain ⟨hl_so, hu_so⟩ := WT_int hσ0 (g := 14) (by decide +kernel) (by decide +kernel) (l := 0) (u := 1000) (by decide +kernel) h_so
  obtain ⟨hl_te, hu_te⟩ := WT_int hσ0 (g := 14) (by decide +kernel) (by decide +kernel) (l := (-1)) (u := 4) (by decide +kernel) h_te
  have hF0 : Fr [(14, 4), (15, 0), (16, 0), (17, 0)] σ0 σ0 := Fr_rfl
  refine En_Ps 2 (pc' := 2) (lv' := [(0, .ref 14), (1, .ref p), (2, .int a), (3, .int b), (4, .int c)]) (st' := [.ref p, .int a]) rfl ?_
  refine En_getI (j := 11) (l := 0) (u := 6) rfl rfl rfl hp (by decide +kernel) hσ0 (by decide +kernel) (fun z2 h1 h3 h4 => ?_)
  have t5 : Wv (5) = z2.toInt := KN_v hK (Or.inl (by decide)) (by decide) (by decide) (by rw [lcO_lt (by decide) (by decide), Nat.add_zero]) rfl h1
  refine En_icGe _ rfl rfl rfl (fun h6 => ?_) (fun h6 => ?_)
  · refine En_Ps 2 (pc' := 17) (lv' := [(0, .ref 14), (1, .ref p), (2, .int a), (3, .int b), (4, .int c)]) (st' := [.int c, .ref 14]) rfl ?_
    refine En_callV rfl rfl rfl rfl rfl rfl rfl rfl tgz_14 (by decide +kernel) rfl (c_95x σ0 hσ0 c (geI rfl (by first | exact q_58e6e51dcc hl_c | omega)) (leI rfl (by first | exact q_2a7c2c8d7c hu_c | omega)) so h_so) (by decide) (by decide) (fun v8 σ9 h7 => ?_)
    obtain ⟨h10, h11, z13, h14, rfl, h12⟩ := h7
    have h15 := h12.2.2.2
    have h16 := Fr_trans hF0 h11 (by decide +kernel)
    exact En_ret (v := none) rfl rfl rfl ⟨h10, h16, z13, h14, rfl, ⟨by first | exact q_a555021d16 h12.1 | omega, by first | exact q_1655d09eed h12.2.1 | omega, (by have e9 := h15; exact PFR_end hn (by omega) (BSS_fr h11 (by decide +kernel)) (BGS_fr h11 (by decide +kernel)) (by omega) (by omega) (by omega))⟩⟩
  · refine En_Ps 2 (pc' := 11) (lv' := [(0, .ref 14), (1, .ref p), (2, .int a), (3, .int b), (4, .int c)]) (st' := [.int (((Int8.ofInt 6).toInt32)), .int a]) rfl ?_
    refine En_icLt _ rfl (by decide : ((Int8.ofInt 6).toInt32).toInt = 6) rfl (fun h17 => ?_) (fun hx => by first | exact (q_071bc28013 hx h4 h6).elim | (exfalso; omega))
    refine En_Ps 2 (pc' := 24) (lv' := [(5, .int ((Int32.ofInt 0))), (0, .ref 14), (1, .ref p), (2, .int a), (3, .int b), (4, .int c)]) (st' := []) rfl ?_
    have key24 : ∀ (n24 : Nat) (σ20 : SG) (y18 : Int32) (y19 : Int32), WT σ20 → Fr [(14, 4), (15, 0), (16, 0), (17, 0)] σ0 σ20 → (σ20 14)[3]? = some (Value.int te) → (σ20 p)[11]? = some (Value.int z2) → (σ20 14)[4]? = some (Value.int y19) → 0 ≤ y18.toInt → y18.toInt ≤ 6 → 0 ≤ y19.toInt → y19.toInt ≤ 1000 → y18.toInt - z2.toInt ≤ 0 → z2.toInt - y18.toInt < (n24 : Int) → PFI Wv te.toInt σ0 σ20 b.toInt c.toInt y18.toInt so.toInt y19.toInt → y18.toInt ≤ Wv 5 → En 8 216 none mr_96 (P_96fx σ0 Wv p a b c so te) 24 [(0, .ref 14), (1, .ref p), (2, .int a), (3, .int b), (4, .int c), (5, .int y18)] [] σ20 := by
      intro n24
      induction n24 with
      | zero =>
        intro σ20 y18 y19 h21 h22 h23 h24 h25 h26 h27 h28 h29 h30 h31 h32 h33
        first | exact (q_14257feae7 h30 h31).elim | (exfalso; omega)
      | succ n24 ih24 =>
        intro σ20 y18 y19 h21 h22 h23 h24 h25 h26 h27 h28 h29 h30 h31 h32 h33
        refine En_Ps 2 (pc' := 27) (lv' := [(0, .ref 14), (1, .ref p), (2, .int a), (3, .int b), (4, .int c), (5, .int y18)]) (st' := [.ref p, .int y18]) rfl ?_
        refine En_getK (j := 11) h24 rfl rfl rfl hp (by decide +kernel) ?_
        refine En_icGe _ rfl rfl rfl (fun h34 => ?_) (fun h34 => ?_)
        · exact En_ret (v := none) rfl rfl rfl ⟨h21, h22, y19, h25, rfl, ⟨by first | exact q_c803b490ef h28 | omega, by first | exact q_4e46b9e1ab h29 | omega, PFR_of h32 hn (by omega) (by omega) (by omega)⟩⟩
        · refine En_Ps 2 (pc' := 36) (lv' := [(0, .ref 14), (1, .ref p), (2, .int a), (3, .int b), (4, .int c), (5, .int y18)]) (st' := [.int y18, .int b]) rfl ?_
          refine En_callS rfl rfl rfl rfl rfl rfl rfl rfl rfl (c_108ax σ20 h21 b y18 (geI rfl (by first | exact q_58e6e51dcc hl_b | omega)) (leI rfl (by first | exact q_442e014c00 hu_b | omega)) (geI rfl (by first | exact q_58e6e51dcc h26 | omega)) (leI rfl (by first | exact q_65989d2eba h27 | omega))) (by decide) (by decide) (fun v36 σ37 h35 => ?_)
          obtain ⟨h38, h39, z41, rfl, h40⟩ := h35
          have h42 := h40.2.2
          obtain rfl : σ20 = σ37 := Fr_nil h39
          refine En_iNe _ rfl rfl (fun h43 => ?_) (fun h43 => ?_)
          · refine En_Ps 1 (pc' := 144) (lv' := [(5, .int ((y18 + Int32.ofInt 1))), (0, .ref 14), (1, .ref p), (2, .int a), (3, .int b), (4, .int c)]) (st' := []) rfl ?_
            refine En_lv1 (addI rfl (by decide : (Int32.ofInt 1).toInt = 1) (by first | exact q_465ab79ac1 h26 | omega) (by first | exact q_9a865ca0e4 h27 | omega)) (fun z44 h45 => ?_)
            refine En_Ps 1 (pc' := 24) (lv' := [(5, .int z44), (0, .ref 14), (1, .ref p), (2, .int a), (3, .int b), (4, .int c)]) (st' := []) rfl ?_
            refine En_lv (lv := [(0, .ref 14), (1, .ref p), (2, .int a), (3, .int b), (4, .int c), (5, .int z44)]) ⟨rfl, rfl, rfl, rfl, rfl, rfl, trivial⟩ ?_
            exact ih24 σ20 z44 y19 h21 h22 h23 h24 h25 (by first | exact q_35104ce9d3 h45 h26 | omega) (by first | exact q_c76cfd8d15 h45 h34 h4 | omega) (by first | exact q_58e6e51dcc h28 | omega) (by first | exact q_2a7c2c8d7c h29 | omega) (by first | exact q_ae2dbf4292 h34 h45 | omega) (by first | exact q_8d03a5a7cb h45 h31 | omega) (PFI_b h32 (by omega) (by omega) h42 (by omega) (by omega)) ((by omega))
          · refine En_Ps 1 (pc' := 43) (lv' := [(0, .ref 14), (1, .ref p), (2, .int a), (3, .int b), (4, .int c), (5, .int y18)]) (st' := [.ref p]) rfl ?_
            refine En_getR (j := 13) (g' := 26) (u := 0) rfl rfl rfl hp (by decide +kernel) h21 (by decide +kernel) (fun a47 h46 ha47 => ?_)
            have t48 : a47 = p + 8 := ref_uniq h46 (FXP_fr hP hX h22 (by decide +kernel)).2.2.2.2.2.1
            refine En_Ps 1 (pc' := 48) (lv' := [(0, .ref 14), (1, .ref p), (2, .int a), (3, .int b), (4, .int c), (5, .int y18)]) (st' := [.int y18, .ref a47]) rfl ?_
            refine En_iald (l := 0) (u := 63) rfl rfl ha47 (by decide +kernel) h21 (by first | exact q_58e6e51dcc h26 | omega) (lnI (by decide +kernel : LN _ = 6) (by first | exact q_f252e21553 h34 h4 | omega)) (FTsgl (by decide +kernel)) (fun z50 h49 h51 h52 => ?_)
            have h53 : ci σ20 a47 (y18.toInt) = z50.toInt := ci_at h49 rfl
            have t54 := lc_c (m := y18.toInt) (by omega) (by omega)
            have t55 : Wv (155 + 2 * (y18.toInt)) = z50.toInt := KN_v (KN_fr hP hK h22 (by decide +kernel)) (Or.inr (Or.inr (Or.inr (Or.inr (Or.inr (Or.inl ⟨by omega, by omega, by omega⟩)))))) (by omega) (by omega) (by omega) (by omega) h49
            have h56 := hc y18.toInt (by omega) (by omega)
            have h57 : z50.toInt < pI y18.toInt := by have e9 := h56.2.2.1; omega
            refine En_Ps 3 (pc' := 52) (lv' := [(0, .ref 14), (1, .ref p), (2, .int a), (3, .int b), (4, .int c), (5, .int y18)]) (st' := [.int ((b ^^^ ((Int32.ofInt (-1))))), .int z50]) rfl ?_
            refine En_nam (fun z58 h59 => ?_)
            refine En_Ps 1 (pc' := 53) (lv' := [(0, .ref 14), (1, .ref p), (2, .int a), (3, .int b), (4, .int c), (5, .int y18)]) (st' := [.int ((z50 &&& z58))]) rfl ?_
            refine En_nam (fun z61 h62 => ?_)
            have h63 : z61.toInt = z50.toInt - aN z50.toInt b.toInt := andn_v h62 h59 rfl rfl (by omega) (by omega)
            have := aN_le (X := z50.toInt) (Y := b.toInt) (by omega) (by omega)
            refine En_iNe _ rfl rfl (fun h64 => ?_) (fun h64 => ?_)
            · refine En_Ps 1 (pc' := 144) (lv' := [(5, .int ((y18 + Int32.ofInt 1))), (0, .ref 14), (1, .ref p), (2, .int a), (3, .int b), (4, .int c)]) (st' := []) rfl ?_
              refine En_lv1 (addI rfl (by decide : (Int32.ofInt 1).toInt = 1) (by first | exact q_465ab79ac1 h26 | omega) (by first | exact q_9a865ca0e4 h27 | omega)) (fun z65 h66 => ?_)
              refine En_Ps 1 (pc' := 24) (lv' := [(5, .int z65), (0, .ref 14), (1, .ref p), (2, .int a), (3, .int b), (4, .int c)]) (st' := []) rfl ?_
              refine En_lv (lv := [(0, .ref 14), (1, .ref p), (2, .int a), (3, .int b), (4, .int c), (5, .int z65)]) ⟨rfl, rfl, rfl, rfl, rfl, rfl, trivial⟩ ?_
              exact ih24 σ20 z65 y19 h21 h22 h23 h24 h25 (by first | exact q_35104ce9d3 h66 h26 | omega) (by first | exact q_c76cfd8d15 h66 h34 h4 | omega) (by first | exact q_58e6e51dcc h28 | omega) (by first | exact q_2a7c2c8d7c h29 | omega) (by first | exact q_ae2dbf4292 h34 h66 | omega) (by first | exact q_8d03a5a7cb h66 h31 | omega) (PFI_n (z := z61.toInt) h32 (by omega) (by omega) t55 (by omega) h57 (by omega) (by omega) (by omega)) ((by omega))
            · obtain ⟨h67, h68⟩ := andn_zero h62 h59 h64 rfl rfl (by omega)
              refine En_Ps 3 (pc' := 60) (lv' := [(0, .ref 14), (1, .ref p), (2, .int a), (3, .int b), (4, .int c), (5, .int y18)]) (st' := [.int y18, .ref p, .ref 14]) rfl ?_
              refine En_callV rfl rfl rfl rfl rfl rfl rfl rfl tgz_14 (by decide +kernel) rfl (c_92x σ20 h21 p hp y18 (geI rfl (by first | exact q_58e6e51dcc h26 | omega)) (leI rfl (by first | exact q_2c6b8d4bd3 h34 h4 | omega)) te h23 hP (FXP_fr hP hX h22 (by decide +kernel)) (KN_fr hP hK h22 (by decide +kernel)) hN6 (by omega) hc (BSB_m (BSB_e hB h32.2.1) (by omega))) (by decide) (by decide) (fun v70 σ71 h69 => ?_)
              obtain ⟨h72, h73, z75, rfl, h74⟩ := h69
              have h76 := h74.2.2
              obtain rfl : σ20 = σ71 := Fr_nil h73
              refine En_Ps 3 (pc' := 68) (lv' := [(6, .int z75), (0, .ref 14), (1, .ref p), (2, .int a), (3, .int b), (4, .int c), (5, .int y18)]) (st' := [.ref p, .int z75]) rfl ?_
              refine En_getR (j := 12) (g' := 25) (u := 0) rfl rfl rfl hp (by decide +kernel) h21 (by decide +kernel) (fun a78 h77 ha78 => ?_)
              have t79 : a78 = p + 7 := ref_uniq h77 (FXP_fr hP hX h22 (by decide +kernel)).2.2.2.2.1
              refine En_Ps 1 (pc' := 73) (lv' := [(6, .int z75), (0, .ref 14), (1, .ref p), (2, .int a), (3, .int b), (4, .int c), (5, .int y18)]) (st' := [.int y18, .ref a78, .int z75]) rfl ?_
              refine En_iald (l := 0) (u := 9) rfl rfl ha78 (by decide +kernel) h21 (by first | exact q_58e6e51dcc h26 | omega) (lnI (by decide +kernel : LN _ = 6) (by first | exact q_f252e21553 h34 h4 | omega)) (FTsgl (by decide +kernel)) (fun z81 h80 h82 h83 => ?_)
              have h84 : ci σ20 a78 (y18.toInt) = z81.toInt := ci_at h80 rfl
              have t85 := lc_c (m := y18.toInt) (by omega) (by omega)
              have t86 : Wv (154 + 2 * (y18.toInt)) = z81.toInt := KN_v (KN_fr hP hK h22 (by decide +kernel)) (Or.inr (Or.inr (Or.inr (Or.inr (Or.inr (Or.inl ⟨by omega, by omega, by omega⟩)))))) (by omega) (by omega) (by omega) (by omega) h80
              have h87 : 1 ≤ z81.toInt := by have e9 := h56.1 (by omega); omega
              refine En_Ps 1 (pc' := 75) (lv' := [(6, .int z75), (0, .ref 14), (1, .ref p), (2, .int a), (3, .int b), (4, .int c), (5, .int y18)]) (st' := [.int ((z75 + z81))]) rfl ?_
              refine En_top (addI rfl rfl (by first | exact q_2027e39019 h74.1 h82 | omega) (by first | exact q_66d03a076a h74.2.1 h83 | omega)) (fun z88 h89 => ?_)
              refine En_Ps 1 (pc' := 77) (lv' := [(7, .int z88), (6, .int z75), (0, .ref 14), (1, .ref p), (2, .int a), (3, .int b), (4, .int c), (5, .int y18)]) (st' := []) rfl ?_
              refine En_Ps 2 (pc' := 80) (lv' := [(7, .int z88), (6, .int z75), (0, .ref 14), (1, .ref p), (2, .int a), (3, .int b), (4, .int c), (5, .int y18)]) (st' := [.ref 14, .int z88]) rfl ?_
              refine En_getK (j := 4) h25 rfl rfl rfl tgz_14 (by decide +kernel) ?_
              refine En_icGt _ rfl rfl rfl (fun h90 => ?_) (fun h90 => ?_)
              · refine En_Ps 1 (pc' := 144) (lv' := [(5, .int ((y18 + Int32.ofInt 1))), (7, .int z88), (6, .int z75), (0, .ref 14), (1, .ref p), (2, .int a), (3, .int b), (4, .int c)]) (st' := []) rfl ?_
                refine En_lv1 (addI rfl (by decide : (Int32.ofInt 1).toInt = 1) (by first | exact q_465ab79ac1 h26 | omega) (by first | exact q_9a865ca0e4 h27 | omega)) (fun z91 h92 => ?_)
                refine En_Ps 1 (pc' := 24) (lv' := [(5, .int z91), (7, .int z88), (6, .int z75), (0, .ref 14), (1, .ref p), (2, .int a), (3, .int b), (4, .int c)]) (st' := []) rfl ?_
                refine En_lv (lv := [(0, .ref 14), (1, .ref p), (2, .int a), (3, .int b), (4, .int c), (5, .int z91)]) ⟨rfl, rfl, rfl, rfl, rfl, rfl, trivial⟩ ?_
                exact ih24 σ20 z91 y19 h21 h22 h23 h24 h25 (by first | exact q_35104ce9d3 h92 h26 | omega) (by first | exact q_c76cfd8d15 h92 h34 h4 | omega) (by first | exact q_58e6e51dcc h28 | omega) (by first | exact q_2a7c2c8d7c h29 | omega) (by first | exact q_ae2dbf4292 h34 h92 | omega) (by first | exact q_8d03a5a7cb h92 h31 | omega) (PFI_l h32 h76 (ci_at (j := 3) h23 rfl) (by omega) (by omega) t86 (by omega) (by omega) (by omega) (by omega) (by omega)) ((by omega))
              · refine En_Ps 2 (pc' := 90) (lv' := [(7, .int z88), (6, .int z75), (0, .ref 14), (1, .ref p), (2, .int a), (3, .int b), (4, .int c), (5, .int y18)]) (st' := [.int (((Int8.ofInt 54).toInt32)), .int z88]) rfl ?_
                refine En_icGt _ rfl (by decide : ((Int8.ofInt 54).toInt32).toInt = 54) rfl (fun h93 => ?_) (fun h93 => ?_)
                · refine En_Ps 1 (pc' := 144) (lv' := [(5, .int ((y18 + Int32.ofInt 1))), (7, .int z88), (6, .int z75), (0, .ref 14), (1, .ref p), (2, .int a), (3, .int b), (4, .int c)]) (st' := []) rfl ?_
                  refine En_lv1 (addI rfl (by decide : (Int32.ofInt 1).toInt = 1) (by first | exact q_465ab79ac1 h26 | omega) (by first | exact q_9a865ca0e4 h27 | omega)) (fun z94 h95 => ?_)
                  refine En_Ps 1 (pc' := 24) (lv' := [(5, .int z94), (7, .int z88), (6, .int z75), (0, .ref 14), (1, .ref p), (2, .int a), (3, .int b), (4, .int c)]) (st' := []) rfl ?_
                  refine En_lv (lv := [(0, .ref 14), (1, .ref p), (2, .int a), (3, .int b), (4, .int c), (5, .int z94)]) ⟨rfl, rfl, rfl, rfl, rfl, rfl, trivial⟩ ?_
                  exact ih24 σ20 z94 y19 h21 h22 h23 h24 h25 (by first | exact q_35104ce9d3 h95 h26 | omega) (by first | exact q_c76cfd8d15 h95 h34 h4 | omega) (by first | exact q_58e6e51dcc h28 | omega) (by first | exact q_2a7c2c8d7c h29 | omega) (by first | exact q_ae2dbf4292 h34 h95 | omega) (by first | exact q_8d03a5a7cb h95 h31 | omega) (PFI_l h32 h76 (ci_at (j := 3) h23 rfl) (by omega) (by omega) t86 (by omega) (by omega) (by omega) (by omega) (by omega)) ((by omega))
                · refine En_Ps 1 (pc' := 94) (lv' := [(7, .int z88), (6, .int z75), (0, .ref 14), (1, .ref p), (2, .int a), (3, .int b), (4, .int c), (5, .int y18)]) (st' := [.ref 14]) rfl ?_
                  refine En_getU (j := 1) (u := 16) (g' := 16) (q := 0) rfl rfl rfl tgz_14 (by decide +kernel) h21 (by decide +kernel) un_16_16 (fun h96 => ?_)
                  refine En_Ps 2 (pc' := 101) (lv' := [(7, .int z88), (6, .int z75), (0, .ref 14), (1, .ref p), (2, .int a), (3, .int b), (4, .int c), (5, .int y18)]) (st' := [.int z75, .int y18, .ref 16]) rfl ?_
                  refine En_iast (l := 0) (u := 54) rfl rfl tgz_16 (by decide +kernel) (by first | exact q_58e6e51dcc h26 | omega) (lnI (by decide +kernel : LN _ = 6) (by first | exact q_f252e21553 h34 h4 | omega)) (FTsgl (by decide +kernel)) (rngI rfl (by first | exact q_ef1e8e38bf h74.1 | omega) (by first | exact q_f1c8c7c399 h74.2.1 | omega)) h21 h22 (by decide +kernel) (fun σ98 h99 h100 h101 h102 => ?_)
                  have h103 := BSB_e (BSB_e hB h32.2.1) (fun x _ => ci_ne h102 (by decide) (x : Int) : BSS _ σ98)
                  refine En_Ps 4 (pc' := 108) (lv' := [(7, .int z88), (6, .int z75), (0, .ref 14), (1, .ref p), (2, .int a), (3, .int b), (4, .int c), (5, .int y18)]) (st' := [.int ((Int32.ofInt 1)), .int z88, .int z75, .ref 14]) rfl ?_
                  have := (by decide : ((Int32.ofInt 1)).toInt = 1)
                  refine En_callV rfl rfl rfl rfl rfl rfl rfl rfl tgz_14 (by decide +kernel) rfl (c_99x σ98 h99 z75 z88 ((Int32.ofInt 1)) (geI rfl (by first | exact q_ef1e8e38bf h74.1 | omega)) (leI rfl (by first | exact q_f1c8c7c399 h74.2.1 | omega)) (geI (by decide : (Int32.ofInt 1).toInt = 1) (by decide)) (leI (by decide : (Int32.ofInt 1).toInt = 1) (by decide)) (BSB_m h103 (by omega))) (by decide) (by decide) (fun v105 σ106 h104 => ?_)
                  obtain ⟨h107, h108, rfl, h109⟩ := h104
                  have h110 := h109
                  have h111 := Fr_trans h100 h108 (by decide +kernel)
                  refine En_Ps 5 (pc' := 116) (lv' := [(7, .int z88), (6, .int z75), (0, .ref 14), (1, .ref p), (2, .int a), (3, .int b), (4, .int c), (5, .int y18)]) (st' := [.int ((a + ((Int32.ofInt 1)))), .ref p, .ref 14]) rfl ?_
                  refine En_top (addI rfl (by decide : (Int32.ofInt 1).toInt = 1) (by first | exact q_e6d8d315b7 hl_a | omega) (by first | exact q_2918abfa70 h17 | omega)) (fun z112 h113 => ?_)
                  refine En_Ps 5 (pc' := 122) (lv' := [(7, .int z88), (6, .int z75), (0, .ref 14), (1, .ref p), (2, .int a), (3, .int b), (4, .int c), (5, .int y18)]) (st' := [.int ((b ||| ((Int32.ofInt 1) <<< (y18 &&& 31)))), .int z112, .ref p, .ref 14]) rfl ?_
                  refine En_nam (fun z114 h115 => ?_)
                  have h116 := or_small h115 rfl rfl (by omega) (by omega) (by omega) (by omega)
                  refine En_Ps 2 (pc' := 126) (lv' := [(7, .int z88), (6, .int z75), (0, .ref 14), (1, .ref p), (2, .int a), (3, .int b), (4, .int c), (5, .int y18)]) (st' := [.int z88, .int c, .int z114, .int z112, .ref p, .ref 14]) rfl ?_
                  refine En_callS rfl rfl rfl rfl rfl rfl rfl rfl rfl (c_10 σ106 h107 c z88) (by decide) (by decide) (fun v118 σ119 h117 => ?_)
                  obtain ⟨h120, h121, z123, rfl, h122⟩ := h117
                  obtain rfl : σ106 = σ119 := Fr_nil h121
                  refine En_callS rfl rfl rfl rfl rfl rfl rfl rfl rfl (c_96ex σ106 h107 p hp z112 z114 z123 (geI rfl (by first | exact q_06a5bb0b7c h113 hl_a | omega)) (leI rfl (by first | exact q_13d1e79bb8 h113 h17 | omega)) (geI rfl (by omega)) (leI rfl (by omega)) (geI rfl (by first | exact q_f062bc8aa8 h122.1 hl_c | omega)) (leI rfl (by omega)) y19 ((h108 _ _ (inW tgz_14 (by decide +kernel))).trans ((h102 _ _ (Or.inl (neTG tgz_14 tgz_16 (by decide)))).trans h25)) te ((h108 _ _ (inW tgz_14 (by decide +kernel))).trans ((h102 _ _ (Or.inl (neTG tgz_14 tgz_16 (by decide)))).trans h23)) hP (FXP_fr hP hX h111 (by decide +kernel)) (KN_fr hP hK h111 (by decide +kernel)) hN6 hc (BSB_w h103 h110 (by omega)) (PF_cnt hn (by omega) (by omega) h42 (by omega) (by omega) h116.1 (by omega))) (by decide) (by decide) (fun v125 σ126 h124 => ?_)
                  obtain ⟨h127, h128, z130, h131, rfl, h129⟩ := h124
                  have h132 := h129.2.2
                  have h133 := Fr_trans h111 h128 (by decide +kernel)
                  refine En_Ps 4 (pc' := 138) (lv' := [(7, .int z88), (6, .int z75), (0, .ref 14), (1, .ref p), (2, .int a), (3, .int b), (4, .int c), (5, .int y18)]) (st' := [.int ((Int32.ofInt (-1))), .int z88, .int z75, .ref 14]) rfl ?_
                  have := (by decide : ((Int32.ofInt (-1))).toInt = -1)
                  refine En_callV rfl rfl rfl rfl rfl rfl rfl rfl tgz_14 (by decide +kernel) rfl (c_99x σ126 h127 z75 z88 ((Int32.ofInt (-1))) (geI rfl (by first | exact q_ef1e8e38bf h74.1 | omega)) (leI rfl (by first | exact q_f1c8c7c399 h74.2.1 | omega)) (geI (by decide : (Int32.ofInt (-1)).toInt = -1) (by decide)) (leI (by decide : (Int32.ofInt (-1)).toInt = -1) (by decide)) (BSB_m (BSB_e (BSB_w (m := 7) h103 h110 (by omega)) h132.2.1) (by omega))) (by decide) (by decide) (fun v135 σ136 h134 => ?_)
                  obtain ⟨h137, h138, rfl, h139⟩ := h134
                  have h140 := h139
                  have h141 := Fr_trans h133 h138 (by decide +kernel)
                  refine En_Ps 1 (pc' := 144) (lv' := [(5, .int ((y18 + Int32.ofInt 1))), (7, .int z88), (6, .int z75), (0, .ref 14), (1, .ref p), (2, .int a), (3, .int b), (4, .int c)]) (st' := []) rfl ?_
                  refine En_lv1 (addI rfl (by decide : (Int32.ofInt 1).toInt = 1) (by first | exact q_465ab79ac1 h26 | omega) (by first | exact q_9a865ca0e4 h27 | omega)) (fun z142 h143 => ?_)
                  refine En_Ps 1 (pc' := 24) (lv' := [(5, .int z142), (7, .int z88), (6, .int z75), (0, .ref 14), (1, .ref p), (2, .int a), (3, .int b), (4, .int c)]) (st' := []) rfl ?_
                  refine En_lv (lv := [(0, .ref 14), (1, .ref p), (2, .int a), (3, .int b), (4, .int c), (5, .int z142)]) ⟨rfl, rfl, rfl, rfl, rfl, rfl, trivial⟩ ?_
                  exact ih24 σ136 z142 z130 h137 h141 ((h138 _ _ (inW tgz_14 (by decide +kernel))).trans ((h128 _ _ (inW tgz_14 (by decide +kernel))).trans ((h108 _ _ (inW tgz_14 (by decide +kernel))).trans ((h102 _ _ (Or.inl (neTG tgz_14 tgz_16 (by decide)))).trans h23)))) ((h138 _ _ (inW hp (by decide +kernel))).trans ((h128 _ _ (inW hp (by decide +kernel))).trans ((h108 _ _ (inW hp (by decide +kernel))).trans ((h102 _ _ (Or.inl (neTG hp tgz_16 (by decide)))).trans h24)))) ((h138 _ _ (inW tgz_14 (by decide +kernel))).trans h131) (by first | exact q_35104ce9d3 h143 h26 | omega) (by first | exact q_c76cfd8d15 h143 h34 h4 | omega) (by first | exact q_ef1e8e38bf h129.1 | omega) (by first | exact q_1a8f925876 h129.2.1 | omega) (by first | exact q_ae2dbf4292 h34 h143 | omega) (by first | exact q_8d03a5a7cb h143 h31 | omega) (PFI_i (z := z61.toInt) h32 h76 (ci_at (j := 3) h23 rfl) (by omega) (by omega) (by omega) t86 (by omega) (by omega) (by omega) (by omega) (by omega) h42 (by omega) t55 (by omega) h57 (by omega) (by omega) hB h101 h102 (by omega) h110 h108 (by decide +kernel) h116.1 (by omega) (by omega) h132 h140 h138 (by decide +kernel) (by omega)) ((by omega))
    have := (by decide : (Int32.ofInt 0).toInt = 0)
    refine En_lv (lv := [(0, .ref 14), (1, .ref p), (2, .int a), (3, .int b), (4, .int c), (5, .int ((Int32.ofInt 0)))]) ⟨rfl, rfl, rfl, rfl, rfl, rfl, trivial⟩ ?_
    exact key24 (Int.toNat (z2.toInt) + 1) σ0 ((Int32.ofInt 0)) so hσ0 hF0 h_te h1 h_so (by decide) (by decide) (by first | exact q_58e6e51dcc hl_so | omega) (by first | exact q_2a7c2c8d7c hu_so | omega) (by omega) (by first | exact toN_lt _ | omega) (PFI_0 (by omega) rfl) ((by omega))
/-- DoorSchool$Timetable.placeFrom(LDoorSchool$Timetable;LDoorSchool$Plan;III)V -/
abbrev P_96gx (σ0 : SG) (Wv : Int → Int) (p : Nat) (a : Int32) (b : Int32) (c : Int32) (so : Int32) (te : Int32) : PO := fun v σ => WT σ ∧ Fr [(14, 4), (15, 0), (16, 0), (17, 0)] σ0 σ ∧ ∃ so1 : Int32, (σ 14)[4]? = some (Value.int so1) ∧ v = none ∧ -so1.toInt ≤ 0 ∧ so1.toInt - 1000 ≤ 0 ∧ PFR Wv te.toInt σ0 σ b.toInt c.toInt so.toInt so1.toInt
set_option maxRecDepth 10000 in
set_option maxHeartbeats 4000000 in
theorem c_96gx {Wv : Int → Int} (σ0 : SG) (hσ0 : WT σ0) (p : Nat) (hp : TG p = 18) (a : Int32) (b : Int32) (c : Int32) (hl_a : 0 ≤ a.toInt) (hu_a : a.toInt ≤ 6) (hl_b : 0 ≤ b.toInt) (hu_b : b.toInt ≤ 63) (hl_c : 0 ≤ c.toInt) (hu_c : c.toInt ≤ 1000) (so : Int32) (h_so : (σ0 14)[4]? = some (Value.int so)) (te : Int32) (h_te : (σ0 14)[3]? = some (Value.int te)) (hP : PLA p) (hX : FXP σ0 p) (hK : KN σ0 p Wv (act Wv)) (hN6 : Wv 5 ≤ 6) (hc : CX Wv) (hB : BSB σ0 a.toInt) (hn : cnt b.toInt.toNat (Wv 5).toNat = a.toInt.toNat) : En 9 243 none mr_96 (P_96gx σ0 Wv p a b c so te) 0 [(0, .ref 14), (1, .ref p), (2, .int a), (3, .int b), (4, .int c)] [] σ0 := by
  obtain ⟨hl_so, hu_so⟩ := WT_int hσ0 (g := 14) (by decide +kernel) (by decide +kernel) (l := 0) (u := 1000) (by decide +kernel) h_so
  obtain ⟨hl_te, hu_te⟩ := WT_int hσ0 (g := 14) (by decide +kernel) (by decide +kernel) (l := (-1)) (u := 4) (by decide +kernel) h_te
  have hF0 : Fr [(14, 4), (15, 0), (16, 0), (17, 0)] σ0 σ0 := Fr_rfl
  refine En_Ps 2 (pc' := 2) (lv' := [(0, .ref 14), (1, .ref p), (2, .int a), (3, .int b), (4, .int c)]) (st' := [.ref p, .int a]) rfl ?_
  refine En_getI (j := 11) (l := 0) (u := 6) rfl rfl rfl hp (by decide +kernel) hσ0 (by decide +kernel) (fun z2 h1 h3 h4 => ?_)
  have t5 : Wv (5) = z2.toInt := KN_v hK (Or.inl (by decide)) (by decide) (by decide) (by rw [lcO_lt (by decide) (by decide), Nat.add_zero]) rfl h1
  refine En_icGe _ rfl rfl rfl (fun h6 => ?_) (fun h6 => ?_)
  · refine En_Ps 2 (pc' := 17) (lv' := [(0, .ref 14), (1, .ref p), (2, .int a), (3, .int b), (4, .int c)]) (st' := [.int c, .ref 14]) rfl ?_
    refine En_callV rfl rfl rfl rfl rfl rfl rfl rfl tgz_14 (by decide +kernel) rfl (c_95x σ0 hσ0 c (geI rfl (by first | exact q_58e6e51dcc hl_c | omega)) (leI rfl (by first | exact q_2a7c2c8d7c hu_c | omega)) so h_so) (by decide) (by decide) (fun v8 σ9 h7 => ?_)
    obtain ⟨h10, h11, z13, h14, rfl, h12⟩ := h7
    have h15 := h12.2.2.2
    have h16 := Fr_trans hF0 h11 (by decide +kernel)
    exact En_ret (v := none) rfl rfl rfl ⟨h10, h16, z13, h14, rfl, ⟨by first | exact q_a555021d16 h12.1 | omega, by first | exact q_1655d09eed h12.2.1 | omega, (by have e9 := h15; exact PFR_end hn (by omega) (BSS_fr h11 (by decide +kernel)) (BGS_fr h11 (by decide +kernel)) (by omega) (by omega) (by omega))⟩⟩
  · refine En_Ps 2 (pc' := 11) (lv' := [(0, .ref 14), (1, .ref p), (2, .int a), (3, .int b), (4, .int c)]) (st' := [.int (((Int8.ofInt 6).toInt32)), .int a]) rfl ?_
    refine En_icLt _ rfl (by decide : ((Int8.ofInt 6).toInt32).toInt = 6) rfl (fun h17 => ?_) (fun hx => by first | exact (q_071bc28013 hx h4 h6).elim | (exfalso; omega))
    refine En_Ps 2 (pc' := 24) (lv' := [(5, .int ((Int32.ofInt 0))), (0, .ref 14), (1, .ref p), (2, .int a), (3, .int b), (4, .int c)]) (st' := []) rfl ?_
    have key24 : ∀ (n24 : Nat) (σ20 : SG) (y18 : Int32) (y19 : Int32), WT σ20 → Fr [(14, 4), (15, 0), (16, 0), (17, 0)] σ0 σ20 → (σ20 14)[3]? = some (Value.int te) → (σ20 p)[11]? = some (Value.int z2) → (σ20 14)[4]? = some (Value.int y19) → 0 ≤ y18.toInt → y18.toInt ≤ 6 → 0 ≤ y19.toInt → y19.toInt ≤ 1000 → y18.toInt - z2.toInt ≤ 0 → z2.toInt - y18.toInt < (n24 : Int) → PFI Wv te.toInt σ0 σ20 b.toInt c.toInt y18.toInt so.toInt y19.toInt → y18.toInt ≤ Wv 5 → En 9 243 none mr_96 (P_96gx σ0 Wv p a b c so te) 24 [(0, .ref 14), (1, .ref p), (2, .int a), (3, .int b), (4, .int c), (5, .int y18)] [] σ20 := by
      intro n24
      induction n24 with
      | zero =>
        intro σ20 y18 y19 h21 h22 h23 h24 h25 h26 h27 h28 h29 h30 h31 h32 h33
        first | exact (q_14257feae7 h30 h31).elim | (exfalso; omega)
      | succ n24 ih24 =>
        intro σ20 y18 y19 h21 h22 h23 h24 h25 h26 h27 h28 h29 h30 h31 h32 h33
        refine En_Ps 2 (pc' := 27) (lv' := [(0, .ref 14), (1, .ref p), (2, .int a), (3, .int b), (4, .int c), (5, .int y18)]) (st' := [.ref p, .int y18]) rfl ?_
        refine En_getK (j := 11) h24 rfl rfl rfl hp (by decide +kernel) ?_
        refine En_icGe _ rfl rfl rfl (fun h34 => ?_) (fun h34 => ?_)
        · exact En_ret (v := none) rfl rfl rfl ⟨h21, h22, y19, h25, rfl, ⟨by first | exact q_c803b490ef h28 | omega, by first | exact q_4e46b9e1ab h29 | omega, PFR_of h32 hn (by omega) (by omega) (by omega)⟩⟩
        · refine En_Ps 2 (pc' := 36) (lv' := [(0, .ref 14), (1, .ref p), (2, .int a), (3, .int b), (4, .int c), (5, .int y18)]) (st' := [.int y18, .int b]) rfl ?_
          refine En_callS rfl rfl rfl rfl rfl rfl rfl rfl rfl (c_108ax σ20 h21 b y18 (geI rfl (by first | exact q_58e6e51dcc hl_b | omega)) (leI rfl (by first | exact q_442e014c00 hu_b | omega)) (geI rfl (by first | exact q_58e6e51dcc h26 | omega)) (leI rfl (by first | exact q_65989d2eba h27 | omega))) (by decide) (by decide) (fun v36 σ37 h35 => ?_)
          obtain ⟨h38, h39, z41, rfl, h40⟩ := h35
          have h42 := h40.2.2
          obtain rfl : σ20 = σ37 := Fr_nil h39
          refine En_iNe _ rfl rfl (fun h43 => ?_) (fun h43 => ?_)
          · refine En_Ps 1 (pc' := 144) (lv' := [(5, .int ((y18 + Int32.ofInt 1))), (0, .ref 14), (1, .ref p), (2, .int a), (3, .int b), (4, .int c)]) (st' := []) rfl ?_
            refine En_lv1 (addI rfl (by decide : (Int32.ofInt 1).toInt = 1) (by first | exact q_465ab79ac1 h26 | omega) (by first | exact q_9a865ca0e4 h27 | omega)) (fun z44 h45 => ?_)
            refine En_Ps 1 (pc' := 24) (lv' := [(5, .int z44), (0, .ref 14), (1, .ref p), (2, .int a), (3, .int b), (4, .int c)]) (st' := []) rfl ?_
            refine En_lv (lv := [(0, .ref 14), (1, .ref p), (2, .int a), (3, .int b), (4, .int c), (5, .int z44)]) ⟨rfl, rfl, rfl, rfl, rfl, rfl, trivial⟩ ?_
            exact ih24 σ20 z44 y19 h21 h22 h23 h24 h25 (by first | exact q_35104ce9d3 h45 h26 | omega) (by first | exact q_c76cfd8d15 h45 h34 h4 | omega) (by first | exact q_58e6e51dcc h28 | omega) (by first | exact q_2a7c2c8d7c h29 | omega) (by first | exact q_ae2dbf4292 h34 h45 | omega) (by first | exact q_8d03a5a7cb h45 h31 | omega) (PFI_b h32 (by omega) (by omega) h42 (by omega) (by omega)) ((by omega))
          · refine En_Ps 1 (pc' := 43) (lv' := [(0, .ref 14), (1, .ref p), (2, .int a), (3, .int b), (4, .int c), (5, .int y18)]) (st' := [.ref p]) rfl ?_
            refine En_getR (j := 13) (g' := 26) (u := 0) rfl rfl rfl hp (by decide +kernel) h21 (by decide +kernel) (fun a47 h46 ha47 => ?_)
            have t48 : a47 = p + 8 := ref_uniq h46 (FXP_fr hP hX h22 (by decide +kernel)).2.2.2.2.2.1
            refine En_Ps 1 (pc' := 48) (lv' := [(0, .ref 14), (1, .ref p), (2, .int a), (3, .int b), (4, .int c), (5, .int y18)]) (st' := [.int y18, .ref a47]) rfl ?_
            refine En_iald (l := 0) (u := 63) rfl rfl ha47 (by decide +kernel) h21 (by first | exact q_58e6e51dcc h26 | omega) (lnI (by decide +kernel : LN _ = 6) (by first | exact q_f252e21553 h34 h4 | omega)) (FTsgl (by decide +kernel)) (fun z50 h49 h51 h52 => ?_)
            have h53 : ci σ20 a47 (y18.toInt) = z50.toInt := ci_at h49 rfl
            have t54 := lc_c (m := y18.toInt) (by omega) (by omega)
            have t55 : Wv (155 + 2 * (y18.toInt)) = z50.toInt := KN_v (KN_fr hP hK h22 (by decide +kernel)) (Or.inr (Or.inr (Or.inr (Or.inr (Or.inr (Or.inl ⟨by omega, by omega, by omega⟩)))))) (by omega) (by omega) (by omega) (by omega) h49
            have h56 := hc y18.toInt (by omega) (by omega)
            have h57 : z50.toInt < pI y18.toInt := by have e9 := h56.2.2.1; omega
            refine En_Ps 3 (pc' := 52) (lv' := [(0, .ref 14), (1, .ref p), (2, .int a), (3, .int b), (4, .int c), (5, .int y18)]) (st' := [.int ((b ^^^ ((Int32.ofInt (-1))))), .int z50]) rfl ?_
            refine En_nam (fun z58 h59 => ?_)
            refine En_Ps 1 (pc' := 53) (lv' := [(0, .ref 14), (1, .ref p), (2, .int a), (3, .int b), (4, .int c), (5, .int y18)]) (st' := [.int ((z50 &&& z58))]) rfl ?_
            refine En_nam (fun z61 h62 => ?_)
            have h63 : z61.toInt = z50.toInt - aN z50.toInt b.toInt := andn_v h62 h59 rfl rfl (by omega) (by omega)
            have := aN_le (X := z50.toInt) (Y := b.toInt) (by omega) (by omega)
            refine En_iNe _ rfl rfl (fun h64 => ?_) (fun h64 => ?_)
            · refine En_Ps 1 (pc' := 144) (lv' := [(5, .int ((y18 + Int32.ofInt 1))), (0, .ref 14), (1, .ref p), (2, .int a), (3, .int b), (4, .int c)]) (st' := []) rfl ?_
              refine En_lv1 (addI rfl (by decide : (Int32.ofInt 1).toInt = 1) (by first | exact q_465ab79ac1 h26 | omega) (by first | exact q_9a865ca0e4 h27 | omega)) (fun z65 h66 => ?_)
              refine En_Ps 1 (pc' := 24) (lv' := [(5, .int z65), (0, .ref 14), (1, .ref p), (2, .int a), (3, .int b), (4, .int c)]) (st' := []) rfl ?_
              refine En_lv (lv := [(0, .ref 14), (1, .ref p), (2, .int a), (3, .int b), (4, .int c), (5, .int z65)]) ⟨rfl, rfl, rfl, rfl, rfl, rfl, trivial⟩ ?_
              exact ih24 σ20 z65 y19 h21 h22 h23 h24 h25 (by first | exact q_35104ce9d3 h66 h26 | omega) (by first | exact q_c76cfd8d15 h66 h34 h4 | omega) (by first | exact q_58e6e51dcc h28 | omega) (by first | exact q_2a7c2c8d7c h29 | omega) (by first | exact q_ae2dbf4292 h34 h66 | omega) (by first | exact q_8d03a5a7cb h66 h31 | omega) (PFI_n (z := z61.toInt) h32 (by omega) (by omega) t55 (by omega) h57 (by omega) (by omega) (by omega)) ((by omega))
            · obtain ⟨h67, h68⟩ := andn_zero h62 h59 h64 rfl rfl (by omega)
              refine En_Ps 3 (pc' := 60) (lv' := [(0, .ref 14), (1, .ref p), (2, .int a), (3, .int b), (4, .int c), (5, .int y18)]) (st' := [.int y18, .ref p, .ref 14]) rfl ?_
              refine En_callV rfl rfl rfl rfl rfl rfl rfl rfl tgz_14 (by decide +kernel) rfl (c_92x σ20 h21 p hp y18 (geI rfl (by first | exact q_58e6e51dcc h26 | omega)) (leI rfl (by first | exact q_2c6b8d4bd3 h34 h4 | omega)) te h23 hP (FXP_fr hP hX h22 (by decide +kernel)) (KN_fr hP hK h22 (by decide +kernel)) hN6 (by omega) hc (BSB_m (BSB_e hB h32.2.1) (by omega))) (by decide) (by decide) (fun v70 σ71 h69 => ?_)
              obtain ⟨h72, h73, z75, rfl, h74⟩ := h69
              have h76 := h74.2.2
              obtain rfl : σ20 = σ71 := Fr_nil h73
              refine En_Ps 3 (pc' := 68) (lv' := [(6, .int z75), (0, .ref 14), (1, .ref p), (2, .int a), (3, .int b), (4, .int c), (5, .int y18)]) (st' := [.ref p, .int z75]) rfl ?_
              refine En_getR (j := 12) (g' := 25) (u := 0) rfl rfl rfl hp (by decide +kernel) h21 (by decide +kernel) (fun a78 h77 ha78 => ?_)
              have t79 : a78 = p + 7 := ref_uniq h77 (FXP_fr hP hX h22 (by decide +kernel)).2.2.2.2.1
              refine En_Ps 1 (pc' := 73) (lv' := [(6, .int z75), (0, .ref 14), (1, .ref p), (2, .int a), (3, .int b), (4, .int c), (5, .int y18)]) (st' := [.int y18, .ref a78, .int z75]) rfl ?_
              refine En_iald (l := 0) (u := 9) rfl rfl ha78 (by decide +kernel) h21 (by first | exact q_58e6e51dcc h26 | omega) (lnI (by decide +kernel : LN _ = 6) (by first | exact q_f252e21553 h34 h4 | omega)) (FTsgl (by decide +kernel)) (fun z81 h80 h82 h83 => ?_)
              have h84 : ci σ20 a78 (y18.toInt) = z81.toInt := ci_at h80 rfl
              have t85 := lc_c (m := y18.toInt) (by omega) (by omega)
              have t86 : Wv (154 + 2 * (y18.toInt)) = z81.toInt := KN_v (KN_fr hP hK h22 (by decide +kernel)) (Or.inr (Or.inr (Or.inr (Or.inr (Or.inr (Or.inl ⟨by omega, by omega, by omega⟩)))))) (by omega) (by omega) (by omega) (by omega) h80
              have h87 : 1 ≤ z81.toInt := by have e9 := h56.1 (by omega); omega
              refine En_Ps 1 (pc' := 75) (lv' := [(6, .int z75), (0, .ref 14), (1, .ref p), (2, .int a), (3, .int b), (4, .int c), (5, .int y18)]) (st' := [.int ((z75 + z81))]) rfl ?_
              refine En_top (addI rfl rfl (by first | exact q_2027e39019 h74.1 h82 | omega) (by first | exact q_66d03a076a h74.2.1 h83 | omega)) (fun z88 h89 => ?_)
              refine En_Ps 1 (pc' := 77) (lv' := [(7, .int z88), (6, .int z75), (0, .ref 14), (1, .ref p), (2, .int a), (3, .int b), (4, .int c), (5, .int y18)]) (st' := []) rfl ?_
              refine En_Ps 2 (pc' := 80) (lv' := [(7, .int z88), (6, .int z75), (0, .ref 14), (1, .ref p), (2, .int a), (3, .int b), (4, .int c), (5, .int y18)]) (st' := [.ref 14, .int z88]) rfl ?_
              refine En_getK (j := 4) h25 rfl rfl rfl tgz_14 (by decide +kernel) ?_
              refine En_icGt _ rfl rfl rfl (fun h90 => ?_) (fun h90 => ?_)
              · refine En_Ps 1 (pc' := 144) (lv' := [(5, .int ((y18 + Int32.ofInt 1))), (7, .int z88), (6, .int z75), (0, .ref 14), (1, .ref p), (2, .int a), (3, .int b), (4, .int c)]) (st' := []) rfl ?_
                refine En_lv1 (addI rfl (by decide : (Int32.ofInt 1).toInt = 1) (by first | exact q_465ab79ac1 h26 | omega) (by first | exact q_9a865ca0e4 h27 | omega)) (fun z91 h92 => ?_)
                refine En_Ps 1 (pc' := 24) (lv' := [(5, .int z91), (7, .int z88), (6, .int z75), (0, .ref 14), (1, .ref p), (2, .int a), (3, .int b), (4, .int c)]) (st' := []) rfl ?_
                refine En_lv (lv := [(0, .ref 14), (1, .ref p), (2, .int a), (3, .int b), (4, .int c), (5, .int z91)]) ⟨rfl, rfl, rfl, rfl, rfl, rfl, trivial⟩ ?_
                exact ih24 σ20 z91 y19 h21 h22 h23 h24 h25 (by first | exact q_35104ce9d3 h92 h26 | omega) (by first | exact q_c76cfd8d15 h92 h34 h4 | omega) (by first | exact q_58e6e51dcc h28 | omega) (by first | exact q_2a7c2c8d7c h29 | omega) (by first | exact q_ae2dbf4292 h34 h92 | omega) (by first | exact q_8d03a5a7cb h92 h31 | omega) (PFI_l h32 h76 (ci_at (j := 3) h23 rfl) (by omega) (by omega) t86 (by omega) (by omega) (by omega) (by omega) (by omega)) ((by omega))
              · refine En_Ps 2 (pc' := 90) (lv' := [(7, .int z88), (6, .int z75), (0, .ref 14), (1, .ref p), (2, .int a), (3, .int b), (4, .int c), (5, .int y18)]) (st' := [.int (((Int8.ofInt 54).toInt32)), .int z88]) rfl ?_
                refine En_icGt _ rfl (by decide : ((Int8.ofInt 54).toInt32).toInt = 54) rfl (fun h93 => ?_) (fun h93 => ?_)
                · refine En_Ps 1 (pc' := 144) (lv' := [(5, .int ((y18 + Int32.ofInt 1))), (7, .int z88), (6, .int z75), (0, .ref 14), (1, .ref p), (2, .int a), (3, .int b), (4, .int c)]) (st' := []) rfl ?_
                  refine En_lv1 (addI rfl (by decide : (Int32.ofInt 1).toInt = 1) (by first | exact q_465ab79ac1 h26 | omega) (by first | exact q_9a865ca0e4 h27 | omega)) (fun z94 h95 => ?_)
                  refine En_Ps 1 (pc' := 24) (lv' := [(5, .int z94), (7, .int z88), (6, .int z75), (0, .ref 14), (1, .ref p), (2, .int a), (3, .int b), (4, .int c)]) (st' := []) rfl ?_
                  refine En_lv (lv := [(0, .ref 14), (1, .ref p), (2, .int a), (3, .int b), (4, .int c), (5, .int z94)]) ⟨rfl, rfl, rfl, rfl, rfl, rfl, trivial⟩ ?_
                  exact ih24 σ20 z94 y19 h21 h22 h23 h24 h25 (by first | exact q_35104ce9d3 h95 h26 | omega) (by first | exact q_c76cfd8d15 h95 h34 h4 | omega) (by first | exact q_58e6e51dcc h28 | omega) (by first | exact q_2a7c2c8d7c h29 | omega) (by first | exact q_ae2dbf4292 h34 h95 | omega) (by first | exact q_8d03a5a7cb h95 h31 | omega) (PFI_l h32 h76 (ci_at (j := 3) h23 rfl) (by omega) (by omega) t86 (by omega) (by omega) (by omega) (by omega) (by omega)) ((by omega))
                · refine En_Ps 1 (pc' := 94) (lv' := [(7, .int z88), (6, .int z75), (0, .ref 14), (1, .ref p), (2, .int a), (3, .int b), (4, .int c), (5, .int y18)]) (st' := [.ref 14]) rfl ?_
                  refine En_getU (j := 1) (u := 16) (g' := 16) (q := 0) rfl rfl rfl tgz_14 (by decide +kernel) h21 (by decide +kernel) un_16_16 (fun h96 => ?_)
                  refine En_Ps 2 (pc' := 101) (lv' := [(7, .int z88), (6, .int z75), (0, .ref 14), (1, .ref p), (2, .int a), (3, .int b), (4, .int c), (5, .int y18)]) (st' := [.int z75, .int y18, .ref 16]) rfl ?_
                  refine En_iast (l := 0) (u := 54) rfl rfl tgz_16 (by decide +kernel) (by first | exact q_58e6e51dcc h26 | omega) (lnI (by decide +kernel : LN _ = 6) (by first | exact q_f252e21553 h34 h4 | omega)) (FTsgl (by decide +kernel)) (rngI rfl (by first | exact q_ef1e8e38bf h74.1 | omega) (by first | exact q_f1c8c7c399 h74.2.1 | omega)) h21 h22 (by decide +kernel) (fun σ98 h99 h100 h101 h102 => ?_)
                  have h103 := BSB_e (BSB_e hB h32.2.1) (fun x _ => ci_ne h102 (by decide) (x : Int) : BSS _ σ98)
                  refine En_Ps 4 (pc' := 108) (lv' := [(7, .int z88), (6, .int z75), (0, .ref 14), (1, .ref p), (2, .int a), (3, .int b), (4, .int c), (5, .int y18)]) (st' := [.int ((Int32.ofInt 1)), .int z88, .int z75, .ref 14]) rfl ?_
                  have := (by decide : ((Int32.ofInt 1)).toInt = 1)
                  refine En_callV rfl rfl rfl rfl rfl rfl rfl rfl tgz_14 (by decide +kernel) rfl (c_99x σ98 h99 z75 z88 ((Int32.ofInt 1)) (geI rfl (by first | exact q_ef1e8e38bf h74.1 | omega)) (leI rfl (by first | exact q_f1c8c7c399 h74.2.1 | omega)) (geI (by decide : (Int32.ofInt 1).toInt = 1) (by decide)) (leI (by decide : (Int32.ofInt 1).toInt = 1) (by decide)) (BSB_m h103 (by omega))) (by decide) (by decide) (fun v105 σ106 h104 => ?_)
                  obtain ⟨h107, h108, rfl, h109⟩ := h104
                  have h110 := h109
                  have h111 := Fr_trans h100 h108 (by decide +kernel)
                  refine En_Ps 5 (pc' := 116) (lv' := [(7, .int z88), (6, .int z75), (0, .ref 14), (1, .ref p), (2, .int a), (3, .int b), (4, .int c), (5, .int y18)]) (st' := [.int ((a + ((Int32.ofInt 1)))), .ref p, .ref 14]) rfl ?_
                  refine En_top (addI rfl (by decide : (Int32.ofInt 1).toInt = 1) (by first | exact q_465ab79ac1 hl_a | omega) (by first | exact q_2918abfa70 h17 | omega)) (fun z112 h113 => ?_)
                  refine En_Ps 5 (pc' := 122) (lv' := [(7, .int z88), (6, .int z75), (0, .ref 14), (1, .ref p), (2, .int a), (3, .int b), (4, .int c), (5, .int y18)]) (st' := [.int ((b ||| ((Int32.ofInt 1) <<< (y18 &&& 31)))), .int z112, .ref p, .ref 14]) rfl ?_
                  refine En_nam (fun z114 h115 => ?_)
                  have h116 := or_small h115 rfl rfl (by omega) (by omega) (by omega) (by omega)
                  refine En_Ps 2 (pc' := 126) (lv' := [(7, .int z88), (6, .int z75), (0, .ref 14), (1, .ref p), (2, .int a), (3, .int b), (4, .int c), (5, .int y18)]) (st' := [.int z88, .int c, .int z114, .int z112, .ref p, .ref 14]) rfl ?_
                  refine En_callS rfl rfl rfl rfl rfl rfl rfl rfl rfl (c_10 σ106 h107 c z88) (by decide) (by decide) (fun v118 σ119 h117 => ?_)
                  obtain ⟨h120, h121, z123, rfl, h122⟩ := h117
                  obtain rfl : σ106 = σ119 := Fr_nil h121
                  refine En_callS rfl rfl rfl rfl rfl rfl rfl rfl rfl (c_96fx σ106 h107 p hp z112 z114 z123 (geI rfl (by first | exact q_246139cee3 h113 hl_a | omega)) (leI rfl (by first | exact q_13d1e79bb8 h113 h17 | omega)) (geI rfl (by omega)) (leI rfl (by omega)) (geI rfl (by first | exact q_f062bc8aa8 h122.1 hl_c | omega)) (leI rfl (by omega)) y19 ((h108 _ _ (inW tgz_14 (by decide +kernel))).trans ((h102 _ _ (Or.inl (neTG tgz_14 tgz_16 (by decide)))).trans h25)) te ((h108 _ _ (inW tgz_14 (by decide +kernel))).trans ((h102 _ _ (Or.inl (neTG tgz_14 tgz_16 (by decide)))).trans h23)) hP (FXP_fr hP hX h111 (by decide +kernel)) (KN_fr hP hK h111 (by decide +kernel)) hN6 hc (BSB_w h103 h110 (by omega)) (PF_cnt hn (by omega) (by omega) h42 (by omega) (by omega) h116.1 (by omega))) (by decide) (by decide) (fun v125 σ126 h124 => ?_)
                  obtain ⟨h127, h128, z130, h131, rfl, h129⟩ := h124
                  have h132 := h129.2.2
                  have h133 := Fr_trans h111 h128 (by decide +kernel)
                  refine En_Ps 4 (pc' := 138) (lv' := [(7, .int z88), (6, .int z75), (0, .ref 14), (1, .ref p), (2, .int a), (3, .int b), (4, .int c), (5, .int y18)]) (st' := [.int ((Int32.ofInt (-1))), .int z88, .int z75, .ref 14]) rfl ?_
                  have := (by decide : ((Int32.ofInt (-1))).toInt = -1)
                  refine En_callV rfl rfl rfl rfl rfl rfl rfl rfl tgz_14 (by decide +kernel) rfl (c_99x σ126 h127 z75 z88 ((Int32.ofInt (-1))) (geI rfl (by first | exact q_ef1e8e38bf h74.1 | omega)) (leI rfl (by first | exact q_f1c8c7c399 h74.2.1 | omega)) (geI (by decide : (Int32.ofInt (-1)).toInt = -1) (by decide)) (leI (by decide : (Int32.ofInt (-1)).toInt = -1) (by decide)) (BSB_m (BSB_e (BSB_w (m := 7) h103 h110 (by omega)) h132.2.1) (by omega))) (by decide) (by decide) (fun v135 σ136 h134 => ?_)
                  obtain ⟨h137, h138, rfl, h139⟩ := h134
                  have h140 := h139
                  have h141 := Fr_trans h133 h138 (by decide +kernel)
                  refine En_Ps 1 (pc' := 144) (lv' := [(5, .int ((y18 + Int32.ofInt 1))), (7, .int z88), (6, .int z75), (0, .ref 14), (1, .ref p), (2, .int a), (3, .int b), (4, .int c)]) (st' := []) rfl ?_
                  refine En_lv1 (addI rfl (by decide : (Int32.ofInt 1).toInt = 1) (by first | exact q_465ab79ac1 h26 | omega) (by first | exact q_9a865ca0e4 h27 | omega)) (fun z142 h143 => ?_)
                  refine En_Ps 1 (pc' := 24) (lv' := [(5, .int z142), (7, .int z88), (6, .int z75), (0, .ref 14), (1, .ref p), (2, .int a), (3, .int b), (4, .int c)]) (st' := []) rfl ?_
                  refine En_lv (lv := [(0, .ref 14), (1, .ref p), (2, .int a), (3, .int b), (4, .int c), (5, .int z142)]) ⟨rfl, rfl, rfl, rfl, rfl, rfl, trivial⟩ ?_
                  exact ih24 σ136 z142 z130 h137 h141 ((h138 _ _ (inW tgz_14 (by decide +kernel))).trans ((h128 _ _ (inW tgz_14 (by decide +kernel))).trans ((h108 _ _ (inW tgz_14 (by decide +kernel))).trans ((h102 _ _ (Or.inl (neTG tgz_14 tgz_16 (by decide)))).trans h23)))) ((h138 _ _ (inW hp (by decide +kernel))).trans ((h128 _ _ (inW hp (by decide +kernel))).trans ((h108 _ _ (inW hp (by decide +kernel))).trans ((h102 _ _ (Or.inl (neTG hp tgz_16 (by decide)))).trans h24)))) ((h138 _ _ (inW tgz_14 (by decide +kernel))).trans h131) (by first | exact q_35104ce9d3 h143 h26 | omega) (by first | exact q_c76cfd8d15 h143 h34 h4 | omega) (by first | exact q_ef1e8e38bf h129.1 | omega) (by first | exact q_1a8f925876 h129.2.1 | omega) (by first | exact q_ae2dbf4292 h34 h143 | omega) (by first | exact q_8d03a5a7cb h143 h31 | omega) (PFI_i (z := z61.toInt) h32 h76 (ci_at (j := 3) h23 rfl) (by omega) (by omega) (by omega) t86 (by omega) (by omega) (by omega) (by omega) (by omega) h42 (by omega) t55 (by omega) h57 (by omega) (by omega) hB h101 h102 (by omega) h110 h108 (by decide +kernel) h116.1 (by omega) (by omega) h132 h140 h138 (by decide +kernel) (by omega)) ((by omega))
    have := (by decide : (Int32.ofInt 0).toInt = 0)
    refine En_lv (lv := [(0, .ref 14), (1, .ref p), (2, .int a), (3, .int b), (4, .int c), (5, .int ((Int32.ofInt 0)))]) ⟨rfl, rfl, rfl, rfl, rfl, rfl, trivial⟩ ?_
    exact key24 (Int.toNat (z2.toInt) + 1) σ0 ((Int32.ofInt 0)) so hσ0 hF0 h_te h1 h_so (by decide) (by decide) (by first | exact q_58e6e51dcc hl_so | omega) (by first | exact q_2a7c2c8d7c hu_so | omega) (by omega) (by first | exact toN_lt _ | omega) (PFI_0 (by omega) rfl) ((by omega))
/-- DoorSchool$Timetable.solve(LDoorSchool$Plan;I)I -/
abbrev P_98x (σ0 : SG) (Wv : Int → Int) (a : Nat) (b : Int32) : PO := fun v σ => WT σ ∧ Fr [(14, 3), (14, 4), (15, 0), (16, 0), (17, 0)] σ0 σ ∧ ∃ ret : Int32, v = some (Value.int ret) ∧ -ret.toInt ≤ 0 ∧ ret.toInt - 1000 ≤ 0 ∧ (LSW Wv b.toInt ret.toInt ∧ BSS σ0 σ)
set_option maxRecDepth 10000 in
set_option maxHeartbeats 4000000 in
theorem c_98x {Wv : Int → Int} (σ0 : SG) (hσ0 : WT σ0) (a : Nat) (ha : TG a = 18) (b : Int32) (hl_b : 1 ≤ b.toInt) (hu_b : b.toInt ≤ 4) (hP : PLA a) (hX : FXP σ0 a) (hK : KN σ0 a Wv (act Wv)) (hN6 : Wv 5 ≤ 6) (hc : CX Wv) (hN0 : 0 ≤ Wv 5) (hT9 : ∀ c : Nat, tkW Wv c ≤ 9) (hZ : BSZ σ0) : En 10 270 none mr_98 (P_98x σ0 Wv a b) 0 [(0, .ref 14), (1, .ref a), (2, .int b)] [] σ0 := by
  have hF0 : Fr [(14, 3), (14, 4), (15, 0), (16, 0), (17, 0)] σ0 σ0 := Fr_rfl
  refine En_Ps 2 (pc' := 2) (lv' := [(0, .ref 14), (1, .ref a), (2, .int b)]) (st' := [.int b, .ref 14]) rfl ?_
  refine En_put (j := 3) rfl rfl rfl tgz_14 (by decide +kernel) rfl (vI (l := (-1)) (u := 4) (by decide +kernel) rfl (by first | exact q_10c063c685 hl_b | omega) (by first | exact q_c82ed93a8c hu_b | omega)) hσ0 hF0 (by decide +kernel) (fun σ1 h2 h3 h4 h5 => ?_)
  have h6 : BSS σ0 σ1 := (fun x _ => ci_ne h5 (by decide) (x : Int) : BSS _ σ1)
  refine En_Ps 2 (pc' := 8) (lv' := [(0, .ref 14), (1, .ref a), (2, .int b)]) (st' := [.int (((Int8.ofInt 55).toInt32)), .ref 14]) rfl ?_
  refine En_put (j := 4) rfl rfl rfl tgz_14 (by decide +kernel) rfl (vI (l := 0) (u := 1000) (by decide +kernel) (by decide : ((Int8.ofInt 55).toInt32).toInt = 55) (by decide) (by decide)) h2 h3 (by decide +kernel) (fun σ7 h8 h9 h10 h11 => ?_)
  have h12 : BSS σ0 σ7 := BSS_t h6 (fun x _ => ci_ne h11 (by decide) (x : Int) : BSS _ σ7)
  refine En_Ps 1 (pc' := 12) (lv' := [(0, .ref 14), (1, .ref a), (2, .int b)]) (st' := [.ref 14]) rfl ?_
  refine En_getU (j := 1) (u := 16) (g' := 16) (q := 0) rfl rfl rfl tgz_14 (by decide +kernel) h8 (by decide +kernel) un_16_16 (fun h13 => ?_)
  refine En_Ps 1 (pc' := 16) (lv' := [(0, .ref 14), (1, .ref a), (2, .int b)]) (st' := [.int ((Int32.ofInt 0)), .ref 16]) rfl ?_
  have := (by decide : ((Int32.ofInt 0)).toInt = 0)
  refine En_callS rfl rfl rfl rfl rfl rfl rfl rfl rfl (c_8bx σ7 h8 16 tgz_16 ((Int32.ofInt 0)) (geI (by decide : (Int32.ofInt 0).toInt = 0) (by decide)) (leI (by decide : (Int32.ofInt 0).toInt = 0) (by decide))) (by decide) (by decide) (fun v16 σ17 h15 => ?_)
  obtain ⟨h18, h19, rfl, h20⟩ := h15
  have h21 := Fr_trans h9 h19 (by decide +kernel)
  have h22 : BSS σ0 σ17 := BSS_t h12 (BSS_fr h19 (by decide +kernel))
  have h23 : BSZ σ17 := BSZ_b hZ h22
  refine En_Ps 5 (pc' := 24) (lv' := [(0, .ref 14), (1, .ref a), (2, .int b)]) (st' := [.int ((Int32.ofInt 0)), .int ((Int32.ofInt 0)), .int ((Int32.ofInt 0)), .ref a, .ref 14]) rfl ?_
  have := (by decide : ((Int32.ofInt 0)).toInt = 0)
  have := (by decide : ((Int32.ofInt 0)).toInt = 0)
  have := (by decide : ((Int32.ofInt 0)).toInt = 0)
  refine En_callS rfl rfl rfl rfl rfl rfl rfl rfl rfl (c_96gx σ17 h18 a ha ((Int32.ofInt 0)) ((Int32.ofInt 0)) ((Int32.ofInt 0)) (geI (by decide : (Int32.ofInt 0).toInt = 0) (by decide)) (leI (by decide : (Int32.ofInt 0).toInt = 0) (by decide)) (geI (by decide : (Int32.ofInt 0).toInt = 0) (by decide)) (leI (by decide : (Int32.ofInt 0).toInt = 0) (by decide)) (geI (by decide : (Int32.ofInt 0).toInt = 0) (by decide)) (leI (by decide : (Int32.ofInt 0).toInt = 0) (by decide)) (((Int8.ofInt 55).toInt32)) ((h19 _ _ (inW tgz_14 (by decide +kernel))).trans h10) b ((h19 _ _ (inW tgz_14 (by decide +kernel))).trans ((h11 _ _ (Or.inr (by decide))).trans h4)) hP (FXP_fr hP hX h21 (by decide +kernel)) (KN_fr hP hK h21 (by decide +kernel)) hN6 hc (BSZ_B h23 (by decide)) (PF_cnt0 (by decide) (by decide))) (by decide) (by decide) (fun v25 σ26 h24 => ?_)
  obtain ⟨h27, h28, z30, h31, rfl, h29⟩ := h24
  have h32 := h29.2.2
  have h33 := Fr_trans h21 h28 (by decide +kernel)
  refine En_Ps 1 (pc' := 28) (lv' := [(0, .ref 14), (1, .ref a), (2, .int b)]) (st' := [.ref 14]) rfl ?_
  refine En_getK (j := 4) h31 rfl rfl rfl tgz_14 (by decide +kernel) ?_
  exact En_ret (v := some (Value.int z30)) rfl rfl rfl ⟨h27, h33, z30, rfl, ⟨by first | exact q_a555021d16 h29.1 | omega, by first | exact q_1655d09eed h29.2.1 | omega, ⟨PFR_slv h32 h23 (by decide) (by decide) (by first | omega | decide) (by omega) hN0 hN6 hT9 (by omega) (by omega), BSS_t h22 h32.2.1⟩⟩⟩
/-- DoorSchool.back(I)I -/
abbrev P_105x (σ0 : SG) (a : Int32) (p : Nat) (sg : Int32) (p2 : Nat) : PO := fun v σ => WT σ ∧ Fr [(4, 0), (4, 1), (5, 0), (6, 0), (7, 0), (18, 0), (18, 1), (18, 2), (18, 3), (18, 6), (18, 7), (18, 8), (18, 11), (18, 14), (20, 2), (21, 0), (22, 0), (23, 0), (24, 0), (25, 0), (26, 0), (27, 0), (28, 1), (28, 2), (28, 3)] σ0 σ ∧ ∃ ret : Int32, v = some (Value.int ret) ∧ -ret.toInt - 6 ≤ 0 ∧ ret.toInt ≤ 0 ∧ (INVc σ ∧ BCK (ci σ0 71 a.toInt) a.toInt ret.toInt ∧ BKC σ0 σ p a.toInt (ci σ0 71 a.toInt) ∧ RBK σ0 σ p a.toInt (ci σ0 71 a.toInt))
set_option maxRecDepth 10000 in
set_option maxHeartbeats 4000000 in
theorem c_105x (σ0 : SG) (hσ0 : WT σ0) (a : Int32) (p : Nat) (hp : TG p = 18) (h_p : (σ0 0)[9]? = some (Value.ref p)) (sg : Int32) (h_sg : (σ0 p)[1]? = some (Value.int sg)) (p2 : Nat) (hp2 : TG p2 = 18) (h_p2 : (σ0 0)[10]? = some (Value.ref p2)) (hp0 : -sg.toInt ≤ 0) (hne : p ≠ p2) (hP : PLA p) (hX : FXP σ0 p) (hM : IMX σ0) : En 4 124 none mr_105 (P_105x σ0 a p sg p2) 0 [(0, .ref 0), (1, .int a)] [] σ0 := by
  obtain ⟨hl_sg, hu_sg⟩ := WT_int hσ0 (g := 18) hp (by decide +kernel) (l := (-1)) (u := 4) (by decide +kernel) h_sg
  have hF0 : Fr [(4, 0), (4, 1), (5, 0), (6, 0), (7, 0), (18, 0), (18, 1), (18, 2), (18, 3), (18, 6), (18, 7), (18, 8), (18, 11), (18, 14), (20, 2), (21, 0), (22, 0), (23, 0), (24, 0), (25, 0), (26, 0), (27, 0), (28, 1), (28, 2), (28, 3)] σ0 σ0 := Fr_rfl
  refine En_Ps 1 (pc' := 1) (lv' := [(0, .ref 0), (1, .int a)]) (st' := [.int a]) rfl ?_
  refine En_iLt _ rfl rfl (fun h1 => ?_) (fun h1 => ?_)
  · refine En_Ps 1 (pc' := 11) (lv' := [(0, .ref 0), (1, .int a)]) (st' := [.int (((Int8.ofInt (-2)).toInt32))]) rfl ?_
    refine En_top (by decide : ((Int8.ofInt (-2)).toInt32).toInt = -2) (fun z2 h3 => ?_)
    exact En_ret (v := some (Value.int z2)) rfl rfl rfl ⟨hσ0, hF0, z2, rfl, ⟨by first | exact q_2583522324 h3 | omega, by first | exact q_bbb39ffa1e h3 | omega, ⟨⟨p, p2, sg, hp, hp2, h_p, h_p2, hne, h_sg, (by (first | exact q_ef1e8e38bf hp0 | omega))⟩, BCK_2 (by (first | exact q_6f61c1a31d h1 | omega)) (by (first | exact q_a664922815 h3 | omega)), BKC_no (by (first | exact q_abfa98c663 h1 | omega)), ⟨fun _ _ _ => by exfalso; omega, fun _ => RSAM_0⟩⟩⟩⟩
  · refine En_Ps 2 (pc' := 6) (lv' := [(0, .ref 0), (1, .int a)]) (st' := [.int ((Int32.ofInt 3)), .int a]) rfl ?_
    refine En_icLt _ rfl (by decide : (Int32.ofInt 3).toInt = 3) rfl (fun h4 => ?_) (fun h4 => ?_)
    · refine En_Ps 1 (pc' := 13) (lv' := [(0, .ref 0), (1, .int a)]) (st' := [.ref 0]) rfl ?_
      refine En_getU (j := 8) (u := 71) (g' := 30) (q := 0) rfl rfl rfl tgz_0 (by decide +kernel) hσ0 (by decide +kernel) un_30_71 (fun h5 => ?_)
      refine En_Ps 1 (pc' := 17) (lv' := [(0, .ref 0), (1, .int a)]) (st' := [.int a, .ref 71]) rfl ?_
      refine En_bald (l := 0) (u := 1) rfl rfl tgz_71 (by decide +kernel) hσ0 (by first | exact q_58e6e51dcc h1 | omega) (lnI (by decide +kernel : LN _ = 3) (by first | exact q_59613c85e7 h4 | omega)) (FTsgl (by decide +kernel)) (fun z8 h7 h9 h10 => ?_)
      have h11 := ci_at h7 (rfl : a.toInt = a.toInt)
      refine En_iNe _ rfl rfl (fun h12 => ?_) (fun h12 => ?_)
      · refine En_Ps 1 (pc' := 25) (lv' := [(0, .ref 0), (1, .int a)]) (st' := [.ref 0]) rfl ?_
        refine En_getK (j := 9) h_p rfl rfl rfl tgz_0 (by decide +kernel) ?_
        refine En_Ps 1 (pc' := 29) (lv' := [(0, .ref 0), (1, .int a)]) (st' := [.ref 0, .ref p]) rfl ?_
        refine En_getU (j := 7) (u := 70) (g' := 29) (q := 0) rfl rfl rfl tgz_0 (by decide +kernel) hσ0 (by decide +kernel) un_29_70 (fun h13 => ?_)
        refine En_Ps 1 (pc' := 33) (lv' := [(0, .ref 0), (1, .int a)]) (st' := [.int a, .ref 70, .ref p]) rfl ?_
        refine En_aald (g' := 31) (u := 0) rfl rfl tgz_70 (by decide +kernel) hσ0 (by first | exact q_58e6e51dcc h1 | omega) (lnI (by decide +kernel : LN _ = 3) (by first | exact q_59613c85e7 h4 | omega)) (FTsgl (by decide +kernel)) (fun a16 h15 ha16 => ?_)
        have h17 : a16 = 72 + 26 * (a.toInt).toNat := ref_uniq h15 (hM (a.toInt).toNat (by (first | exact q_e3cbcd8e5d h4 h1 | omega))).1
        refine En_callV rfl rfl rfl rfl rfl rfl rfl rfl hp (by decide +kernel) rfl (c_53bx σ0 hσ0 p hp a16 ha16 (by rw [h17]; exact (SEP_i (by (first | exact q_e3cbcd8e5d h4 h1 | omega)) hP).2) hX (by rw [h17]; exact (hM (a.toInt).toNat (by (first | exact q_e3cbcd8e5d h4 h1 | omega))).2)) (by decide) (by decide) (fun v19 σ20 h18 => ?_)
        obtain ⟨h21, h22, z24, h25, rfl, h23⟩ := h18
        have h26 := h23.2.2
        have h27 := Fr_trans hF0 h22 (by decide +kernel)
        refine En_Ps 1 (pc' := 38) (lv' := [(0, .ref 0), (1, .int a)]) (st' := [.ref 0]) rfl ?_
        refine En_getU (j := 2) (u := 4) (g' := 4) (q := 0) rfl rfl rfl tgz_0 (by decide +kernel) h21 (by decide +kernel) un_4_4 (fun h29 => ?_)
        refine En_Ps 1 (pc' := 42) (lv' := [(0, .ref 0), (1, .int a)]) (st' := [.ref 0, .ref 4]) rfl ?_
        refine En_getK (j := 9) ((h22 _ _ (inW tgz_0 (by decide +kernel))).trans h_p) rfl rfl rfl tgz_0 (by decide +kernel) ?_
        refine En_getK (j := 1) h25 rfl rfl rfl hp (by decide +kernel) ?_
        refine En_callV rfl rfl rfl rfl rfl rfl rfl rfl tgz_4 (by decide +kernel) rfl (c_82x σ20 h21 z24 (geI rfl (by first | exact q_ef1e8e38bf h23.1 | omega)) (leI rfl (by first | exact q_3b0dd79e8e h23.2.1 | omega))) (by decide) (by decide) (fun v32 σ33 h31 => ?_)
        obtain ⟨h34, h35, rfl, h36⟩ := h31
        have h37 := h36
        have h38 := Fr_trans h27 h35 (by decide +kernel)
        refine En_Ps 1 (pc' := 52) (lv' := [(0, .ref 0), (1, .int a)]) (st' := [.int ((Int32.ofInt 0))]) rfl ?_
        refine En_top (by decide : (Int32.ofInt 0).toInt = 0) (fun z39 h40 => ?_)
        exact En_ret (v := some (Value.int z39)) rfl rfl rfl ⟨h34, h38, z39, rfl, ⟨by first | exact q_49fb6350c2 h40 | omega, by first | exact q_c5d285f1b9 h40 | omega, ⟨⟨p, p2, z24, hp, hp2, ((h35 _ _ (inW tgz_0 (by decide +kernel))).trans ((h22 _ _ (inW tgz_0 (by decide +kernel))).trans h_p)), ((h35 _ _ (inW tgz_0 (by decide +kernel))).trans ((h22 _ _ (inW tgz_0 (by decide +kernel))).trans h_p2)), hne, ((h35 _ _ (inW hp (by decide +kernel))).trans h25), (by (first | exact q_ef1e8e38bf h23.1 | omega))⟩, BCK_0 (by (first | exact q_58e6e51dcc h1 | omega)) (by (first | exact q_f1519f12c0 h4 | omega)) (by (first | exact q_957696b956 h12 h9 h11 | omega)) (by (first | exact q_d2dcd30e56 h40 | omega)), BKC_ok (by (first | exact q_58e6e51dcc h1 | omega)) (by (first | exact q_be4f147e40 h4 | omega)) (by (first | exact q_957696b956 h12 h9 h11 | omega)) h26 h17 h35 (by decide +kernel) (PLA_B hP), ⟨fun _ _ _ => (RULx_eq h37 (ci_at (j := 1) ((h35 _ _ (inW hp (by decide +kernel))).trans h25) rfl)), fun _ => by exfalso; omega⟩⟩⟩⟩
      · refine En_Ps 1 (pc' := 23) (lv' := [(0, .ref 0), (1, .int a)]) (st' := [.int (((Int8.ofInt (-6)).toInt32))]) rfl ?_
        refine En_top (by decide : ((Int8.ofInt (-6)).toInt32).toInt = -6) (fun z41 h42 => ?_)
        exact En_ret (v := some (Value.int z41)) rfl rfl rfl ⟨hσ0, hF0, z41, rfl, ⟨by first | exact q_597c727cce h42 | omega, by first | exact q_9bcb887de1 h42 | omega, ⟨⟨p, p2, sg, hp, hp2, h_p, h_p2, hne, h_sg, (by (first | exact q_ef1e8e38bf hp0 | omega))⟩, BCK_6 (by (first | exact q_58e6e51dcc h1 | omega)) (by (first | exact q_f1519f12c0 h4 | omega)) (by (first | exact q_ca23768860 h11 h12 | omega)) (by (first | exact q_d14eb9a8ad h42 | omega)), BKC_no (by (first | exact q_7c49b01a76 h11 h12 | omega)), ⟨fun _ _ _ => by exfalso; omega, fun _ => RSAM_0⟩⟩⟩⟩
    · refine En_Ps 1 (pc' := 11) (lv' := [(0, .ref 0), (1, .int a)]) (st' := [.int (((Int8.ofInt (-2)).toInt32))]) rfl ?_
      refine En_top (by decide : ((Int8.ofInt (-2)).toInt32).toInt = -2) (fun z43 h44 => ?_)
      exact En_ret (v := some (Value.int z43)) rfl rfl rfl ⟨hσ0, hF0, z43, rfl, ⟨by first | exact q_2583522324 h44 | omega, by first | exact q_bbb39ffa1e h44 | omega, ⟨⟨p, p2, sg, hp, hp2, h_p, h_p2, hne, h_sg, (by (first | exact q_ef1e8e38bf hp0 | omega))⟩, BCK_2 (by (first | exact q_43beb155e0 h4 | omega)) (by (first | exact q_a664922815 h44 | omega)), BKC_no (by (first | exact q_a4f6c86315 h4 | omega)), ⟨fun _ _ _ => by exfalso; omega, fun _ => RSAM_0⟩⟩⟩⟩
end
/-! 32.n08 -/
section
/-- DoorSchool.begins(I)I -/
abbrev P_106x (σ0 : SG) (Wv : Int → Int) (a : Int32) (p : Nat) (sg : Int32) : PO := fun v σ => WT σ ∧ Fr [(14, 3), (14, 4), (15, 0), (16, 0), (17, 0)] σ0 σ ∧ ∃ ret : Int32, v = some (Value.int ret) ∧ -ret.toInt - 2 ≤ 0 ∧ ret.toInt - 54 ≤ 0 ∧ BSS σ0 σ
set_option maxRecDepth 10000 in
set_option maxHeartbeats 4000000 in
theorem c_106x {Wv : Int → Int} (σ0 : SG) (hσ0 : WT σ0) (a : Int32) (p : Nat) (hp : TG p = 18) (h_p : (σ0 0)[9]? = some (Value.ref p)) (sg : Int32) (h_sg : (σ0 p)[1]? = some (Value.int sg)) (hp0 : -sg.toInt ≤ 0) (hP : PLA p) (hX : FXP σ0 p) (hK : KN σ0 p Wv (act Wv)) (hB : WFw Wv) (hc : CX Wv) (hN0 : 0 ≤ Wv 5) (hT9 : ∀ c : Nat, tkW Wv c ≤ 9) (hZ : BSZ σ0) (hI : WINV Wv) : En 11 292 none mr_106 (P_106x σ0 Wv a p sg) 0 [(0, .ref 0), (1, .int a)] [] σ0 := by
  obtain ⟨hl_sg, hu_sg⟩ := WT_int hσ0 (g := 18) hp (by decide +kernel) (l := (-1)) (u := 4) (by decide +kernel) h_sg
  have hF0 : Fr [(14, 3), (14, 4), (15, 0), (16, 0), (17, 0)] σ0 σ0 := Fr_rfl
  have t1 : Wv (0) = sg.toInt := KN_v hK (Or.inl (by decide)) (by decide) (by decide) (by rw [lcO_lt (by decide) (by decide), Nat.add_zero]) rfl h_sg
  obtain ⟨z3, h2, h4, h5⟩ := WT_peekI hσ0 hp (by decide +kernel : FT 18 0 = (0, 0, 1601)) (by decide +kernel)
  have t6 : Wv (7) = z3.toInt := KN_v hK (Or.inl (by decide)) (by decide) (by decide) (by rw [lcO_lt (by decide) (by decide), Nat.add_zero]) rfl h2
  obtain ⟨z8, h7, h9, h10⟩ := WT_peekI hσ0 hp (by decide +kernel : FT 18 2 = (0, (-1), 3)) (by decide +kernel)
  have t11 : Wv (1) = z8.toInt := KN_v hK (Or.inl (by decide)) (by decide) (by decide) (by rw [lcO_lt (by decide) (by decide), Nat.add_zero]) rfl h7
  obtain ⟨z13, h12, h14, h15⟩ := WT_peekI hσ0 hp (by decide +kernel : FT 18 11 = (0, 0, 6)) (by decide +kernel)
  have t16 : Wv (5) = z13.toInt := KN_v hK (Or.inl (by decide)) (by decide) (by decide) (by rw [lcO_lt (by decide) (by decide), Nat.add_zero]) rfl h12
  have h17 := hI.1
  refine En_Ps 1 (pc' := 1) (lv' := [(0, .ref 0), (1, .int a)]) (st' := [.int a]) rfl ?_
  refine En_iLt _ rfl rfl (fun h18 => ?_) (fun h18 => ?_)
  · refine En_Ps 1 (pc' := 17) (lv' := [(0, .ref 0), (1, .int a)]) (st' := [.int (((Int8.ofInt (-2)).toInt32))]) rfl ?_
    refine En_top (by decide : ((Int8.ofInt (-2)).toInt32).toInt = -2) (fun z19 h20 => ?_)
    exact En_ret (v := some (Value.int z19)) rfl rfl rfl ⟨hσ0, hF0, z19, rfl, ⟨by first | exact q_f35c5d346c h20 | omega, by first | exact q_18dc70cc6b h20 | omega, BSS_0⟩⟩
  · refine En_Ps 2 (pc' := 6) (lv' := [(0, .ref 0), (1, .int a)]) (st' := [.ref 0, .int a]) rfl ?_
    refine En_getK (j := 9) h_p rfl rfl rfl tgz_0 (by decide +kernel) ?_
    refine En_getK (j := 11) h12 rfl rfl rfl hp (by decide +kernel) ?_
    refine En_icLt _ rfl rfl rfl (fun h21 => ?_) (fun h21 => ?_)
    · refine En_Ps 1 (pc' := 19) (lv' := [(0, .ref 0), (1, .int a)]) (st' := [.ref 0]) rfl ?_
      refine En_getU (j := 5) (u := 14) (g' := 14) (q := 0) rfl rfl rfl tgz_0 (by decide +kernel) hσ0 (by decide +kernel) un_14_14 (fun h22 => ?_)
      refine En_Ps 1 (pc' := 23) (lv' := [(0, .ref 0), (1, .int a)]) (st' := [.ref 0, .ref 14]) rfl ?_
      refine En_getK (j := 9) h_p rfl rfl rfl tgz_0 (by decide +kernel) ?_
      refine En_Ps 1 (pc' := 27) (lv' := [(0, .ref 0), (1, .int a)]) (st' := [.ref 0, .ref p, .ref 14]) rfl ?_
      refine En_getK (j := 9) h_p rfl rfl rfl tgz_0 (by decide +kernel) ?_
      refine En_getK (j := 2) h7 rfl rfl rfl hp (by decide +kernel) ?_
      have h24 : 1 ≤ z8.toInt := by omega
      refine En_callV rfl rfl rfl rfl rfl rfl rfl rfl tgz_14 (by decide +kernel) rfl (c_98x σ0 hσ0 p hp z8 (geI rfl (by omega)) (leI rfl (by first | exact q_571ae29550 h10 | omega)) hP (FXP_fr hP hX hF0 (by decide +kernel)) hK hB.2.2.2.2.2.1 hc hN0 hT9 hZ) (by decide) (by decide) (fun v26 σ27 h25 => ?_)
      obtain ⟨h28, h29, z31, rfl, h30⟩ := h25
      have h32 := h30.2.2
      have h33 := Fr_trans hF0 h29 (by decide +kernel)
      refine En_Ps 2 (pc' := 38) (lv' := [(0, .ref 0), (1, .int a)]) (st' := [.ref 0]) rfl ?_
      refine En_getK (j := 5) ((h29 _ _ (inW tgz_0 (by decide +kernel))).trans h22) rfl rfl rfl tgz_0 (by decide +kernel) ?_
      refine En_getU (j := 2) (u := 17) (g' := 17) (q := 0) rfl rfl rfl tgz_14 (by decide +kernel) h28 (by decide +kernel) un_17_17 (fun h34 => ?_)
      refine En_Ps 1 (pc' := 45) (lv' := [(0, .ref 0), (1, .int a)]) (st' := [.int a, .ref 17]) rfl ?_
      refine En_iald (l := 0) (u := 54) rfl rfl tgz_17 (by decide +kernel) h28 (by first | exact q_58e6e51dcc h18 | omega) (lnI (by decide +kernel : LN _ = 6) (by first | exact q_f252e21553 h21 h15 | omega)) (FTsgl (by decide +kernel)) (fun z37 h36 h38 h39 => ?_)
      exact En_ret (v := some (Value.int z37)) rfl rfl rfl ⟨h28, h33, z37, rfl, ⟨by first | exact q_ea7f0ffdb1 h38 | omega, by first | exact q_5cfa27335b h39 | omega, h32.2⟩⟩
    · refine En_Ps 1 (pc' := 17) (lv' := [(0, .ref 0), (1, .int a)]) (st' := [.int (((Int8.ofInt (-2)).toInt32))]) rfl ?_
      refine En_top (by decide : ((Int8.ofInt (-2)).toInt32).toInt = -2) (fun z40 h41 => ?_)
      exact En_ret (v := some (Value.int z40)) rfl rfl rfl ⟨hσ0, hF0, z40, rfl, ⟨by first | exact q_f35c5d346c h41 | omega, by first | exact q_18dc70cc6b h41 | omega, BSS_0⟩⟩
/-- DoorSchool.copy(II)I -/
abbrev P_109x (σ0 : SG) (Wv : Int → Int) (a : Int32) (b : Int32) (p : Nat) (sg : Int32) : PO := fun v σ => WT σ ∧ Fr [(28, 3)] σ0 σ ∧ ∃ ret : Int32, v = some (Value.int ret) ∧ -ret.toInt - 5 ≤ 0 ∧ ret.toInt - 3 ≤ 0 ∧ (KN σ p (cyW Wv a.toInt b.toInt) (act (cyW Wv a.toInt b.toInt)) ∧ OUT σ0 σ p)
set_option maxRecDepth 10000 in
set_option maxHeartbeats 4000000 in
theorem c_109x {Wv : Int → Int} (σ0 : SG) (hσ0 : WT σ0) (a : Int32) (b : Int32) (p : Nat) (hp : TG p = 18) (h_p : (σ0 0)[9]? = some (Value.ref p)) (sg : Int32) (h_sg : (σ0 p)[1]? = some (Value.int sg)) (hp0 : -sg.toInt ≤ 0) (hP : PLA p) (hX : FXP σ0 p) (hK : KN σ0 p Wv (act Wv)) : En 1 22 none mr_109 (P_109x σ0 Wv a b p sg) 0 [(0, .ref 0), (1, .int a), (2, .int b)] [] σ0 := by
  obtain ⟨hl_sg, hu_sg⟩ := WT_int hσ0 (g := 18) hp (by decide +kernel) (l := (-1)) (u := 4) (by decide +kernel) h_sg
  have hF0 : Fr [(28, 3)] σ0 σ0 := Fr_rfl
  have t1 : Wv (0) = sg.toInt := KN_v hK (Or.inl (by decide)) (by decide) (by decide) (by rw [lcO_lt (by decide) (by decide), Nat.add_zero]) rfl h_sg
  obtain ⟨z3, h2, h4, h5⟩ := WT_peekI hσ0 hp (by decide +kernel : FT 18 3 = (0, 0, 4)) (by decide +kernel)
  have t6 : Wv (2) = z3.toInt := KN_v hK (Or.inl (by decide)) (by decide) (by decide) (by rw [lcO_lt (by decide) (by decide), Nat.add_zero]) rfl h2
  refine En_Ps 1 (pc' := 1) (lv' := [(0, .ref 0), (1, .int a), (2, .int b)]) (st' := [.ref 0]) rfl ?_
  refine En_getK (j := 9) h_p rfl rfl rfl tgz_0 (by decide +kernel) ?_
  refine En_Ps 1 (pc' := 5) (lv' := [(0, .ref 0), (1, .int a), (2, .int b)]) (st' := [.int a, .ref p]) rfl ?_
  refine En_callV rfl rfl rfl rfl rfl rfl rfl rfl hp (by decide +kernel) rfl (c_47x σ0 hσ0 p hp a z3 h2) (by decide) (by decide) (fun v8 σ9 h7 => ?_)
  obtain ⟨h10, h11, z13, rfl, h12⟩ := h7
  obtain rfl : σ0 = σ9 := Fr_nil h11
  have h14 := Imp_m h12.2.2.1
  have h15 := Imp_m h12.2.2.2.1
  have h16 := Imp_m h12.2.2.2.2.1
  have h17 := Imp_m h12.2.2.2.2.2
  refine En_iEq _ rfl rfl (fun h18 => ?_) (fun h18 => ?_)
  · have h19 := Imp_m h12.2.2.2.2.1 (by first | exact ⟨q_c5d285f1b9 h18, q_a555021d16 h12.1⟩ | omega)
    refine En_Ps 1 (pc' := 34) (lv' := [(0, .ref 0), (1, .int a), (2, .int b)]) (st' := [.int (((Int8.ofInt (-2)).toInt32))]) rfl ?_
    refine En_top (by decide : ((Int8.ofInt (-2)).toInt32).toInt = -2) (fun z20 h21 => ?_)
    exact En_ret (v := some (Value.int z20)) rfl rfl rfl ⟨hσ0, hF0, z20, rfl, ⟨by first | exact q_f1982a04c6 h21 | omega, by first | exact q_09eb541a79 h21 | omega, (by rw [cyW_n (by omega)]; exact ⟨hK, OUT_0⟩)⟩⟩
  · have h22 := Imp_m h12.2.2.1 (by first | exact q_e3350da514 h18 h12.1 | omega)
    have h23 := Imp_m h12.2.2.2.1 (by first | exact ⟨q_a555021d16 h22.1, q_ef157b5a0e h22.2⟩ | omega)
    have h24 := Imp_m h12.2.2.2.2.2 (by first | exact ⟨q_ad5b726bf8 h12.2.1, q_e3350da514 h18 h12.1⟩ | omega)
    refine En_Ps 2 (pc' := 13) (lv' := [(0, .ref 0), (1, .int a), (2, .int b)]) (st' := [.int a, .int b]) rfl ?_
    refine En_icEq _ rfl rfl rfl (fun h25 => ?_) (fun h25 => ?_)
    · refine En_Ps 1 (pc' := 34) (lv' := [(0, .ref 0), (1, .int a), (2, .int b)]) (st' := [.int (((Int8.ofInt (-2)).toInt32))]) rfl ?_
      refine En_top (by decide : ((Int8.ofInt (-2)).toInt32).toInt = -2) (fun z26 h27 => ?_)
      exact En_ret (v := some (Value.int z26)) rfl rfl rfl ⟨hσ0, hF0, z26, rfl, ⟨by first | exact q_f1982a04c6 h27 | omega, by first | exact q_09eb541a79 h27 | omega, (by rw [cyW_n (by omega)]; exact ⟨hK, OUT_0⟩)⟩⟩
    · refine En_Ps 2 (pc' := 18) (lv' := [(0, .ref 0), (1, .int a), (2, .int b)]) (st' := [.int ((Int32.ofInt (-1))), .int b]) rfl ?_
      refine En_icEq _ rfl (by decide : (Int32.ofInt (-1)).toInt = -1) rfl (fun h28 => ?_) (fun h28 => ?_)
      · refine En_Ps 1 (pc' := 36) (lv' := [(0, .ref 0), (1, .int a), (2, .int b)]) (st' := [.ref 0]) rfl ?_
        refine En_getK (j := 9) h_p rfl rfl rfl tgz_0 (by decide +kernel) ?_
        refine En_Ps 1 (pc' := 40) (lv' := [(0, .ref 0), (1, .int a), (2, .int b)]) (st' := [.int a, .ref p]) rfl ?_
        refine En_callV rfl rfl rfl rfl rfl rfl rfl rfl hp (by decide +kernel) rfl (c_45x σ0 hσ0 p hp a hP (FXP_fr hP hX hF0 (by decide +kernel)) hK) (by decide) (by decide) (fun v30 σ31 h29 => ?_)
        obtain ⟨h32, h33, z35, rfl, h34⟩ := h29
        have h36 := h34.2.2.2
        obtain rfl : σ0 = σ31 := Fr_nil h33
        have h37 : z35.toInt = cpI Wv a.toInt := h36
        refine En_iNe _ rfl rfl (fun h38 => ?_) (fun h38 => ?_)
        · have h39 := Imp_m h34.2.2.1 (by first | exact ⟨q_ad5b726bf8 h34.2.1, q_e3350da514 h38 h34.1⟩ | omega)
          refine En_Ps 1 (pc' := 69) (lv' := [(0, .ref 0), (1, .int a), (2, .int b)]) (st' := [.int (((Int8.ofInt (-5)).toInt32))]) rfl ?_
          refine En_top (by decide : ((Int8.ofInt (-5)).toInt32).toInt = -5) (fun z40 h41 => ?_)
          exact En_ret (v := some (Value.int z40)) rfl rfl rfl ⟨hσ0, hF0, z40, rfl, ⟨by first | exact q_715ce6bb90 h41 | omega, by first | exact q_08e77983b4 h41 | omega, (by rw [cyW_n (by omega)]; exact ⟨hK, OUT_0⟩)⟩⟩
        · refine En_Ps 2 (pc' := 48) (lv' := [(0, .ref 0), (1, .int a), (2, .int b)]) (st' := [.int ((Int32.ofInt (-1))), .int b]) rfl ?_
          refine En_icEq _ rfl (by decide : (Int32.ofInt (-1)).toInt = -1) rfl (fun h42 => ?_) (fun hx => by first | exact (q_9d3c087e80 hx h28).elim | (exfalso; omega))
          refine En_Ps 1 (pc' := 71) (lv' := [(0, .ref 0), (1, .int a), (2, .int b)]) (st' := [.ref 0]) rfl ?_
          refine En_getK (j := 9) h_p rfl rfl rfl tgz_0 (by decide +kernel) ?_
          refine En_getR (j := 4) (g' := 19) (u := 0) rfl rfl rfl hp (by decide +kernel) hσ0 (by decide +kernel) (fun a44 h43 ha44 => ?_)
          have t45 : a44 = p + 1 := ref_uniq h43 (FXP_fr hP hX hF0 (by decide +kernel)).1
          refine En_Ps 1 (pc' := 78) (lv' := [(0, .ref 0), (1, .int a), (2, .int b)]) (st' := [.int a, .ref a44]) rfl ?_
          refine En_aald (g' := 28) (u := 0) rfl rfl ha44 (by decide +kernel) hσ0 (by first | exact q_ef1e8e38bf h22.1 | omega) (lnI (by decide +kernel : LN _ = 4) (by first | exact q_7fdbd2bd6a h24.2 | omega)) (FTsgl (by decide +kernel)) (fun a47 h46 ha47 => ?_)
          have t48 : a47 = p + 10 + 4 * (a.toInt).toNat := DRe (d := a.toInt) (FXP_fr hP hX hF0 (by decide +kernel)) t45 h46 (by (first | exact q_ef1e8e38bf h24.1 | omega)) (by (first | exact q_8d5ddb67ca h24.2 | omega))
          have t49 := lc_d (d := a.toInt) (by (first | exact q_ef1e8e38bf h24.1 | omega)) (by (first | exact q_8d5ddb67ca h24.2 | omega))
          refine En_getI (j := 3) (l := (-1)) (u := 3) rfl rfl rfl ha47 (by decide +kernel) hσ0 (by decide +kernel) (fun z51 h50 h52 h53 => ?_)
          have t54 : Wv (13 + 4 * (a.toInt)) = z51.toInt := KN_v hK (Or.inr (Or.inl ⟨by (first | exact q_382253bcd5 h24.1 | omega), by (first | exact q_ba6cc6d49c h24.2 | omega), by omega⟩)) (by (first | exact q_1c4c3f73fc h24.1 | omega)) (by (first | exact q_62d9ce9da4 h24.2 | omega)) (by omega) (by (first | exact q_67bf5599ba t49.2.2.2.2.2.2.2 | omega)) h50
          refine En_Ps 2 (pc' := 84) (lv' := [(3, .int z51), (0, .ref 0), (1, .int a), (2, .int b)]) (st' := [.ref 0]) rfl ?_
          refine En_getK (j := 9) h_p rfl rfl rfl tgz_0 (by decide +kernel) ?_
          refine En_getK (j := 4) h43 rfl rfl rfl hp (by decide +kernel) ?_
          refine En_Ps 1 (pc' := 91) (lv' := [(3, .int z51), (0, .ref 0), (1, .int a), (2, .int b)]) (st' := [.int a, .ref a44]) rfl ?_
          refine En_aald (g' := 28) (u := 0) rfl rfl ha44 (by decide +kernel) hσ0 (by first | exact q_ef1e8e38bf h22.1 | omega) (lnI (by decide +kernel : LN _ = 4) (by first | exact q_7fdbd2bd6a h24.2 | omega)) (FTsgl (by decide +kernel)) (fun a56 h55 ha56 => ?_)
          have t57 : a56 = p + 10 + 4 * (a.toInt).toNat := DRe (d := a.toInt) (FXP_fr hP hX hF0 (by decide +kernel)) t45 h55 (by (first | exact q_ef1e8e38bf h24.1 | omega)) (by (first | exact q_8d5ddb67ca h24.2 | omega))
          have t58 := lc_d (d := a.toInt) (by (first | exact q_ef1e8e38bf h24.1 | omega)) (by (first | exact q_8d5ddb67ca h24.2 | omega))
          refine En_Ps 1 (pc' := 93) (lv' := [(3, .int z51), (0, .ref 0), (1, .int a), (2, .int b)]) (st' := [.int b, .ref a56]) rfl ?_
          refine En_put (j := 3) rfl rfl rfl ha56 (by decide +kernel) rfl (vI (l := (-1)) (u := 3) (by decide +kernel) rfl (by first | exact q_2252655278 h28 | omega) (by first | exact q_c8445ed0b4 h28 | omega)) hσ0 hF0 (by decide +kernel) (fun σ59 h60 h61 h62 h63 => ?_)
          refine En_Ps 1 (pc' := 97) (lv' := [(3, .int z51), (0, .ref 0), (1, .int a), (2, .int b)]) (st' := [.int z51]) rfl ?_
          exact En_ret (v := some (Value.int z51)) rfl rfl rfl ⟨h60, h61, z51, rfl, ⟨by first | exact q_85f91396a5 h52 | omega, by first | exact q_e9a8eec0c4 h53 | omega, (by have l := lc_d (d := a.toInt) (by (first | exact q_ef1e8e38bf h24.1 | omega)) (by (first | exact q_8d5ddb67ca h24.2 | omega)); rw [cyW_y (by omega)]; exact KN_one hK (PLA_B hP) (i := 13 + 4 * a.toInt) (v := b.toInt) h62 h63 (by (first | exact q_1c4c3f73fc h24.1 | omega)) (by (first | exact q_62d9ce9da4 h24.2 | omega)) ⟨by omega, by (first | exact q_67bf5599ba l.2.2.2.2.2.2.2 | omega)⟩ rfl (by omega) (Or.inr (Or.inl ⟨by (first | exact q_382253bcd5 h24.1 | omega), by (first | exact q_ba6cc6d49c h24.2 | omega), by omega⟩)))⟩⟩
      · refine En_Ps 1 (pc' := 22) (lv' := [(0, .ref 0), (1, .int a), (2, .int b)]) (st' := [.ref 0]) rfl ?_
        refine En_getK (j := 9) h_p rfl rfl rfl tgz_0 (by decide +kernel) ?_
        refine En_Ps 1 (pc' := 26) (lv' := [(0, .ref 0), (1, .int a), (2, .int b)]) (st' := [.int b, .ref p]) rfl ?_
        refine En_callV rfl rfl rfl rfl rfl rfl rfl rfl hp (by decide +kernel) rfl (c_47x σ0 hσ0 p hp b z3 h2) (by decide) (by decide) (fun v65 σ66 h64 => ?_)
        obtain ⟨h67, h68, z70, rfl, h69⟩ := h64
        obtain rfl : σ0 = σ66 := Fr_nil h68
        have h71 := Imp_m h69.2.2.1
        have h72 := Imp_m h69.2.2.2.1
        have h73 := Imp_m h69.2.2.2.2.1
        have h74 := Imp_m h69.2.2.2.2.2
        refine En_iNe _ rfl rfl (fun h75 => ?_) (fun h75 => ?_)
        · have h76 := Imp_m h69.2.2.1 (by first | exact q_e3350da514 h75 h69.1 | omega)
          have h77 := Imp_m h69.2.2.2.1 (by first | exact ⟨q_a555021d16 h76.1, q_ef157b5a0e h76.2⟩ | omega)
          have h78 := Imp_m h69.2.2.2.2.2 (by first | exact ⟨q_ad5b726bf8 h69.2.1, q_e3350da514 h75 h69.1⟩ | omega)
          refine En_Ps 1 (pc' := 36) (lv' := [(0, .ref 0), (1, .int a), (2, .int b)]) (st' := [.ref 0]) rfl ?_
          refine En_getK (j := 9) h_p rfl rfl rfl tgz_0 (by decide +kernel) ?_
          refine En_Ps 1 (pc' := 40) (lv' := [(0, .ref 0), (1, .int a), (2, .int b)]) (st' := [.int a, .ref p]) rfl ?_
          refine En_callV rfl rfl rfl rfl rfl rfl rfl rfl hp (by decide +kernel) rfl (c_45x σ0 hσ0 p hp a hP (FXP_fr hP hX hF0 (by decide +kernel)) hK) (by decide) (by decide) (fun v80 σ81 h79 => ?_)
          obtain ⟨h82, h83, z85, rfl, h84⟩ := h79
          have h86 := h84.2.2.2
          obtain rfl : σ0 = σ81 := Fr_nil h83
          have h87 : z85.toInt = cpI Wv a.toInt := h86
          refine En_iNe _ rfl rfl (fun h88 => ?_) (fun h88 => ?_)
          · have h89 := Imp_m h84.2.2.1 (by first | exact ⟨q_ad5b726bf8 h84.2.1, q_e3350da514 h88 h84.1⟩ | omega)
            refine En_Ps 1 (pc' := 69) (lv' := [(0, .ref 0), (1, .int a), (2, .int b)]) (st' := [.int (((Int8.ofInt (-5)).toInt32))]) rfl ?_
            refine En_top (by decide : ((Int8.ofInt (-5)).toInt32).toInt = -5) (fun z90 h91 => ?_)
            exact En_ret (v := some (Value.int z90)) rfl rfl rfl ⟨hσ0, hF0, z90, rfl, ⟨by first | exact q_715ce6bb90 h91 | omega, by first | exact q_08e77983b4 h91 | omega, (by rw [cyW_n (by omega)]; exact ⟨hK, OUT_0⟩)⟩⟩
          · refine En_Ps 2 (pc' := 48) (lv' := [(0, .ref 0), (1, .int a), (2, .int b)]) (st' := [.int ((Int32.ofInt (-1))), .int b]) rfl ?_
            refine En_icEq _ rfl (by decide : (Int32.ofInt (-1)).toInt = -1) rfl (fun hx => by first | exact (q_693db50900 h76.1 hx).elim | (exfalso; omega)) (fun h92 => ?_)
            refine En_Ps 1 (pc' := 52) (lv' := [(0, .ref 0), (1, .int a), (2, .int b)]) (st' := [.ref 0]) rfl ?_
            refine En_getK (j := 9) h_p rfl rfl rfl tgz_0 (by decide +kernel) ?_
            refine En_getR (j := 4) (g' := 19) (u := 0) rfl rfl rfl hp (by decide +kernel) hσ0 (by decide +kernel) (fun a94 h93 ha94 => ?_)
            have t95 : a94 = p + 1 := ref_uniq h93 (FXP_fr hP hX hF0 (by decide +kernel)).1
            refine En_Ps 1 (pc' := 59) (lv' := [(0, .ref 0), (1, .int a), (2, .int b)]) (st' := [.int b, .ref a94]) rfl ?_
            refine En_aald (g' := 28) (u := 0) rfl rfl ha94 (by decide +kernel) hσ0 (by first | exact q_ef1e8e38bf h76.1 | omega) (lnI (by decide +kernel : LN _ = 4) (by first | exact q_7fdbd2bd6a h78.2 | omega)) (FTsgl (by decide +kernel)) (fun a97 h96 ha97 => ?_)
            have t98 : a97 = p + 10 + 4 * (b.toInt).toNat := DRe (d := b.toInt) (FXP_fr hP hX hF0 (by decide +kernel)) t95 h96 (by (first | exact q_ef1e8e38bf h78.1 | omega)) (by (first | exact q_8d5ddb67ca h78.2 | omega))
            have t99 := lc_d (d := b.toInt) (by (first | exact q_ef1e8e38bf h78.1 | omega)) (by (first | exact q_8d5ddb67ca h78.2 | omega))
            refine En_getI (j := 3) (l := (-1)) (u := 3) rfl rfl rfl ha97 (by decide +kernel) hσ0 (by decide +kernel) (fun z101 h100 h102 h103 => ?_)
            have t104 : Wv (13 + 4 * (b.toInt)) = z101.toInt := KN_v hK (Or.inr (Or.inl ⟨by (first | exact q_382253bcd5 h78.1 | omega), by (first | exact q_ba6cc6d49c h78.2 | omega), by omega⟩)) (by (first | exact q_1c4c3f73fc h78.1 | omega)) (by (first | exact q_62d9ce9da4 h78.2 | omega)) (by omega) (by (first | exact q_67bf5599ba t99.2.2.2.2.2.2.2 | omega)) h100
            refine En_Ps 1 (pc' := 64) (lv' := [(0, .ref 0), (1, .int a), (2, .int b)]) (st' := [.int ((Int32.ofInt (-1))), .int z101]) rfl ?_
            refine En_icEq _ rfl (by decide : (Int32.ofInt (-1)).toInt = -1) rfl (fun h105 => ?_) (fun h105 => ?_)
            · refine En_Ps 1 (pc' := 71) (lv' := [(0, .ref 0), (1, .int a), (2, .int b)]) (st' := [.ref 0]) rfl ?_
              refine En_getK (j := 9) h_p rfl rfl rfl tgz_0 (by decide +kernel) ?_
              refine En_getK (j := 4) h93 rfl rfl rfl hp (by decide +kernel) ?_
              refine En_Ps 1 (pc' := 78) (lv' := [(0, .ref 0), (1, .int a), (2, .int b)]) (st' := [.int a, .ref a94]) rfl ?_
              refine En_aald (g' := 28) (u := 0) rfl rfl ha94 (by decide +kernel) hσ0 (by first | exact q_ef1e8e38bf h22.1 | omega) (lnI (by decide +kernel : LN _ = 4) (by first | exact q_7fdbd2bd6a h24.2 | omega)) (FTsgl (by decide +kernel)) (fun a107 h106 ha107 => ?_)
              have t108 : a107 = p + 10 + 4 * (a.toInt).toNat := DRe (d := a.toInt) (FXP_fr hP hX hF0 (by decide +kernel)) t95 h106 (by (first | exact q_ef1e8e38bf h24.1 | omega)) (by (first | exact q_8d5ddb67ca h24.2 | omega))
              have t109 := lc_d (d := a.toInt) (by (first | exact q_ef1e8e38bf h24.1 | omega)) (by (first | exact q_8d5ddb67ca h24.2 | omega))
              refine En_getI (j := 3) (l := (-1)) (u := 3) rfl rfl rfl ha107 (by decide +kernel) hσ0 (by decide +kernel) (fun z111 h110 h112 h113 => ?_)
              have t114 : Wv (13 + 4 * (a.toInt)) = z111.toInt := KN_v hK (Or.inr (Or.inl ⟨by (first | exact q_382253bcd5 h24.1 | omega), by (first | exact q_ba6cc6d49c h24.2 | omega), by omega⟩)) (by (first | exact q_1c4c3f73fc h24.1 | omega)) (by (first | exact q_62d9ce9da4 h24.2 | omega)) (by omega) (by (first | exact q_67bf5599ba t109.2.2.2.2.2.2.2 | omega)) h110
              refine En_Ps 2 (pc' := 84) (lv' := [(3, .int z111), (0, .ref 0), (1, .int a), (2, .int b)]) (st' := [.ref 0]) rfl ?_
              refine En_getK (j := 9) h_p rfl rfl rfl tgz_0 (by decide +kernel) ?_
              refine En_getK (j := 4) h93 rfl rfl rfl hp (by decide +kernel) ?_
              refine En_Ps 1 (pc' := 91) (lv' := [(3, .int z111), (0, .ref 0), (1, .int a), (2, .int b)]) (st' := [.int a, .ref a94]) rfl ?_
              refine En_aald (g' := 28) (u := 0) rfl rfl ha94 (by decide +kernel) hσ0 (by first | exact q_ef1e8e38bf h22.1 | omega) (lnI (by decide +kernel : LN _ = 4) (by first | exact q_7fdbd2bd6a h24.2 | omega)) (FTsgl (by decide +kernel)) (fun a116 h115 ha116 => ?_)
              have t117 : a116 = p + 10 + 4 * (a.toInt).toNat := DRe (d := a.toInt) (FXP_fr hP hX hF0 (by decide +kernel)) t95 h115 (by (first | exact q_ef1e8e38bf h24.1 | omega)) (by (first | exact q_8d5ddb67ca h24.2 | omega))
              have t118 := lc_d (d := a.toInt) (by (first | exact q_ef1e8e38bf h24.1 | omega)) (by (first | exact q_8d5ddb67ca h24.2 | omega))
              refine En_Ps 1 (pc' := 93) (lv' := [(3, .int z111), (0, .ref 0), (1, .int a), (2, .int b)]) (st' := [.int b, .ref a116]) rfl ?_
              refine En_put (j := 3) rfl rfl rfl ha116 (by decide +kernel) rfl (vI (l := (-1)) (u := 3) (by decide +kernel) rfl (by first | exact q_1ab37740a2 h76.1 | omega) (by first | exact q_87d9217d84 h78.2 | omega)) hσ0 hF0 (by decide +kernel) (fun σ119 h120 h121 h122 h123 => ?_)
              refine En_Ps 1 (pc' := 97) (lv' := [(3, .int z111), (0, .ref 0), (1, .int a), (2, .int b)]) (st' := [.int z111]) rfl ?_
              exact En_ret (v := some (Value.int z111)) rfl rfl rfl ⟨h120, h121, z111, rfl, ⟨by first | exact q_85f91396a5 h112 | omega, by first | exact q_e9a8eec0c4 h113 | omega, (by have l := lc_d (d := a.toInt) (by (first | exact q_ef1e8e38bf h24.1 | omega)) (by (first | exact q_8d5ddb67ca h24.2 | omega)); rw [cyW_y (by omega)]; exact KN_one hK (PLA_B hP) (i := 13 + 4 * a.toInt) (v := b.toInt) h122 h123 (by (first | exact q_1c4c3f73fc h24.1 | omega)) (by (first | exact q_62d9ce9da4 h24.2 | omega)) ⟨by omega, by (first | exact q_67bf5599ba l.2.2.2.2.2.2.2 | omega)⟩ rfl (by omega) (Or.inr (Or.inl ⟨by (first | exact q_382253bcd5 h24.1 | omega), by (first | exact q_ba6cc6d49c h24.2 | omega), by omega⟩)))⟩⟩
            · refine En_Ps 1 (pc' := 69) (lv' := [(0, .ref 0), (1, .int a), (2, .int b)]) (st' := [.int (((Int8.ofInt (-5)).toInt32))]) rfl ?_
              refine En_top (by decide : ((Int8.ofInt (-5)).toInt32).toInt = -5) (fun z124 h125 => ?_)
              exact En_ret (v := some (Value.int z124)) rfl rfl rfl ⟨hσ0, hF0, z124, rfl, ⟨by first | exact q_715ce6bb90 h125 | omega, by first | exact q_08e77983b4 h125 | omega, (by rw [cyW_n (by omega)]; exact ⟨hK, OUT_0⟩)⟩⟩
        · have h126 := Imp_m h69.2.2.2.2.1 (by first | exact ⟨q_c5d285f1b9 h75, q_a555021d16 h69.1⟩ | omega)
          refine En_Ps 1 (pc' := 34) (lv' := [(0, .ref 0), (1, .int a), (2, .int b)]) (st' := [.int (((Int8.ofInt (-2)).toInt32))]) rfl ?_
          refine En_top (by decide : ((Int8.ofInt (-2)).toInt32).toInt = -2) (fun z127 h128 => ?_)
          exact En_ret (v := some (Value.int z127)) rfl rfl rfl ⟨hσ0, hF0, z127, rfl, ⟨by first | exact q_f1982a04c6 h128 | omega, by first | exact q_09eb541a79 h128 | omega, (by rw [cyW_n (by omega)]; exact ⟨hK, OUT_0⟩)⟩⟩
/-- DoorSchool.end(I)I -/
abbrev P_118x (σ0 : SG) (a : Int32) (p : Nat) (sg : Int32) (m : Int32) : PO := fun v σ => WT σ ∧ Fr [(1, 1)] σ0 σ ∧ ∃ m1 : Int32, (σ 1)[1]? = some (Value.int m1) ∧ ∃ ret : Int32, v = some (Value.int ret) ∧ -ret.toInt - 1 ≤ 0 ∧ ret.toInt - 1600 ≤ 0 ∧ -m1.toInt ≤ 0 ∧ m1.toInt - 1600 ≤ 0 ∧ m1.toInt - m.toInt ≤ 0 ∧ Imp (-a.toInt ≤ 0 ∧ a.toInt - m.toInt ≤ 0) (m1.toInt - a.toInt ≤ 0 ∧ -m1.toInt + a.toInt ≤ 0 ∧ ret.toInt - a.toInt ≤ 0 ∧ -ret.toInt + a.toInt ≤ 0) ∧ Imp (a.toInt + 1 ≤ 0) (m1.toInt - m.toInt ≤ 0 ∧ -m1.toInt + m.toInt ≤ 0 ∧ ret.toInt + 1 ≤ 0 ∧ -ret.toInt - 1 ≤ 0) ∧ Imp (m.toInt - a.toInt + 1 ≤ 0) (m1.toInt - m.toInt ≤ 0 ∧ -m1.toInt + m.toInt ≤ 0 ∧ ret.toInt + 1 ≤ 0 ∧ -ret.toInt - 1 ≤ 0)
set_option maxRecDepth 10000 in
set_option maxHeartbeats 4000000 in
theorem c_118x (σ0 : SG) (hσ0 : WT σ0) (a : Int32) (p : Nat) (hp : TG p = 18) (h_p : (σ0 0)[9]? = some (Value.ref p)) (sg : Int32) (h_sg : (σ0 p)[1]? = some (Value.int sg)) (m : Int32) (h_m : (σ0 1)[1]? = some (Value.int m)) (hp0 : -sg.toInt ≤ 0) : En 0 0 none mr_118 (P_118x σ0 a p sg m) 0 [(0, .ref 0), (1, .int a)] [] σ0 := by
  obtain ⟨hl_sg, hu_sg⟩ := WT_int hσ0 (g := 18) hp (by decide +kernel) (l := (-1)) (u := 4) (by decide +kernel) h_sg
  obtain ⟨hl_m, hu_m⟩ := WT_int hσ0 (g := 1) (by decide +kernel) (by decide +kernel) (l := 0) (u := 1600) (by decide +kernel) h_m
  have hF0 : Fr [(1, 1)] σ0 σ0 := Fr_rfl
  refine En_Ps 1 (pc' := 1) (lv' := [(0, .ref 0), (1, .int a)]) (st' := [.int a]) rfl ?_
  refine En_iLt _ rfl rfl (fun h1 => ?_) (fun h1 => ?_)
  · refine En_Ps 1 (pc' := 16) (lv' := [(0, .ref 0), (1, .int a)]) (st' := [.int ((Int32.ofInt (-1)))]) rfl ?_
    refine En_top (by decide : (Int32.ofInt (-1)).toInt = -1) (fun z2 h3 => ?_)
    exact En_ret (v := some (Value.int z2)) rfl rfl rfl ⟨hσ0, hF0, m, h_m, z2, rfl, ⟨by first | exact q_6ba54b61e9 h3 | omega, by first | exact q_99664cbdae h3 | omega, by first | exact q_c803b490ef hl_m | omega, by first | exact q_5a08281576 hu_m | omega, by first | exact q_1bb76abeaf | omega, fun hh => by first | exact ⟨q_1108b6a118 h1 hh.1, q_10d278d690 hh.2, q_7d292a1c2b h3 hh.1, q_da50bdb728 h1 h3⟩ | omega, fun hh => by first | exact ⟨q_1bb76abeaf, q_857069189f, q_4eb6dac66d h3, q_6ba54b61e9 h3⟩ | omega, fun hh => by first | exact ⟨q_1bb76abeaf, q_857069189f, q_4eb6dac66d h3, q_6ba54b61e9 h3⟩ | omega⟩⟩
  · refine En_Ps 2 (pc' := 6) (lv' := [(0, .ref 0), (1, .int a)]) (st' := [.ref 0, .int a]) rfl ?_
    refine En_getU (j := 0) (u := 1) (g' := 1) (q := 0) rfl rfl rfl tgz_0 (by decide +kernel) hσ0 (by decide +kernel) un_1_1 (fun h4 => ?_)
    refine En_getK (j := 1) h_m rfl rfl rfl tgz_1 (by decide +kernel) ?_
    refine En_icLe _ rfl rfl rfl (fun h6 => ?_) (fun h6 => ?_)
    · refine En_Ps 1 (pc' := 18) (lv' := [(0, .ref 0), (1, .int a)]) (st' := [.ref 0]) rfl ?_
      refine En_getK (j := 0) h4 rfl rfl rfl tgz_0 (by decide +kernel) ?_
      refine En_Ps 1 (pc' := 22) (lv' := [(0, .ref 0), (1, .int a)]) (st' := [.int a, .ref 1]) rfl ?_
      refine En_put (j := 1) rfl rfl rfl tgz_1 (by decide +kernel) rfl (vI (l := 0) (u := 1600) (by decide +kernel) rfl (by first | exact q_58e6e51dcc h1 | omega) (by first | exact q_eeb85c3030 h6 hu_m | omega)) hσ0 hF0 (by decide +kernel) (fun σ7 h8 h9 h10 h11 => ?_)
      refine En_Ps 1 (pc' := 26) (lv' := [(0, .ref 0), (1, .int a)]) (st' := [.int a]) rfl ?_
      exact En_ret (v := some (Value.int a)) rfl rfl rfl ⟨h8, h9, a, h10, a, rfl, ⟨by first | exact q_565e7b05df h1 | omega, by first | exact q_50cb7dcfb3 h6 hu_m | omega, by first | exact q_c803b490ef h1 | omega, by first | exact q_50cb7dcfb3 h6 hu_m | omega, by first | exact q_15b82e7ad8 h6 | omega, fun hh => by first | exact ⟨q_1bb76abeaf, q_857069189f, q_1bb76abeaf, q_857069189f⟩ | omega, fun hh => by first | exact ⟨q_15b82e7ad8 h6, q_9ac42d151c h1 hh, q_b60e76ae01 hh, q_565e7b05df h1⟩ | omega, fun hh => by first | exact ⟨q_15b82e7ad8 h6, q_29611673d2 hh, q_63ad617a29 h6 hh, q_565e7b05df h1⟩ | omega⟩⟩
    · refine En_Ps 1 (pc' := 16) (lv' := [(0, .ref 0), (1, .int a)]) (st' := [.int ((Int32.ofInt (-1)))]) rfl ?_
      refine En_top (by decide : (Int32.ofInt (-1)).toInt = -1) (fun z12 h13 => ?_)
      exact En_ret (v := some (Value.int z12)) rfl rfl rfl ⟨hσ0, hF0, m, h_m, z12, rfl, ⟨by first | exact q_6ba54b61e9 h13 | omega, by first | exact q_99664cbdae h13 | omega, by first | exact q_c803b490ef hl_m | omega, by first | exact q_5a08281576 hu_m | omega, by first | exact q_1bb76abeaf | omega, fun hh => by first | exact ⟨q_74322ff71d h6, q_10d278d690 hh.2, q_59265d2827 h1 h13, q_5ed5f7434d h6 hh.2⟩ | omega, fun hh => by first | exact ⟨q_1bb76abeaf, q_857069189f, q_4eb6dac66d h13, q_6ba54b61e9 h13⟩ | omega, fun hh => by first | exact ⟨q_1bb76abeaf, q_857069189f, q_4eb6dac66d h13, q_6ba54b61e9 h13⟩ | omega⟩⟩
/-- DoorSchool.isZeroOrOne(I)Z -/
abbrev P_149x (σ0 : SG) (a : Int32) : PO := fun v σ => WT σ ∧ Fr [] σ0 σ ∧ ∃ ret : Int32, v = some (Value.int ret) ∧ -ret.toInt ≤ 0 ∧ ret.toInt - 1 ≤ 0 ∧ Imp (ret.toInt - 1 ≤ 0 ∧ -ret.toInt + 1 ≤ 0) (-a.toInt ≤ 0 ∧ a.toInt - 1 ≤ 0) ∧ ((ret.toInt = 1 ∧ (a.toInt = 0 ∨ a.toInt = 1)) ∨ (ret.toInt = 0 ∧ a.toInt ≠ 0 ∧ a.toInt ≠ 1))
set_option maxRecDepth 10000 in
set_option maxHeartbeats 4000000 in
theorem c_149x (σ0 : SG) (hσ0 : WT σ0) (a : Int32) : En 0 0 none mr_149 (P_149x σ0 a) 0 [(0, .int a)] [] σ0 := by
  have hF0 : Fr [] σ0 σ0 := Fr_rfl
  refine En_Ps 1 (pc' := 1) (lv' := [(0, .int a)]) (st' := [.int a]) rfl ?_
  refine En_iEq _ rfl rfl (fun h1 => ?_) (fun h1 => ?_)
  · refine En_Ps 2 (pc' := 14) (lv' := [(0, .int a)]) (st' := [.int ((Int32.ofInt 1))]) rfl ?_
    refine En_top (by decide : (Int32.ofInt 1).toInt = 1) (fun z2 h3 => ?_)
    exact En_ret (v := some (Value.int z2)) rfl rfl (retZ rfl rfl (by first | exact q_2b07c97645 h3 | omega) (by first | exact q_d9e7cbb253 h3 | omega)) ⟨hσ0, hF0, z2, rfl, ⟨by first | exact q_ad3eee31ca h3 | omega, by first | exact q_81cf297dc4 h3 | omega, fun hh => by first | exact ⟨q_097a37c2ae h1, q_e269517bee h1⟩ | omega, (by (first | exact q_7be328e355 h3 h1 | omega))⟩⟩
  · refine En_Ps 2 (pc' := 6) (lv' := [(0, .int a)]) (st' := [.int ((Int32.ofInt 1)), .int a]) rfl ?_
    refine En_icNe _ rfl (by decide : (Int32.ofInt 1).toInt = 1) rfl (fun h4 => ?_) (fun h4 => ?_)
    · refine En_Ps 1 (pc' := 14) (lv' := [(0, .int a)]) (st' := [.int ((Int32.ofInt 0))]) rfl ?_
      refine En_top (by decide : (Int32.ofInt 0).toInt = 0) (fun z5 h6 => ?_)
      exact En_ret (v := some (Value.int z5)) rfl rfl (retZ rfl rfl (by first | exact q_55451d0a83 h6 | omega) (by first | exact q_87849c3859 h6 | omega)) ⟨hσ0, hF0, z5, rfl, ⟨by first | exact q_097a37c2ae h6 | omega, by first | exact q_e269517bee h6 | omega, fun _ => by omega, (by (first | exact q_c19f7ca08b h6 h1 h4 | omega))⟩⟩
    · refine En_Ps 2 (pc' := 14) (lv' := [(0, .int a)]) (st' := [.int ((Int32.ofInt 1))]) rfl ?_
      refine En_top (by decide : (Int32.ofInt 1).toInt = 1) (fun z7 h8 => ?_)
      exact En_ret (v := some (Value.int z7)) rfl rfl (retZ rfl rfl (by first | exact q_2b07c97645 h8 | omega) (by first | exact q_d9e7cbb253 h8 | omega)) ⟨hσ0, hF0, z7, rfl, ⟨by first | exact q_ad3eee31ca h8 | omega, by first | exact q_81cf297dc4 h8 | omega, fun hh => by first | exact ⟨q_ad3eee31ca h4, q_81cf297dc4 h4⟩ | omega, (by (first | exact q_bd9a409a27 h8 h4 | omega))⟩⟩
/-- DoorSchool.fault(I)I -/
abbrev P_121x (σ0 : SG) (a : Int32) (p : Nat) (sg : Int32) (fk : Int32) (fp : Int32) : PO := fun v σ => WT σ ∧ Fr [] σ0 σ ∧ ∃ ret : Int32, v = some (Value.int ret) ∧ -ret.toInt - 1 ≤ 0 ∧ ret.toInt - 1600 ≤ 0 ∧ Imp (a.toInt ≤ 0 ∧ -a.toInt ≤ 0) (ret.toInt - fk.toInt ≤ 0 ∧ -ret.toInt + fk.toInt ≤ 0) ∧ Imp (a.toInt - 1 ≤ 0 ∧ -a.toInt + 1 ≤ 0) (ret.toInt - fp.toInt ≤ 0 ∧ -ret.toInt + fp.toInt ≤ 0) ∧ Imp (a.toInt + 1 ≤ 0) (ret.toInt + 1 ≤ 0 ∧ -ret.toInt - 1 ≤ 0) ∧ Imp (-a.toInt + 2 ≤ 0) (ret.toInt + 1 ≤ 0 ∧ -ret.toInt - 1 ≤ 0)
set_option maxRecDepth 10000 in
set_option maxHeartbeats 4000000 in
theorem c_121x (σ0 : SG) (hσ0 : WT σ0) (a : Int32) (p : Nat) (hp : TG p = 18) (h_p : (σ0 0)[9]? = some (Value.ref p)) (sg : Int32) (h_sg : (σ0 p)[1]? = some (Value.int sg)) (fk : Int32) (h_fk : (σ0 3)[5]? = some (Value.int fk)) (fp : Int32) (h_fp : (σ0 3)[6]? = some (Value.int fp)) (hp0 : -sg.toInt ≤ 0) : En 0 0 none mr_121 (P_121x σ0 a p sg fk fp) 0 [(0, .ref 0), (1, .int a)] [] σ0 := by
  obtain ⟨hl_sg, hu_sg⟩ := WT_int hσ0 (g := 18) hp (by decide +kernel) (l := (-1)) (u := 4) (by decide +kernel) h_sg
  obtain ⟨hl_fk, hu_fk⟩ := WT_int hσ0 (g := 3) (by decide +kernel) (by decide +kernel) (l := 0) (u := 3) (by decide +kernel) h_fk
  obtain ⟨hl_fp, hu_fp⟩ := WT_int hσ0 (g := 3) (by decide +kernel) (by decide +kernel) (l := (-1)) (u := 1600) (by decide +kernel) h_fp
  have hF0 : Fr [] σ0 σ0 := Fr_rfl
  refine En_Ps 1 (pc' := 1) (lv' := [(0, .ref 0), (1, .int a)]) (st' := [.int a]) rfl ?_
  refine En_iNe _ rfl rfl (fun h1 => ?_) (fun h1 => ?_)
  · refine En_Ps 2 (pc' := 14) (lv' := [(0, .ref 0), (1, .int a)]) (st' := [.int ((Int32.ofInt 1)), .int a]) rfl ?_
    refine En_icNe _ rfl (by decide : (Int32.ofInt 1).toInt = 1) rfl (fun h2 => ?_) (fun h2 => ?_)
    · refine En_Ps 1 (pc' := 28) (lv' := [(0, .ref 0), (1, .int a)]) (st' := [.int ((Int32.ofInt (-1)))]) rfl ?_
      refine En_top (by decide : (Int32.ofInt (-1)).toInt = -1) (fun z3 h4 => ?_)
      exact En_ret (v := some (Value.int z3)) rfl rfl rfl ⟨hσ0, hF0, z3, rfl, ⟨by first | exact q_6ba54b61e9 h4 | omega, by first | exact q_99664cbdae h4 | omega, fun _ => by omega, fun _ => by omega, fun hh => by first | exact ⟨q_4eb6dac66d h4, q_6ba54b61e9 h4⟩ | omega, fun hh => by first | exact ⟨q_4eb6dac66d h4, q_6ba54b61e9 h4⟩ | omega⟩⟩
    · refine En_Ps 1 (pc' := 18) (lv' := [(0, .ref 0), (1, .int a)]) (st' := [.ref 0]) rfl ?_
      refine En_getU (j := 1) (u := 3) (g' := 3) (q := 0) rfl rfl rfl tgz_0 (by decide +kernel) hσ0 (by decide +kernel) un_3_3 (fun h5 => ?_)
      refine En_getK (j := 6) h_fp rfl rfl rfl tgz_3 (by decide +kernel) ?_
      refine En_Ps 1 (pc' := 28) (lv' := [(0, .ref 0), (1, .int a)]) (st' := [.int fp]) rfl ?_
      exact En_ret (v := some (Value.int fp)) rfl rfl rfl ⟨hσ0, hF0, fp, rfl, ⟨by first | exact q_909eef6c0e hl_fp | omega, by first | exact q_5a08281576 hu_fp | omega, fun _ => by omega, fun hh => by first | exact ⟨q_1bb76abeaf, q_857069189f⟩ | omega, fun _ => by omega, fun _ => by omega⟩⟩
  · refine En_Ps 1 (pc' := 5) (lv' := [(0, .ref 0), (1, .int a)]) (st' := [.ref 0]) rfl ?_
    refine En_getU (j := 1) (u := 3) (g' := 3) (q := 0) rfl rfl rfl tgz_0 (by decide +kernel) hσ0 (by decide +kernel) un_3_3 (fun h7 => ?_)
    refine En_getK (j := 5) h_fk rfl rfl rfl tgz_3 (by decide +kernel) ?_
    exact En_ret (v := some (Value.int fk)) rfl rfl rfl ⟨hσ0, hF0, fk, rfl, ⟨by first | exact q_565e7b05df hl_fk | omega, by first | exact q_d82ac32af9 hu_fk | omega, fun hh => by first | exact ⟨q_1bb76abeaf, q_857069189f⟩ | omega, fun _ => by omega, fun _ => by omega, fun _ => by omega⟩⟩
/-- DoorSchool.feed(IIIII)I -/
abbrev P_122x (σ0 : SG) (a : Int32) (b : Int32) (c : Int32) (d : Int32) (e : Int32) (p : Nat) (sg : Int32) (m : Int32) : PO := fun v σ => WT σ ∧ Fr [(1, 1), (2, 0)] σ0 σ ∧ ∃ m1 : Int32, (σ 1)[1]? = some (Value.int m1) ∧ ∃ ret : Int32, v = some (Value.int ret) ∧ -ret.toInt - 1 ≤ 0 ∧ ret.toInt - 1600 ≤ 0 ∧ -m1.toInt + 20 ≤ 0 ∧ m1.toInt - 1600 ≤ 0 ∧ -m1.toInt + m.toInt ≤ 0 ∧ m1.toInt - m.toInt - 20 ≤ 0 ∧ Imp (m.toInt - 1580 ≤ 0) (m1.toInt - m.toInt - 20 ≤ 0 ∧ -m1.toInt + m.toInt + 20 ≤ 0 ∧ ret.toInt - m1.toInt ≤ 0 ∧ -ret.toInt + m1.toInt ≤ 0) ∧ Imp (-m.toInt + 1581 ≤ 0) (m1.toInt - m.toInt ≤ 0 ∧ -m1.toInt + m.toInt ≤ 0 ∧ ret.toInt + 1 ≤ 0 ∧ -ret.toInt - 1 ≤ 0) ∧ ((m.toInt ≤ 1580 → FDP σ0 σ 2 m.toInt 20 a b c d e) ∧ (1580 < m.toInt → ∀ i : Int, ci σ 2 i = ci σ0 2 i))
set_option maxRecDepth 10000 in
set_option maxHeartbeats 4000000 in
theorem c_122x (σ0 : SG) (hσ0 : WT σ0) (a : Int32) (b : Int32) (c : Int32) (d : Int32) (e : Int32) (p : Nat) (hp : TG p = 18) (h_p : (σ0 0)[9]? = some (Value.ref p)) (sg : Int32) (h_sg : (σ0 p)[1]? = some (Value.int sg)) (m : Int32) (h_m : (σ0 1)[1]? = some (Value.int m)) (hp0 : -sg.toInt ≤ 0) : En 1 22 none mr_122 (P_122x σ0 a b c d e p sg m) 0 [(0, .ref 0), (1, .int a), (2, .int b), (3, .int c), (4, .int d), (5, .int e)] [] σ0 := by
  obtain ⟨hl_sg, hu_sg⟩ := WT_int hσ0 (g := 18) hp (by decide +kernel) (l := (-1)) (u := 4) (by decide +kernel) h_sg
  obtain ⟨hl_m, hu_m⟩ := WT_int hσ0 (g := 1) (by decide +kernel) (by decide +kernel) (l := 0) (u := 1600) (by decide +kernel) h_m
  have hF0 : Fr [(1, 1), (2, 0)] σ0 σ0 := Fr_rfl
  refine En_Ps 1 (pc' := 1) (lv' := [(0, .ref 0), (1, .int a), (2, .int b), (3, .int c), (4, .int d), (5, .int e)]) (st' := [.ref 0]) rfl ?_
  refine En_getU (j := 0) (u := 1) (g' := 1) (q := 0) rfl rfl rfl tgz_0 (by decide +kernel) hσ0 (by decide +kernel) un_1_1 (fun h1 => ?_)
  refine En_getK (j := 1) h_m rfl rfl rfl tgz_1 (by decide +kernel) ?_
  refine En_Ps 2 (pc' := 10) (lv' := [(0, .ref 0), (1, .int a), (2, .int b), (3, .int c), (4, .int d), (5, .int e)]) (st' := [.int ((m + (((Int8.ofInt 20).toInt32))))]) rfl ?_
  refine En_top (addI rfl (by decide : ((Int8.ofInt 20).toInt32).toInt = 20) (by first | exact q_b317acd289 hl_m | omega) (by first | exact q_3065489387 hu_m | omega)) (fun z3 h4 => ?_)
  refine En_Ps 1 (pc' := 13) (lv' := [(0, .ref 0), (1, .int a), (2, .int b), (3, .int c), (4, .int d), (5, .int e)]) (st' := [.int (((Int16.ofInt 1600).toInt32)), .int z3]) rfl ?_
  refine En_icLe _ rfl (by decide : ((Int16.ofInt 1600).toInt32).toInt = 1600) rfl (fun h5 => ?_) (fun h5 => ?_)
  · refine En_Ps 1 (pc' := 19) (lv' := [(0, .ref 0), (1, .int a), (2, .int b), (3, .int c), (4, .int d), (5, .int e)]) (st' := [.ref 0]) rfl ?_
    refine En_getK (j := 0) h1 rfl rfl rfl tgz_0 (by decide +kernel) ?_
    refine En_Ps 1 (pc' := 23) (lv' := [(0, .ref 0), (1, .int a), (2, .int b), (3, .int c), (4, .int d), (5, .int e)]) (st' := [.int a, .ref 1]) rfl ?_
    refine En_callV rfl rfl rfl rfl rfl rfl rfl rfl tgz_1 (by decide +kernel) rfl (c_90x σ0 hσ0 a m h_m) (by decide) (by decide) (fun v7 σ8 h6 => ?_)
    obtain ⟨h9, h10, z12, h13, rfl, h11⟩ := h6
    have h14 := h11.2.2.2.2.2
    have h15 := Fr_trans hF0 h10 (by decide +kernel)
    have h16 := Imp_m h11.2.2.2.2.1 (by first | exact q_549c8401b7 h4 h5 | omega)
    refine En_Ps 1 (pc' := 27) (lv' := [(0, .ref 0), (1, .int a), (2, .int b), (3, .int c), (4, .int d), (5, .int e)]) (st' := [.ref 0]) rfl ?_
    refine En_getK (j := 0) ((h10 _ _ (inW tgz_0 (by decide +kernel))).trans h1) rfl rfl rfl tgz_0 (by decide +kernel) ?_
    refine En_Ps 1 (pc' := 31) (lv' := [(0, .ref 0), (1, .int a), (2, .int b), (3, .int c), (4, .int d), (5, .int e)]) (st' := [.int b, .ref 1]) rfl ?_
    refine En_callV rfl rfl rfl rfl rfl rfl rfl rfl tgz_1 (by decide +kernel) rfl (c_90x σ8 h9 b z12 h13) (by decide) (by decide) (fun v18 σ19 h17 => ?_)
    obtain ⟨h20, h21, z23, h24, rfl, h22⟩ := h17
    have h25 := h22.2.2.2.2.2
    have h26 := Fr_trans h15 h21 (by decide +kernel)
    have h27 := Imp_m h22.2.2.2.2.1 (by first | exact q_737f66ec9d h11.2.2.2.1 h4 h5 | omega)
    refine En_Ps 1 (pc' := 35) (lv' := [(0, .ref 0), (1, .int a), (2, .int b), (3, .int c), (4, .int d), (5, .int e)]) (st' := [.ref 0]) rfl ?_
    refine En_getK (j := 0) ((h21 _ _ (inW tgz_0 (by decide +kernel))).trans ((h10 _ _ (inW tgz_0 (by decide +kernel))).trans h1)) rfl rfl rfl tgz_0 (by decide +kernel) ?_
    refine En_Ps 1 (pc' := 39) (lv' := [(0, .ref 0), (1, .int a), (2, .int b), (3, .int c), (4, .int d), (5, .int e)]) (st' := [.int c, .ref 1]) rfl ?_
    refine En_callV rfl rfl rfl rfl rfl rfl rfl rfl tgz_1 (by decide +kernel) rfl (c_90x σ19 h20 c z23 h24) (by decide) (by decide) (fun v29 σ30 h28 => ?_)
    obtain ⟨h31, h32, z34, h35, rfl, h33⟩ := h28
    have h36 := h33.2.2.2.2.2
    have h37 := Fr_trans h26 h32 (by decide +kernel)
    have h38 := Imp_m h33.2.2.2.2.1 (by first | exact q_63199bf400 h22.2.2.2.1 h11.2.2.2.1 h4 h5 | omega)
    refine En_Ps 1 (pc' := 43) (lv' := [(0, .ref 0), (1, .int a), (2, .int b), (3, .int c), (4, .int d), (5, .int e)]) (st' := [.ref 0]) rfl ?_
    refine En_getK (j := 0) ((h32 _ _ (inW tgz_0 (by decide +kernel))).trans ((h21 _ _ (inW tgz_0 (by decide +kernel))).trans ((h10 _ _ (inW tgz_0 (by decide +kernel))).trans h1))) rfl rfl rfl tgz_0 (by decide +kernel) ?_
    refine En_Ps 1 (pc' := 48) (lv' := [(0, .ref 0), (1, .int a), (2, .int b), (3, .int c), (4, .int d), (5, .int e)]) (st' := [.int d, .ref 1]) rfl ?_
    refine En_callV rfl rfl rfl rfl rfl rfl rfl rfl tgz_1 (by decide +kernel) rfl (c_90x σ30 h31 d z34 h35) (by decide) (by decide) (fun v40 σ41 h39 => ?_)
    obtain ⟨h42, h43, z45, h46, rfl, h44⟩ := h39
    have h47 := h44.2.2.2.2.2
    have h48 := Fr_trans h37 h43 (by decide +kernel)
    have h49 := Imp_m h44.2.2.2.2.1 (by first | exact q_7e5cba469b h33.2.2.2.1 h22.2.2.2.1 h11.2.2.2.1 h4 h5 | omega)
    refine En_Ps 1 (pc' := 52) (lv' := [(0, .ref 0), (1, .int a), (2, .int b), (3, .int c), (4, .int d), (5, .int e)]) (st' := [.ref 0]) rfl ?_
    refine En_getK (j := 0) ((h43 _ _ (inW tgz_0 (by decide +kernel))).trans ((h32 _ _ (inW tgz_0 (by decide +kernel))).trans ((h21 _ _ (inW tgz_0 (by decide +kernel))).trans ((h10 _ _ (inW tgz_0 (by decide +kernel))).trans h1)))) rfl rfl rfl tgz_0 (by decide +kernel) ?_
    refine En_Ps 1 (pc' := 57) (lv' := [(0, .ref 0), (1, .int a), (2, .int b), (3, .int c), (4, .int d), (5, .int e)]) (st' := [.int e, .ref 1]) rfl ?_
    refine En_callV rfl rfl rfl rfl rfl rfl rfl rfl tgz_1 (by decide +kernel) rfl (c_90x σ41 h42 e z45 h46) (by decide) (by decide) (fun v51 σ52 h50 => ?_)
    obtain ⟨h53, h54, z56, h57, rfl, h55⟩ := h50
    have h58 := h55.2.2.2.2.2
    have h59 := Fr_trans h48 h54 (by decide +kernel)
    have h60 := Imp_m h55.2.2.2.2.1 (by first | exact q_bcb984a5e1 h44.2.2.2.1 h33.2.2.2.1 h22.2.2.2.1 h11.2.2.2.1 h4 h5 | omega)
    refine En_Ps 1 (pc' := 61) (lv' := [(0, .ref 0), (1, .int a), (2, .int b), (3, .int c), (4, .int d), (5, .int e)]) (st' := [.ref 0]) rfl ?_
    refine En_getK (j := 0) ((h54 _ _ (inW tgz_0 (by decide +kernel))).trans ((h43 _ _ (inW tgz_0 (by decide +kernel))).trans ((h32 _ _ (inW tgz_0 (by decide +kernel))).trans ((h21 _ _ (inW tgz_0 (by decide +kernel))).trans ((h10 _ _ (inW tgz_0 (by decide +kernel))).trans h1))))) rfl rfl rfl tgz_0 (by decide +kernel) ?_
    refine En_getK (j := 1) h57 rfl rfl rfl tgz_1 (by decide +kernel) ?_
    exact En_ret (v := some (Value.int z56)) rfl rfl rfl ⟨h53, h59, z56, h57, z56, rfl, ⟨by first | exact q_be52155ce6 h55.1 | omega, by first | exact q_76190b61a3 h55.2.1 | omega, by first | exact q_7c7233d48f h60.2 h49.2 h38.2 h27.2 h11.1 | omega, by first | exact q_76190b61a3 h55.2.1 | omega, by first | exact q_2007956020 h16.2 h27.2 h38.2 h49.2 h60.2 | omega, by first | exact q_2bc18f6fdd h11.2.2.2.1 h22.2.2.2.1 h33.2.2.2.1 h44.2.2.2.1 h55.2.2.2.1 | omega, fun hh => by first | exact ⟨q_2bc18f6fdd h11.2.2.2.1 h22.2.2.2.1 h33.2.2.2.1 h44.2.2.2.1 h55.2.2.2.1, q_40bad344e3 h16.2 h27.2 h38.2 h49.2 h60.2, q_1bb76abeaf, q_857069189f⟩ | omega, fun hh => by first | exact ⟨q_c96239e5db hh h4 h5, q_8705a471bc hh h4 h5, q_0a5c54d24c hh h4 h5, q_be52155ce6 h55.1⟩ | omega, ⟨fun _ => FDP_5 (by (first | exact q_58e6e51dcc hl_m | omega)) (APB_d h14 (by (first | exact q_61ddd2b576 | omega)) (by (first | exact q_6d469c2a5b h16.1 h16.2 | omega))) (APB_d h25 (by (first | exact q_2b8e8f4628 h16.1 h16.2 | omega)) (by (first | exact q_6d469c2a5b h27.1 h27.2 | omega))) (APB_d h36 (by (first | exact q_9cd09e675b h27.1 h16.1 h27.2 h16.2 | omega)) (by (first | exact q_6d469c2a5b h38.1 h38.2 | omega))) (APB_d h47 (by (first | exact q_9a46764495 h38.1 h27.1 h16.1 h38.2 h27.2 h16.2 | omega)) (by (first | exact q_6d469c2a5b h49.1 h49.2 | omega))) (APB_d h58 (by (first | exact q_970825857d h49.1 h38.1 h27.1 h16.1 h49.2 h38.2 h27.2 h16.2 | omega)) (by (first | exact q_6d469c2a5b h60.1 h60.2 | omega))), fun h => absurd h (by (first | exact q_b7478a5c42 h h4 h5 | omega))⟩⟩⟩
  · refine En_Ps 1 (pc' := 17) (lv' := [(0, .ref 0), (1, .int a), (2, .int b), (3, .int c), (4, .int d), (5, .int e)]) (st' := [.int ((Int32.ofInt (-1)))]) rfl ?_
    refine En_top (by decide : (Int32.ofInt (-1)).toInt = -1) (fun z61 h62 => ?_)
    exact En_ret (v := some (Value.int z61)) rfl rfl rfl ⟨hσ0, hF0, m, h_m, z61, rfl, ⟨by first | exact q_6ba54b61e9 h62 | omega, by first | exact q_99664cbdae h62 | omega, by first | exact q_abdabe92bc h4 h5 | omega, by first | exact q_5a08281576 hu_m | omega, by first | exact q_857069189f | omega, by first | exact q_b37250a010 | omega, fun _ => by omega, fun hh => by first | exact ⟨q_1bb76abeaf, q_857069189f, q_4eb6dac66d h62, q_6ba54b61e9 h62⟩ | omega, ⟨fun h => absurd h (by (first | exact q_485fc563e3 h h4 h5 | omega)), fun _ _ => rfl⟩⟩⟩
/-- DoorSchool.foolingAfter(II)I -/
abbrev P_127x (σ0 : SG) (Wv : Int → Int) (a : Int32) (b : Int32) (p : Nat) (sg : Int32) : PO := fun v σ => WT σ ∧ Fr [(20, 2), (21, 0), (22, 0)] σ0 σ ∧ ∃ ret : Int32, v = some (Value.int ret) ∧ -ret.toInt ≤ 0 ∧ ret.toInt - 63 ≤ 0 ∧ (KN σ p Wv (act Wv) ∧ OUT σ0 σ p)
set_option maxRecDepth 10000 in
set_option maxHeartbeats 4000000 in
theorem c_127x {Wv : Int → Int} (σ0 : SG) (hσ0 : WT σ0) (a : Int32) (b : Int32) (hl_a : 0 ≤ a.toInt) (hu_a : a.toInt ≤ 3) (hl_b : 0 ≤ b.toInt) (hu_b : b.toInt ≤ 15) (p : Nat) (hp : TG p = 18) (h_p : (σ0 0)[9]? = some (Value.ref p)) (sg : Int32) (h_sg : (σ0 p)[1]? = some (Value.int sg)) (hp0 : -sg.toInt ≤ 0) (hP : PLA p) (hX : FXP σ0 p) (hK : KN σ0 p Wv (act Wv)) (hB : WFw Wv) (ha : a.toInt < Wv 2) : En 4 92 none mr_127 (P_127x σ0 Wv a b p sg) 0 [(0, .ref 0), (1, .int a), (2, .int b)] [] σ0 := by
  obtain ⟨hl_sg, hu_sg⟩ := WT_int hσ0 (g := 18) hp (by decide +kernel) (l := (-1)) (u := 4) (by decide +kernel) h_sg
  have hF0 : Fr [(20, 2), (21, 0), (22, 0)] σ0 σ0 := Fr_rfl
  have t1 : Wv (0) = sg.toInt := KN_v hK (Or.inl (by decide)) (by decide) (by decide) (by rw [lcO_lt (by decide) (by decide), Nat.add_zero]) rfl h_sg
  obtain ⟨z3, h2, h4, h5⟩ := WT_peekI hσ0 hp (by decide +kernel : FT 18 3 = (0, 0, 4)) (by decide +kernel)
  have t6 : Wv (2) = z3.toInt := KN_v hK (Or.inl (by decide)) (by decide) (by decide) (by rw [lcO_lt (by decide) (by decide), Nat.add_zero]) rfl h2
  refine En_Ps 1 (pc' := 1) (lv' := [(0, .ref 0), (1, .int a), (2, .int b)]) (st' := [.ref 0]) rfl ?_
  refine En_getK (j := 9) h_p rfl rfl rfl tgz_0 (by decide +kernel) ?_
  refine En_getR (j := 4) (g' := 19) (u := 0) rfl rfl rfl hp (by decide +kernel) hσ0 (by decide +kernel) (fun a8 h7 ha8 => ?_)
  have t9 : a8 = p + 1 := ref_uniq h7 (FXP_fr hP hX hF0 (by decide +kernel)).1
  refine En_Ps 1 (pc' := 8) (lv' := [(0, .ref 0), (1, .int a), (2, .int b)]) (st' := [.int a, .ref a8]) rfl ?_
  refine En_aald (g' := 28) (u := 0) rfl rfl ha8 (by decide +kernel) hσ0 (by first | exact q_58e6e51dcc hl_a | omega) (lnI (by decide +kernel : LN _ = 4) (by first | exact q_f3bb6f88f7 hu_a | omega)) (FTsgl (by decide +kernel)) (fun a11 h10 ha11 => ?_)
  have t12 : a11 = p + 10 + 4 * (a.toInt).toNat := DRe (d := a.toInt) (FXP_fr hP hX hF0 (by decide +kernel)) t9 h10 (by omega) (by omega)
  have t13 := lc_d (d := a.toInt) (by omega) (by omega)
  refine En_getR (j := 0) (g' := 20) (u := 0) rfl rfl rfl ha11 (by decide +kernel) hσ0 (by decide +kernel) (fun a15 h14 ha15 => ?_)
  have t16 : a15 = p + 11 + 4 * (a.toInt).toNat := DLc (d := a.toInt) (FXP_fr hP hX hF0 (by decide +kernel)) t12 h14 (by omega) (by omega)
  obtain ⟨a18, h17, ha18⟩ := WT_peekR (g := 20) (j := 0) (g' := 21) (u := 0) hσ0 ha15 (by decide +kernel) (by decide +kernel)
  have t19 : a18 = p + 12 + 4 * (a.toInt).toNat := DKk (d := a.toInt) (FXP_fr hP hX hF0 (by decide +kernel)) t16 h17 (by omega) (by omega)
  obtain ⟨a21, h20, ha21⟩ := WT_peekR (g := 20) (j := 1) (g' := 22) (u := 0) hσ0 ha15 (by decide +kernel) (by decide +kernel)
  have t22 : a21 = p + 13 + 4 * (a.toInt).toNat := DKo (d := a.toInt) (FXP_fr hP hX hF0 (by decide +kernel)) t16 h20 (by omega) (by omega)
  obtain ⟨z24, h23, h25, h26⟩ := WT_peekI hσ0 ha15 (by decide +kernel : FT 20 2 = (0, 0, 13)) (by decide +kernel)
  have t27 : Wv (12 + 4 * (a.toInt)) = z24.toInt := KN_v hK (Or.inr (Or.inl ⟨by omega, by omega, by omega⟩)) (by omega) (by omega) (by omega) (by omega) h23
  have h28 := hB.2.2.2.2.2.2 a.toInt (by omega) (by omega)
  have : z24.toInt ≤ 12 := by omega
  refine En_Ps 4 (pc' := 16) (lv' := [(3, .ref a15), (0, .ref 0), (1, .int a), (2, .int b)]) (st' := [.ref 0, .int b, .ref a15]) rfl ?_
  refine En_callV rfl rfl rfl rfl rfl rfl rfl rfl tgz_0 (by decide +kernel) rfl (c_160 σ0 hσ0 p hp h_p sg h_sg (by first | exact q_a555021d16 hp0 | omega)) (by decide) (by decide) (fun v30 σ31 h29 => ?_)
  obtain ⟨h32, h33, z35, rfl, h34⟩ := h29
  obtain rfl : σ0 = σ31 := Fr_nil h33
  refine En_Ps 1 (pc' := 20) (lv' := [(3, .ref a15), (0, .ref 0), (1, .int a), (2, .int b)]) (st' := [.int b, .int z35, .int b, .ref a15]) rfl ?_
  refine En_callS rfl rfl rfl rfl rfl rfl rfl rfl rfl (c_108ax σ0 hσ0 z35 b (geI rfl (by first | exact q_ef1e8e38bf h34.1 | omega)) (leI rfl (by first | exact q_62355f097f h34.2 | omega)) (geI rfl (by first | exact q_58e6e51dcc hl_b | omega)) (leI rfl (by first | exact q_5a4d8a7e08 hu_b | omega))) (by decide) (by decide) (fun v37 σ38 h36 => ?_)
  obtain ⟨h39, h40, z42, rfl, h41⟩ := h36
  have h43 := h41.2.2
  obtain rfl : σ0 = σ38 := Fr_nil h40
  refine En_callV rfl rfl rfl rfl rfl rfl rfl rfl ha15 (by decide +kernel) rfl (c_31x σ0 hσ0 a15 ha15 b z42 (geI rfl (by first | exact q_58e6e51dcc hl_b | omega)) (leI rfl (by first | exact q_5a4d8a7e08 hu_b | omega)) (geI rfl (by first | exact q_ef1e8e38bf h41.1 | omega)) (leI rfl (by first | exact q_733c8bfbae h41.2.1 | omega)) a18 ha18 h17 a21 ha21 h20 z24 h23 (by omega)) (by decide) (by decide) (fun v45 σ46 h44 => ?_)
  obtain ⟨h47, h48, z50, h51, rfl, h49⟩ := h44
  have h52 := h49.2.2.2.2
  have h53 := Fr_trans hF0 h48 (by decide +kernel)
  refine En_Ps 2 (pc' := 28) (lv' := [(3, .ref a15), (0, .ref 0), (1, .int a), (2, .int b)]) (st' := [.int a, .ref 0]) rfl ?_
  refine En_callV rfl rfl rfl rfl rfl rfl rfl rfl tgz_0 (by decide +kernel) rfl (c_114 σ46 h47 a (geI rfl (by first | exact q_58e6e51dcc hl_a | omega)) (leI rfl (by first | exact q_da5e9b976f hu_a | omega)) p hp ((h48 _ _ (inW tgz_0 (by decide +kernel))).trans h_p) sg ((h48 _ _ (inW hp (by decide +kernel))).trans h_sg) (by first | exact q_a555021d16 hp0 | omega)) (by decide) (by decide) (fun v55 σ56 h54 => ?_)
  obtain ⟨h57, h58, z60, rfl, h59⟩ := h54
  obtain rfl : σ46 = σ56 := Fr_nil h58
  refine En_Ps 2 (pc' := 34) (lv' := [(4, .int z60), (3, .ref a15), (0, .ref 0), (1, .int a), (2, .int b)]) (st' := [.ref a15]) rfl ?_
  refine En_callV rfl rfl rfl rfl rfl rfl rfl rfl ha15 (by decide +kernel) rfl (c_33x σ46 h47 a15 ha15 a18 ha18 ((h48 _ _ (inW ha15 (by decide +kernel))).trans h17) a21 ha21 ((h48 _ _ (inW ha15 (by decide +kernel))).trans h20) z50 h51 (by first | exact q_68fbff215b h49.1 | omega)) (by decide) (by decide) (fun v62 σ63 h61 => ?_)
  obtain ⟨h64, h65, z67, h68, rfl, h66⟩ := h61
  have h69 := h66.2.2.2.2.2.2
  have h70 := Fr_trans h53 h65 (by decide +kernel)
  refine En_Ps 2 (pc' := 40) (lv' := [(4, .int z60), (3, .ref a15), (0, .ref 0), (1, .int a), (2, .int b)]) (st' := [.ref 0, .int z60]) rfl ?_
  refine En_callV rfl rfl rfl rfl rfl rfl rfl rfl tgz_0 (by decide +kernel) rfl (c_160 σ63 h64 p hp ((h65 _ _ (inW tgz_0 (by decide +kernel))).trans ((h48 _ _ (inW tgz_0 (by decide +kernel))).trans h_p)) sg ((h65 _ _ (inW hp (by decide +kernel))).trans ((h48 _ _ (inW hp (by decide +kernel))).trans h_sg)) (by first | exact q_a555021d16 hp0 | omega)) (by decide) (by decide) (fun v72 σ73 h71 => ?_)
  obtain ⟨h74, h75, z77, rfl, h76⟩ := h71
  obtain rfl : σ63 = σ73 := Fr_nil h75
  refine En_Ps 2 (pc' := 45) (lv' := [(4, .int z60), (3, .ref a15), (0, .ref 0), (1, .int a), (2, .int b)]) (st' := [.int ((z77 ^^^ ((Int32.ofInt (-1))))), .int z60]) rfl ?_
  refine En_nam (fun z78 h79 => ?_)
  refine En_Ps 1 (pc' := 46) (lv' := [(4, .int z60), (3, .ref a15), (0, .ref 0), (1, .int a), (2, .int b)]) (st' := [.int ((z60 &&& z78))]) rfl ?_
  refine En_nam (fun z80 h81 => ?_)
  refine En_callS rfl rfl rfl rfl rfl rfl rfl rfl rfl (c_7bx σ63 h64 z80) (by decide) (by decide) (fun v83 σ84 h82 => ?_)
  obtain ⟨h85, h86, z88, rfl, h87⟩ := h82
  obtain rfl : σ63 = σ84 := Fr_nil h86
  exact En_ret (v := some (Value.int z88)) rfl rfl rfl ⟨h64, h70, z88, rfl, ⟨by first | exact q_a555021d16 h87.1 | omega, by first | exact q_4b9206e141 h87.2 | omega, KN_again hK (PLA_B hP) t27 h52 (DRP_e h69 (by omega)) t16 t19 t22 (by omega) (by omega) (by omega) (by omega)⟩⟩
/-- DoorSchool.gainOf(III)I -/
abbrev P_129x (σ0 : SG) (Wv : Int → Int) (a : Int32) (b : Int32) (c : Int32) (p : Nat) (sg : Int32) : PO := fun v σ => WT σ ∧ Fr [(20, 2), (21, 0), (22, 0)] σ0 σ ∧ ∃ ret : Int32, v = some (Value.int ret) ∧ -ret.toInt - 63 ≤ 0 ∧ ret.toInt - 63 ≤ 0 ∧ (KN σ p Wv (act Wv) ∧ OUT σ0 σ p)
set_option maxRecDepth 10000 in
set_option maxHeartbeats 4000000 in
theorem c_129x {Wv : Int → Int} (σ0 : SG) (hσ0 : WT σ0) (a : Int32) (b : Int32) (c : Int32) (hl_a : 0 ≤ a.toInt) (hu_a : a.toInt ≤ 3) (hl_b : 0 ≤ b.toInt) (hu_b : b.toInt ≤ 15) (hl_c : 0 ≤ c.toInt) (hu_c : c.toInt ≤ 1) (p : Nat) (hp : TG p = 18) (h_p : (σ0 0)[9]? = some (Value.ref p)) (sg : Int32) (h_sg : (σ0 p)[1]? = some (Value.int sg)) (hp0 : -sg.toInt ≤ 0) (hP : PLA p) (hX : FXP σ0 p) (hK : KN σ0 p Wv (act Wv)) (hB : WFw Wv) (ha : a.toInt < Wv 2) : En 4 92 none mr_129 (P_129x σ0 Wv a b c p sg) 0 [(0, .ref 0), (1, .int a), (2, .int b), (3, .int c)] [] σ0 := by
  obtain ⟨hl_sg, hu_sg⟩ := WT_int hσ0 (g := 18) hp (by decide +kernel) (l := (-1)) (u := 4) (by decide +kernel) h_sg
  have hF0 : Fr [(20, 2), (21, 0), (22, 0)] σ0 σ0 := Fr_rfl
  have t1 : Wv (0) = sg.toInt := KN_v hK (Or.inl (by decide)) (by decide) (by decide) (by rw [lcO_lt (by decide) (by decide), Nat.add_zero]) rfl h_sg
  obtain ⟨z3, h2, h4, h5⟩ := WT_peekI hσ0 hp (by decide +kernel : FT 18 3 = (0, 0, 4)) (by decide +kernel)
  have t6 : Wv (2) = z3.toInt := KN_v hK (Or.inl (by decide)) (by decide) (by decide) (by rw [lcO_lt (by decide) (by decide), Nat.add_zero]) rfl h2
  refine En_Ps 1 (pc' := 1) (lv' := [(0, .ref 0), (1, .int a), (2, .int b), (3, .int c)]) (st' := [.ref 0]) rfl ?_
  refine En_getK (j := 9) h_p rfl rfl rfl tgz_0 (by decide +kernel) ?_
  refine En_getR (j := 4) (g' := 19) (u := 0) rfl rfl rfl hp (by decide +kernel) hσ0 (by decide +kernel) (fun a8 h7 ha8 => ?_)
  have t9 : a8 = p + 1 := ref_uniq h7 (FXP_fr hP hX hF0 (by decide +kernel)).1
  refine En_Ps 1 (pc' := 8) (lv' := [(0, .ref 0), (1, .int a), (2, .int b), (3, .int c)]) (st' := [.int a, .ref a8]) rfl ?_
  refine En_aald (g' := 28) (u := 0) rfl rfl ha8 (by decide +kernel) hσ0 (by first | exact q_58e6e51dcc hl_a | omega) (lnI (by decide +kernel : LN _ = 4) (by first | exact q_f3bb6f88f7 hu_a | omega)) (FTsgl (by decide +kernel)) (fun a11 h10 ha11 => ?_)
  have t12 : a11 = p + 10 + 4 * (a.toInt).toNat := DRe (d := a.toInt) (FXP_fr hP hX hF0 (by decide +kernel)) t9 h10 (by (first | exact q_58e6e51dcc hl_a | omega)) (by (first | exact q_718bc96520 hu_a | omega))
  have t13 := lc_d (d := a.toInt) (by (first | exact q_58e6e51dcc hl_a | omega)) (by (first | exact q_718bc96520 hu_a | omega))
  refine En_getR (j := 0) (g' := 20) (u := 0) rfl rfl rfl ha11 (by decide +kernel) hσ0 (by decide +kernel) (fun a15 h14 ha15 => ?_)
  have t16 : a15 = p + 11 + 4 * (a.toInt).toNat := DLc (d := a.toInt) (FXP_fr hP hX hF0 (by decide +kernel)) t12 h14 (by (first | exact q_58e6e51dcc hl_a | omega)) (by (first | exact q_718bc96520 hu_a | omega))
  obtain ⟨a18, h17, ha18⟩ := WT_peekR (g := 20) (j := 0) (g' := 21) (u := 0) hσ0 ha15 (by decide +kernel) (by decide +kernel)
  have t19 : a18 = p + 12 + 4 * (a.toInt).toNat := DKk (d := a.toInt) (FXP_fr hP hX hF0 (by decide +kernel)) t16 h17 (by (first | exact q_58e6e51dcc hl_a | omega)) (by (first | exact q_718bc96520 hu_a | omega))
  obtain ⟨a21, h20, ha21⟩ := WT_peekR (g := 20) (j := 1) (g' := 22) (u := 0) hσ0 ha15 (by decide +kernel) (by decide +kernel)
  have t22 : a21 = p + 13 + 4 * (a.toInt).toNat := DKo (d := a.toInt) (FXP_fr hP hX hF0 (by decide +kernel)) t16 h20 (by (first | exact q_58e6e51dcc hl_a | omega)) (by (first | exact q_718bc96520 hu_a | omega))
  obtain ⟨z24, h23, h25, h26⟩ := WT_peekI hσ0 ha15 (by decide +kernel : FT 20 2 = (0, 0, 13)) (by decide +kernel)
  have t27 : Wv (12 + 4 * (a.toInt)) = z24.toInt := KN_v hK (Or.inr (Or.inl ⟨by (first | exact q_6e29a91d15 hl_a | omega), by (first | exact q_aaaa2c939f hu_a | omega), by omega⟩)) (by (first | exact q_8a0e8d37df hl_a | omega)) (by (first | exact q_cbe048ef7f hu_a | omega)) (by omega) (by (first | exact q_c4326de684 t13.2.2.2.2.2.2.1 | omega)) h23
  have h28 := hB.2.2.2.2.2.2 a.toInt (by (first | exact q_58e6e51dcc hl_a | omega)) (by (first | exact q_718bc96520 hu_a | omega))
  have : z24.toInt ≤ 12 := by (first | exact q_58cf49402e t27 h28 | omega)
  refine En_Ps 4 (pc' := 17) (lv' := [(4, .ref a15), (0, .ref 0), (1, .int a), (2, .int b), (3, .int c)]) (st' := [.int a, .ref 0, .ref 0]) rfl ?_
  refine En_callV rfl rfl rfl rfl rfl rfl rfl rfl tgz_0 (by decide +kernel) rfl (c_114 σ0 hσ0 a (geI rfl (by first | exact q_58e6e51dcc hl_a | omega)) (leI rfl (by first | exact q_da5e9b976f hu_a | omega)) p hp h_p sg h_sg (by first | exact q_a555021d16 hp0 | omega)) (by decide) (by decide) (fun v30 σ31 h29 => ?_)
  obtain ⟨h32, h33, z35, rfl, h34⟩ := h29
  obtain rfl : σ0 = σ31 := Fr_nil h33
  refine En_callV rfl rfl rfl rfl rfl rfl rfl rfl tgz_0 (by decide +kernel) rfl (c_156 σ0 hσ0 z35 p hp h_p sg h_sg (by first | exact q_a555021d16 hp0 | omega)) (by decide) (by decide) (fun v37 σ38 h36 => ?_)
  obtain ⟨h39, h40, z42, rfl, h41⟩ := h36
  obtain rfl : σ0 = σ38 := Fr_nil h40
  refine En_Ps 4 (pc' := 29) (lv' := [(5, .int z42), (4, .ref a15), (0, .ref 0), (1, .int a), (2, .int b), (3, .int c)]) (st' := [.int c, .int b, .ref a15]) rfl ?_
  refine En_callV rfl rfl rfl rfl rfl rfl rfl rfl ha15 (by decide +kernel) rfl (c_31x σ0 hσ0 a15 ha15 b c (geI rfl (by first | exact q_58e6e51dcc hl_b | omega)) (leI rfl (by first | exact q_5a4d8a7e08 hu_b | omega)) (geI rfl (by first | exact q_58e6e51dcc hl_c | omega)) (leI rfl (by first | exact q_9d0c30f9c5 hu_c | omega)) a18 ha18 h17 a21 ha21 h20 z24 h23 (by (first | exact q_16c941e15c this | omega))) (by decide) (by decide) (fun v44 σ45 h43 => ?_)
  obtain ⟨h46, h47, z49, h50, rfl, h48⟩ := h43
  have h51 := h48.2.2.2.2
  have h52 := Fr_trans hF0 h47 (by decide +kernel)
  refine En_Ps 3 (pc' := 35) (lv' := [(5, .int z42), (4, .ref a15), (0, .ref 0), (1, .int a), (2, .int b), (3, .int c)]) (st' := [.int a, .ref 0, .ref 0]) rfl ?_
  refine En_callV rfl rfl rfl rfl rfl rfl rfl rfl tgz_0 (by decide +kernel) rfl (c_114 σ45 h46 a (geI rfl (by first | exact q_58e6e51dcc hl_a | omega)) (leI rfl (by first | exact q_da5e9b976f hu_a | omega)) p hp ((h47 _ _ (inW tgz_0 (by decide +kernel))).trans h_p) sg ((h47 _ _ (inW hp (by decide +kernel))).trans h_sg) (by first | exact q_a555021d16 hp0 | omega)) (by decide) (by decide) (fun v54 σ55 h53 => ?_)
  obtain ⟨h56, h57, z59, rfl, h58⟩ := h53
  obtain rfl : σ45 = σ55 := Fr_nil h57
  refine En_callV rfl rfl rfl rfl rfl rfl rfl rfl tgz_0 (by decide +kernel) rfl (c_156 σ45 h46 z59 p hp ((h47 _ _ (inW tgz_0 (by decide +kernel))).trans h_p) sg ((h47 _ _ (inW hp (by decide +kernel))).trans h_sg) (by first | exact q_a555021d16 hp0 | omega)) (by decide) (by decide) (fun v61 σ62 h60 => ?_)
  obtain ⟨h63, h64, z66, rfl, h65⟩ := h60
  obtain rfl : σ45 = σ62 := Fr_nil h64
  refine En_Ps 2 (pc' := 45) (lv' := [(6, .int z66), (5, .int z42), (4, .ref a15), (0, .ref 0), (1, .int a), (2, .int b), (3, .int c)]) (st' := [.ref a15]) rfl ?_
  refine En_callV rfl rfl rfl rfl rfl rfl rfl rfl ha15 (by decide +kernel) rfl (c_33x σ45 h46 a15 ha15 a18 ha18 ((h47 _ _ (inW ha15 (by decide +kernel))).trans h17) a21 ha21 ((h47 _ _ (inW ha15 (by decide +kernel))).trans h20) z49 h50 (by first | exact q_68fbff215b h48.1 | omega)) (by decide) (by decide) (fun v68 σ69 h67 => ?_)
  obtain ⟨h70, h71, z73, h74, rfl, h72⟩ := h67
  have h75 := h72.2.2.2.2.2.2
  have h76 := Fr_trans h52 h71 (by decide +kernel)
  refine En_Ps 3 (pc' := 53) (lv' := [(6, .int z66), (5, .int z42), (4, .ref a15), (0, .ref 0), (1, .int a), (2, .int b), (3, .int c)]) (st' := [.int ((z66 - z42))]) rfl ?_
  refine En_top (subI rfl rfl (by first | exact q_d018790b8b h41.2 h65.1 | omega) (by first | exact q_3fa6c10ab4 h41.1 h65.2 | omega)) (fun z77 h78 => ?_)
  exact En_ret (v := some (Value.int z77)) rfl rfl rfl ⟨h70, h76, z77, rfl, ⟨by first | exact q_fb51dea35d h78 h41.2 h65.1 | omega, by first | exact q_5e305e2bed h78 h41.1 h65.2 | omega, KN_again hK (PLA_B hP) t27 h51 (DRP_e h75 (by (first | exact q_66f7d0e86a h48.2.2.1 h48.2.2.2.1 | omega))) t16 t19 t22 (by (first | exact q_58e6e51dcc hl_a | omega)) (by (first | exact q_718bc96520 hu_a | omega)) (by (first | exact q_114b7bcb5b ha | omega)) (by (first | exact q_58e6e51dcc h25 | omega))⟩⟩
/-- DoorSchool.isLesson(III)Z -/
abbrev P_144x (σ0 : SG) (Wv : Int → Int) (a : Int32) (b : Int32) (c : Int32) (p : Nat) (sg : Int32) : PO := fun v σ => WT σ ∧ Fr [] σ0 σ ∧ ∃ ret : Int32, v = some (Value.int ret) ∧ -ret.toInt ≤ 0 ∧ ret.toInt - 1 ≤ 0 ∧ Imp (ret.toInt ≤ 0 ∧ -ret.toInt ≤ 0) (-a.toInt - 2147483648 ≤ 0 ∧ a.toInt - 2147483647 ≤ 0) ∧ Imp (ret.toInt - 1 ≤ 0 ∧ -ret.toInt + 1 ≤ 0) (-a.toInt ≤ 0 ∧ a.toInt - 3 ≤ 0 ∧ -b.toInt ≤ 0 ∧ b.toInt - 15 ≤ 0 ∧ -c.toInt ≤ 0 ∧ c.toInt - 1 ≤ 0) ∧ ((ret.toInt = 1 ∧ okL Wv a.toInt b.toInt c.toInt) ∨ (ret.toInt = 0 ∧ ¬ okL Wv a.toInt b.toInt c.toInt))
set_option maxRecDepth 10000 in
set_option maxHeartbeats 4000000 in
theorem c_144x {Wv : Int → Int} (σ0 : SG) (hσ0 : WT σ0) (a : Int32) (b : Int32) (c : Int32) (p : Nat) (hp : TG p = 18) (h_p : (σ0 0)[9]? = some (Value.ref p)) (sg : Int32) (h_sg : (σ0 p)[1]? = some (Value.int sg)) (hp0 : -sg.toInt ≤ 0) (hP : PLA p) (hX : FXP σ0 p) (hK : KN σ0 p Wv (act Wv)) : En 2 41 none mr_144 (P_144x σ0 Wv a b c p sg) 0 [(0, .ref 0), (1, .int a), (2, .int b), (3, .int c)] [] σ0 := by
  obtain ⟨hl_sg, hu_sg⟩ := WT_int hσ0 (g := 18) hp (by decide +kernel) (l := (-1)) (u := 4) (by decide +kernel) h_sg
  have hF0 : Fr [] σ0 σ0 := Fr_rfl
  have t1 : Wv (0) = sg.toInt := KN_v hK (Or.inl (by decide)) (by decide) (by decide) (by rw [lcO_lt (by decide) (by decide), Nat.add_zero]) rfl h_sg
  refine En_Ps 1 (pc' := 1) (lv' := [(0, .ref 0), (1, .int a), (2, .int b), (3, .int c)]) (st' := [.ref 0]) rfl ?_
  refine En_getK (j := 9) h_p rfl rfl rfl tgz_0 (by decide +kernel) ?_
  refine En_Ps 1 (pc' := 5) (lv' := [(0, .ref 0), (1, .int a), (2, .int b), (3, .int c)]) (st' := [.int a, .ref p]) rfl ?_
  obtain ⟨z3, h2, h4, h5⟩ := WT_peekI hσ0 hp (by decide +kernel : FT 18 3 = (0, 0, 4)) (by decide +kernel)
  have t6 : Wv (2) = z3.toInt := KN_v hK (Or.inl (by decide)) (by decide) (by decide) (by rw [lcO_lt (by decide) (by decide), Nat.add_zero]) rfl h2
  refine En_callV rfl rfl rfl rfl rfl rfl rfl rfl hp (by decide +kernel) rfl (c_47x σ0 hσ0 p hp a z3 h2) (by decide) (by decide) (fun v8 σ9 h7 => ?_)
  obtain ⟨h10, h11, z13, rfl, h12⟩ := h7
  obtain rfl : σ0 = σ9 := Fr_nil h11
  have h14 := Imp_m h12.2.2.1
  have h15 := Imp_m h12.2.2.2.1
  have h16 := Imp_m h12.2.2.2.2.1
  have h17 := Imp_m h12.2.2.2.2.2
  refine En_iEq _ rfl rfl (fun h18 => ?_) (fun h18 => ?_)
  · have h19 := Imp_m h12.2.2.2.2.1 (by first | exact ⟨q_c5d285f1b9 h18, q_a555021d16 h12.1⟩ | omega)
    refine En_Ps 1 (pc' := 34) (lv' := [(0, .ref 0), (1, .int a), (2, .int b), (3, .int c)]) (st' := [.int ((Int32.ofInt 0))]) rfl ?_
    refine En_top (by decide : (Int32.ofInt 0).toInt = 0) (fun z20 h21 => ?_)
    exact En_ret (v := some (Value.int z20)) rfl rfl (retZ rfl rfl (by first | exact q_55451d0a83 h21 | omega) (by first | exact q_87849c3859 h21 | omega)) ⟨hσ0, hF0, z20, rfl, ⟨by first | exact q_097a37c2ae h21 | omega, by first | exact q_e269517bee h21 | omega, fun hh => by first | exact ⟨q_62fc0891e9 h19.1, q_2f9ec35db8 h19.2⟩ | omega, fun _ => by omega, Or.inr ⟨by (first | exact q_d2dcd30e56 h21 | omega), fun ⟨q1, q2, q3, q4, q5, q6, q7⟩ => by (first | exact q_de08783852 h15 q1 q2 t6 h18 | omega)⟩⟩⟩
  · have h22 := Imp_m h12.2.2.1 (by first | exact q_e3350da514 h18 h12.1 | omega)
    have h23 := Imp_m h12.2.2.2.1 (by first | exact ⟨q_a555021d16 h22.1, q_ef157b5a0e h22.2⟩ | omega)
    have h24 := Imp_m h12.2.2.2.2.2 (by first | exact ⟨q_ad5b726bf8 h12.2.1, q_e3350da514 h18 h12.1⟩ | omega)
    refine En_Ps 1 (pc' := 12) (lv' := [(0, .ref 0), (1, .int a), (2, .int b), (3, .int c)]) (st' := [.ref 0]) rfl ?_
    refine En_getK (j := 9) h_p rfl rfl rfl tgz_0 (by decide +kernel) ?_
    refine En_Ps 1 (pc' := 16) (lv' := [(0, .ref 0), (1, .int a), (2, .int b), (3, .int c)]) (st' := [.int b, .ref p]) rfl ?_
    obtain ⟨z26, h25, h27, h28⟩ := WT_peekI hσ0 hp (by decide +kernel : FT 18 0 = (0, 0, 1601)) (by decide +kernel)
    have t29 : Wv (7) = z26.toInt := KN_v hK (Or.inl (by decide)) (by decide) (by decide) (by rw [lcO_lt (by decide) (by decide), Nat.add_zero]) rfl h25
    refine En_callV rfl rfl rfl rfl rfl rfl rfl rfl hp (by decide +kernel) rfl (c_49x σ0 hσ0 p hp b z26 h25 sg h_sg (by first | exact q_a555021d16 hp0 | omega)) (by decide) (by decide) (fun v31 σ32 h30 => ?_)
    obtain ⟨h33, h34, z36, rfl, h35⟩ := h30
    have h37 := h35.2.2.2
    obtain rfl : σ0 = σ32 := Fr_nil h34
    have h38 := Imp_m h35.2.2.1
    have h39 := h37
    have h40 : pI (Wv 0) = pI (sg.toInt) := by rw [t1]
    refine En_iEq _ rfl rfl (fun h41 => ?_) (fun h41 => ?_)
    · refine En_Ps 1 (pc' := 34) (lv' := [(0, .ref 0), (1, .int a), (2, .int b), (3, .int c)]) (st' := [.int ((Int32.ofInt 0))]) rfl ?_
      refine En_top (by decide : (Int32.ofInt 0).toInt = 0) (fun z42 h43 => ?_)
      exact En_ret (v := some (Value.int z42)) rfl rfl (retZ rfl rfl (by first | exact q_55451d0a83 h43 | omega) (by first | exact q_87849c3859 h43 | omega)) ⟨hσ0, hF0, z42, rfl, ⟨by first | exact q_097a37c2ae h43 | omega, by first | exact q_e269517bee h43 | omega, fun hh => by first | exact ⟨q_cbdb2feb0e h22.1, q_ae1cc60a52 h24.2⟩ | omega, fun _ => by omega, Or.inr ⟨by (first | exact q_d2dcd30e56 h43 | omega), fun ⟨q1, q2, q3, q4, q5, q6, q7⟩ => by (first | exact q_96492c9dfd h39 h41 t29 q3 q4 q5 h40 | omega)⟩⟩⟩
    · have h44 := Imp_m h35.2.2.1 (by first | exact ⟨q_ad5b726bf8 h35.2.1, q_e3350da514 h41 h35.1⟩ | omega)
      refine En_Ps 1 (pc' := 23) (lv' := [(0, .ref 0), (1, .int a), (2, .int b), (3, .int c)]) (st' := [.int c]) rfl ?_
      refine En_callS rfl rfl rfl rfl rfl rfl rfl rfl rfl (c_149x σ0 hσ0 c) (by decide) (by decide) (fun v46 σ47 h45 => ?_)
      obtain ⟨h48, h49, z51, rfl, h50⟩ := h45
      have h52 := h50.2.2.2
      obtain rfl : σ0 = σ47 := Fr_nil h49
      have h53 := Imp_m h50.2.2.1
      refine En_iEq _ rfl rfl (fun h54 => ?_) (fun h54 => ?_)
      · refine En_Ps 1 (pc' := 34) (lv' := [(0, .ref 0), (1, .int a), (2, .int b), (3, .int c)]) (st' := [.int ((Int32.ofInt 0))]) rfl ?_
        refine En_top (by decide : (Int32.ofInt 0).toInt = 0) (fun z55 h56 => ?_)
        exact En_ret (v := some (Value.int z55)) rfl rfl (retZ rfl rfl (by first | exact q_55451d0a83 h56 | omega) (by first | exact q_87849c3859 h56 | omega)) ⟨hσ0, hF0, z55, rfl, ⟨by first | exact q_097a37c2ae h56 | omega, by first | exact q_e269517bee h56 | omega, fun hh => by first | exact ⟨q_cbdb2feb0e h22.1, q_ae1cc60a52 h24.2⟩ | omega, fun _ => by omega, Or.inr ⟨by (first | exact q_d2dcd30e56 h56 | omega), fun ⟨q1, q2, q3, q4, q5, q6, q7⟩ => by (first | exact q_c985511048 h52 h54 q6 q7 | omega)⟩⟩⟩
      · have h57 := Imp_m h50.2.2.1 (by first | exact ⟨q_ad5b726bf8 h50.2.1, q_e3350da514 h54 h50.1⟩ | omega)
        refine En_Ps 2 (pc' := 34) (lv' := [(0, .ref 0), (1, .int a), (2, .int b), (3, .int c)]) (st' := [.int ((Int32.ofInt 1))]) rfl ?_
        refine En_top (by decide : (Int32.ofInt 1).toInt = 1) (fun z58 h59 => ?_)
        exact En_ret (v := some (Value.int z58)) rfl rfl (retZ rfl rfl (by first | exact q_2b07c97645 h59 | omega) (by first | exact q_d9e7cbb253 h59 | omega)) ⟨hσ0, hF0, z58, rfl, ⟨by first | exact q_ad3eee31ca h59 | omega, by first | exact q_81cf297dc4 h59 | omega, fun hh => by first | exact ⟨q_cbdb2feb0e h22.1, q_ae1cc60a52 h24.2⟩ | omega, fun hh => by first | exact ⟨q_a555021d16 h22.1, q_c733b715bf h24.2, q_a555021d16 h44.1, q_cc7dfeacf0 h44.2, q_a555021d16 h57.1, q_ad5b726bf8 h57.2⟩ | omega, Or.inl ⟨by (first | exact q_0bfa10f27c h59 | omega), by (first | exact q_ef1e8e38bf h24.1 | omega), by (first | exact q_466b301702 h22.2 t6 | omega), by (first | exact q_2b8898e9e8 h39 t29 h41 h35.1 | omega), by (first | exact q_ef1e8e38bf h44.1 | omega), by (first | exact q_493efe2cb9 h39 h40 h41 h35.1 | omega), by (first | exact q_ef1e8e38bf h57.1 | omega), by (first | exact q_733c8bfbae h57.2 | omega)⟩⟩⟩
/-- DoorSchool.gains(III)I -/
abbrev P_130x (σ0 : SG) (Wv : Int → Int) (a : Int32) (b : Int32) (c : Int32) (p : Nat) (sg : Int32) : PO := fun v σ => WT σ ∧ Fr [(20, 2), (21, 0), (22, 0)] σ0 σ ∧ ∃ ret : Int32, v = some (Value.int ret) ∧ -ret.toInt - 1000 ≤ 0 ∧ ret.toInt - 63 ≤ 0 ∧ (KN σ p Wv (act Wv) ∧ OUT σ0 σ p)
set_option maxRecDepth 10000 in
set_option maxHeartbeats 4000000 in
theorem c_130x {Wv : Int → Int} (σ0 : SG) (hσ0 : WT σ0) (a : Int32) (b : Int32) (c : Int32) (p : Nat) (hp : TG p = 18) (h_p : (σ0 0)[9]? = some (Value.ref p)) (sg : Int32) (h_sg : (σ0 p)[1]? = some (Value.int sg)) (hp0 : -sg.toInt ≤ 0) (hP : PLA p) (hX : FXP σ0 p) (hK : KN σ0 p Wv (act Wv)) (hB : WFw Wv) : En 5 118 none mr_130 (P_130x σ0 Wv a b c p sg) 0 [(0, .ref 0), (1, .int a), (2, .int b), (3, .int c)] [] σ0 := by
  obtain ⟨hl_sg, hu_sg⟩ := WT_int hσ0 (g := 18) hp (by decide +kernel) (l := (-1)) (u := 4) (by decide +kernel) h_sg
  have hF0 : Fr [(20, 2), (21, 0), (22, 0)] σ0 σ0 := Fr_rfl
  have t1 : Wv (0) = sg.toInt := KN_v hK (Or.inl (by decide)) (by decide) (by decide) (by rw [lcO_lt (by decide) (by decide), Nat.add_zero]) rfl h_sg
  obtain ⟨z3, h2, h4, h5⟩ := WT_peekI hσ0 hp (by decide +kernel : FT 18 3 = (0, 0, 4)) (by decide +kernel)
  have t6 : Wv (2) = z3.toInt := KN_v hK (Or.inl (by decide)) (by decide) (by decide) (by rw [lcO_lt (by decide) (by decide), Nat.add_zero]) rfl h2
  refine En_Ps 4 (pc' := 4) (lv' := [(0, .ref 0), (1, .int a), (2, .int b), (3, .int c)]) (st' := [.int c, .int b, .int a, .ref 0]) rfl ?_
  refine En_callV rfl rfl rfl rfl rfl rfl rfl rfl tgz_0 (by decide +kernel) rfl (c_144x σ0 hσ0 a b c p hp h_p sg h_sg (by first | exact q_a555021d16 hp0 | omega) hP (FXP_fr hP hX hF0 (by decide +kernel)) hK) (by decide) (by decide) (fun v8 σ9 h7 => ?_)
  obtain ⟨h10, h11, z13, rfl, h12⟩ := h7
  have h14 := h12.2.2.2.2
  obtain rfl : σ0 = σ9 := Fr_nil h11
  have h15 := h14
  refine En_iEq _ rfl rfl (fun h16 => ?_) (fun h16 => ?_)
  · have h17 := Imp_m h12.2.2.1 (by first | exact ⟨q_c5d285f1b9 h16, q_a555021d16 h12.1⟩ | omega)
    refine En_Ps 1 (pc' := 23) (lv' := [(0, .ref 0), (1, .int a), (2, .int b), (3, .int c)]) (st' := [.int (((Int16.ofInt (-1000)).toInt32))]) rfl ?_
    refine En_top (by decide : ((Int16.ofInt (-1000)).toInt32).toInt = -1000) (fun z18 h19 => ?_)
    exact En_ret (v := some (Value.int z18)) rfl rfl rfl ⟨hσ0, hF0, z18, rfl, ⟨by first | exact q_44e84994b9 h19 | omega, by first | exact q_53bcfed32a h19 | omega, ⟨hK, OUT_0⟩⟩⟩
  · have h20 := Imp_m h12.2.2.2.1 (by first | exact ⟨q_ad5b726bf8 h12.2.1, q_e3350da514 h16 h12.1⟩ | omega)
    have h21 : okL Wv a.toInt b.toInt c.toInt := by rcases h15 with q | q; exact q.2; exfalso; (first | exact q_f9c909ba77 h16 q.1 | omega)
    have := h21.1
    have := h21.2.1
    refine En_Ps 4 (pc' := 14) (lv' := [(0, .ref 0), (1, .int a), (2, .int b), (3, .int c)]) (st' := [.int c, .int b, .int a, .ref 0]) rfl ?_
    refine En_callV rfl rfl rfl rfl rfl rfl rfl rfl tgz_0 (by decide +kernel) rfl (c_129x σ0 hσ0 a b c (geI rfl (by first | exact q_ef1e8e38bf h20.1 | omega)) (leI rfl (by first | exact q_87d9217d84 h20.2.1 | omega)) (geI rfl (by first | exact q_ef1e8e38bf h20.2.2.1 | omega)) (leI rfl (by first | exact q_5a5f544404 h20.2.2.2.1 | omega)) (geI rfl (by first | exact q_ef1e8e38bf h20.2.2.2.2.1 | omega)) (leI rfl (by first | exact q_733c8bfbae h20.2.2.2.2.2 | omega)) p hp h_p sg h_sg (by first | exact q_a555021d16 hp0 | omega) hP (FXP_fr hP hX hF0 (by decide +kernel)) hK hB (by (first | exact q_114b7bcb5b this | omega))) (by decide) (by decide) (fun v23 σ24 h22 => ?_)
    obtain ⟨h25, h26, z28, rfl, h27⟩ := h22
    have h29 := h27.2.2
    have h30 := Fr_trans hF0 h26 (by decide +kernel)
    have h31 := h29.2
    refine En_Ps 1 (pc' := 23) (lv' := [(0, .ref 0), (1, .int a), (2, .int b), (3, .int c)]) (st' := [.int z28]) rfl ?_
    exact En_ret (v := some (Value.int z28)) rfl rfl rfl ⟨h25, h30, z28, rfl, ⟨by first | exact q_0dd3b74ee0 h27.1 | omega, by first | exact q_4b9206e141 h27.2.1 | omega, ⟨h29.1, h31⟩⟩⟩
/-- DoorSchool.harden(I)I -/
abbrev P_135x (σ0 : SG) (Wv : Int → Int) (a : Int32) (p : Nat) (sg : Int32) : PO := fun v σ => WT σ ∧ Fr [(20, 2), (21, 0), (22, 0)] σ0 σ ∧ ∃ ret : Int32, v = some (Value.int ret) ∧ -ret.toInt - 2 ≤ 0 ∧ ret.toInt - 15 ≤ 0 ∧ Imp (-ret.toInt - 1 ≤ 0) (-a.toInt ≤ 0 ∧ a.toInt - 3 ≤ 0) ∧ Imp (-ret.toInt ≤ 0) (ret.toInt - 15 ≤ 0) ∧ Imp (-ret.toInt - 1 ≤ 0) (a.toInt - Wv 2 + 1 ≤ 0) ∧ (KN σ p Wv (act Wv) ∧ OUT σ0 σ p)
set_option maxRecDepth 10000 in
set_option maxHeartbeats 4000000 in
theorem c_135x {Wv : Int → Int} (σ0 : SG) (hσ0 : WT σ0) (a : Int32) (p : Nat) (hp : TG p = 18) (h_p : (σ0 0)[9]? = some (Value.ref p)) (sg : Int32) (h_sg : (σ0 p)[1]? = some (Value.int sg)) (hp0 : -sg.toInt ≤ 0) (hP : PLA p) (hX : FXP σ0 p) (hK : KN σ0 p Wv (act Wv)) (hB : WFw Wv) : En 5 116 none mr_135 (P_135x σ0 Wv a p sg) 0 [(0, .ref 0), (1, .int a)] [] σ0 := by
  obtain ⟨hl_sg, hu_sg⟩ := WT_int hσ0 (g := 18) hp (by decide +kernel) (l := (-1)) (u := 4) (by decide +kernel) h_sg
  have hF0 : Fr [(20, 2), (21, 0), (22, 0)] σ0 σ0 := Fr_rfl
  have t1 : Wv (0) = sg.toInt := KN_v hK (Or.inl (by decide)) (by decide) (by decide) (by rw [lcO_lt (by decide) (by decide), Nat.add_zero]) rfl h_sg
  obtain ⟨z3, h2, h4, h5⟩ := WT_peekI hσ0 hp (by decide +kernel : FT 18 3 = (0, 0, 4)) (by decide +kernel)
  have t6 : Wv (2) = z3.toInt := KN_v hK (Or.inl (by decide)) (by decide) (by decide) (by rw [lcO_lt (by decide) (by decide), Nat.add_zero]) rfl h2
  refine En_Ps 1 (pc' := 1) (lv' := [(0, .ref 0), (1, .int a)]) (st' := [.ref 0]) rfl ?_
  refine En_getK (j := 9) h_p rfl rfl rfl tgz_0 (by decide +kernel) ?_
  refine En_Ps 1 (pc' := 5) (lv' := [(0, .ref 0), (1, .int a)]) (st' := [.int a, .ref p]) rfl ?_
  refine En_callV rfl rfl rfl rfl rfl rfl rfl rfl hp (by decide +kernel) rfl (c_47x σ0 hσ0 p hp a z3 h2) (by decide) (by decide) (fun v8 σ9 h7 => ?_)
  obtain ⟨h10, h11, z13, rfl, h12⟩ := h7
  obtain rfl : σ0 = σ9 := Fr_nil h11
  have h14 := Imp_m h12.2.2.1
  have h15 := Imp_m h12.2.2.2.1
  have h16 := Imp_m h12.2.2.2.2.1
  have h17 := Imp_m h12.2.2.2.2.2
  refine En_iNe _ rfl rfl (fun h18 => ?_) (fun h18 => ?_)
  · have h19 := Imp_m h12.2.2.1 (by first | exact q_e3350da514 h18 h12.1 | omega)
    have h20 := Imp_m h12.2.2.2.1 (by first | exact ⟨q_a555021d16 h19.1, q_ef157b5a0e h19.2⟩ | omega)
    have h21 := Imp_m h12.2.2.2.2.2 (by first | exact ⟨q_ad5b726bf8 h12.2.1, q_e3350da514 h18 h12.1⟩ | omega)
    refine En_Ps 4 (pc' := 18) (lv' := [(2, .int ((Int32.ofInt (-1)))), (0, .ref 0), (1, .int a)]) (st' := [.int a, .ref 0]) rfl ?_
    refine En_callV rfl rfl rfl rfl rfl rfl rfl rfl tgz_0 (by decide +kernel) rfl (c_126 σ0 hσ0 a (geI rfl (by first | exact q_ef1e8e38bf h19.1 | omega)) (leI rfl (by first | exact q_87d9217d84 h21.2 | omega)) p hp h_p sg h_sg (by first | exact q_a555021d16 hp0 | omega)) (by decide) (by decide) (fun v23 σ24 h22 => ?_)
    obtain ⟨h25, h26, z28, rfl, h27⟩ := h22
    obtain rfl : σ0 = σ24 := Fr_nil h26
    refine En_callS rfl rfl rfl rfl rfl rfl rfl rfl rfl (c_7bx σ0 hσ0 z28) (by decide) (by decide) (fun v30 σ31 h29 => ?_)
    obtain ⟨h32, h33, z35, rfl, h34⟩ := h29
    obtain rfl : σ0 = σ31 := Fr_nil h33
    refine En_Ps 3 (pc' := 28) (lv' := [(4, .int ((Int32.ofInt 0))), (3, .int z35), (2, .int ((Int32.ofInt (-1)))), (0, .ref 0), (1, .int a)]) (st' := []) rfl ?_
    have key28 : ∀ (n28 : Nat) (σ39 : SG) (y36 : Int32) (y37 : Int32) (y38 : Int32), WT σ39 → Fr [(20, 2), (21, 0), (22, 0)] σ0 σ39 → (σ39 0)[9]? = some (Value.ref p) → (σ39 p)[1]? = some (Value.int sg) → (σ39 p)[3]? = some (Value.int z3) → (-1) ≤ y36.toInt → y36.toInt ≤ 15 → 0 ≤ y37.toInt → y37.toInt ≤ 63 → 0 ≤ y38.toInt → y38.toInt ≤ 16 → y36.toInt - y38.toInt + 1 ≤ 0 → -y38.toInt + 16 < (n28 : Int) → KN σ39 p Wv (act Wv) → OUT σ0 σ39 p → En 5 116 none mr_135 (P_135x σ0 Wv a p sg) 28 [(0, .ref 0), (1, .int a), (2, .int y36), (3, .int y37), (4, .int y38)] [] σ39 := by
      intro n28
      induction n28 with
      | zero =>
        intro σ39 y36 y37 y38 h40 h41 h42 h43 h44 h45 h46 h47 h48 h49 h50 h51 h52 h53 h54
        first | exact (q_511f6d33ac h52 h50).elim | (exfalso; omega)
      | succ n28 ih28 =>
        intro σ39 y36 y37 y38 h40 h41 h42 h43 h44 h45 h46 h47 h48 h49 h50 h51 h52 h53 h54
        refine En_Ps 2 (pc' := 31) (lv' := [(0, .ref 0), (1, .int a), (2, .int y36), (3, .int y37), (4, .int y38)]) (st' := [.ref 0, .int y38]) rfl ?_
        refine En_getK (j := 9) h42 rfl rfl rfl tgz_0 (by decide +kernel) ?_
        refine En_callV rfl rfl rfl rfl rfl rfl rfl rfl hp (by decide +kernel) rfl (c_51x σ39 h40 p hp sg h43 (by first | exact q_a555021d16 hp0 | omega)) (by decide) (by decide) (fun v56 σ57 h55 => ?_)
        obtain ⟨h58, h59, z61, rfl, h60⟩ := h55
        have h62 := h60.2.2
        obtain rfl : σ39 = σ57 := Fr_nil h59
        refine En_icGe _ rfl rfl rfl (fun h63 => ?_) (fun h63 => ?_)
        · refine En_Ps 1 (pc' := 68) (lv' := [(0, .ref 0), (1, .int a), (2, .int y36), (3, .int y37), (4, .int y38)]) (st' := [.int y36]) rfl ?_
          exact En_ret (v := some (Value.int y36)) rfl rfl rfl ⟨h40, h41, y36, rfl, ⟨by first | exact q_fe58cd40d0 h45 | omega, by first | exact q_867a9ac627 h46 | omega, fun hh => by first | exact ⟨q_a555021d16 h19.1, q_c733b715bf h21.2⟩ | omega, fun hh => by first | exact q_867a9ac627 h46 | omega, fun _ => by (first | exact q_10d71e5472 h19.2 t6 | omega), ⟨h53, h54⟩⟩⟩
        · refine En_Ps 3 (pc' := 44) (lv' := [(0, .ref 0), (1, .int a), (2, .int y36), (3, .int y37), (4, .int y38)]) (st' := [.int y38, .int a, .ref 0]) rfl ?_
          refine En_callV rfl rfl rfl rfl rfl rfl rfl rfl tgz_0 (by decide +kernel) rfl (c_127x σ39 h40 a y38 (geI rfl (by first | exact q_ef1e8e38bf h19.1 | omega)) (leI rfl (by first | exact q_87d9217d84 h21.2 | omega)) (geI rfl (by first | exact q_58e6e51dcc h49 | omega)) (leI rfl (by first | exact q_c15b485600 h63 h60.2.1 | omega)) p hp h42 sg h43 (by first | exact q_a555021d16 hp0 | omega) hP (FXP_fr hP hX h41 (by decide +kernel)) h53 hB (by (first | exact q_466b301702 h19.2 t6 | omega))) (by decide) (by decide) (fun v65 σ66 h64 => ?_)
          obtain ⟨h67, h68, z70, rfl, h69⟩ := h64
          have h71 := h69.2.2
          have h72 := Fr_trans h41 h68 (by decide +kernel)
          have h73 := OUT_tr h54 h71.2
          refine En_Ps 3 (pc' := 52) (lv' := [(5, .int z70), (0, .ref 0), (1, .int a), (2, .int y36), (3, .int y37), (4, .int y38)]) (st' := [.int y37, .int z70]) rfl ?_
          refine En_icGe _ rfl rfl rfl (fun h74 => ?_) (fun h74 => ?_)
          · refine En_Ps 1 (pc' := 64) (lv' := [(4, .int ((y38 + Int32.ofInt 1))), (5, .int z70), (0, .ref 0), (1, .int a), (2, .int y36), (3, .int y37)]) (st' := []) rfl ?_
            refine En_lv1 (addI rfl (by decide : (Int32.ofInt 1).toInt = 1) (by first | exact q_465ab79ac1 h49 | omega) (by first | exact q_f3f8e04381 h50 | omega)) (fun z75 h76 => ?_)
            refine En_Ps 1 (pc' := 28) (lv' := [(4, .int z75), (5, .int z70), (0, .ref 0), (1, .int a), (2, .int y36), (3, .int y37)]) (st' := []) rfl ?_
            refine En_lv (lv := [(0, .ref 0), (1, .int a), (2, .int y36), (3, .int y37), (4, .int z75)]) ⟨rfl, rfl, rfl, rfl, rfl, trivial⟩ ?_
            exact ih28 σ66 y36 y37 z75 h67 h72 ((h68 _ _ (inW tgz_0 (by decide +kernel))).trans h42) ((h68 _ _ (inW hp (by decide +kernel))).trans h43) ((h68 _ _ (inW hp (by decide +kernel))).trans h44) (by first | exact q_77b189e83d h45 | omega) (by first | exact q_5a4d8a7e08 h46 | omega) (by first | exact q_58e6e51dcc h47 | omega) (by first | exact q_8bf848900a h48 | omega) (by first | exact q_35104ce9d3 h76 h49 | omega) (by first | exact q_34dc714687 h76 h63 h60.2.1 | omega) (by first | exact q_6591527e3e h51 h76 | omega) (by first | exact q_c5d740bdff h76 h52 | omega) (h71.1) (h73)
          · refine En_Ps 5 (pc' := 64) (lv' := [(4, .int ((y38 + Int32.ofInt 1))), (2, .int y38), (3, .int z70), (5, .int z70), (0, .ref 0), (1, .int a)]) (st' := []) rfl ?_
            refine En_lv1 (addI rfl (by decide : (Int32.ofInt 1).toInt = 1) (by first | exact q_465ab79ac1 h49 | omega) (by first | exact q_f3f8e04381 h50 | omega)) (fun z77 h78 => ?_)
            refine En_Ps 1 (pc' := 28) (lv' := [(4, .int z77), (2, .int y38), (3, .int z70), (5, .int z70), (0, .ref 0), (1, .int a)]) (st' := []) rfl ?_
            refine En_lv (lv := [(0, .ref 0), (1, .int a), (2, .int y38), (3, .int z70), (4, .int z77)]) ⟨rfl, rfl, rfl, rfl, rfl, trivial⟩ ?_
            exact ih28 σ66 y38 z70 z77 h67 h72 ((h68 _ _ (inW tgz_0 (by decide +kernel))).trans h42) ((h68 _ _ (inW hp (by decide +kernel))).trans h43) ((h68 _ _ (inW hp (by decide +kernel))).trans h44) (by first | exact q_5b439548fc h49 | omega) (by first | exact q_c15b485600 h63 h60.2.1 | omega) (by first | exact q_ef1e8e38bf h69.1 | omega) (by first | exact q_3ea7e55eca h69.2.1 | omega) (by first | exact q_35104ce9d3 h78 h49 | omega) (by first | exact q_34dc714687 h78 h63 h60.2.1 | omega) (by first | exact q_2fedec469a h78 | omega) (by first | exact q_c5d740bdff h78 h52 | omega) (h71.1) (h73)
    have := (by decide : (Int32.ofInt (-1)).toInt = -1)
    have := (by decide : (Int32.ofInt 0).toInt = 0)
    refine En_lv (lv := [(0, .ref 0), (1, .int a), (2, .int ((Int32.ofInt (-1)))), (3, .int z35), (4, .int ((Int32.ofInt 0)))]) ⟨rfl, rfl, rfl, rfl, rfl, trivial⟩ ?_
    exact key28 (Int.toNat (16) + 1) σ0 ((Int32.ofInt (-1))) z35 ((Int32.ofInt 0)) hσ0 hF0 h_p h_sg h2 (by decide) (by decide) (by first | exact q_ef1e8e38bf h34.1 | omega) (by first | exact q_3ea7e55eca h34.2 | omega) (by decide) (by decide) (by (first | exact q_2e3352c2b4 this (by decide) | omega)) (by first | exact toN_lt _ | omega) (hK) (OUT_0)
  · have h79 := Imp_m h12.2.2.2.2.1 (by first | exact ⟨q_c5d285f1b9 h18, q_a555021d16 h12.1⟩ | omega)
    refine En_Ps 1 (pc' := 13) (lv' := [(0, .ref 0), (1, .int a)]) (st' := [.int (((Int8.ofInt (-2)).toInt32))]) rfl ?_
    refine En_top (by decide : ((Int8.ofInt (-2)).toInt32).toInt = -2) (fun z80 h81 => ?_)
    exact En_ret (v := some (Value.int z80)) rfl rfl rfl ⟨hσ0, hF0, z80, rfl, ⟨by first | exact q_f35c5d346c h81 | omega, by first | exact q_12a74e12a3 h81 | omega, fun _ => by omega, fun hh => by first | exact q_12a74e12a3 h81 | omega, fun _ => by omega, ⟨hK, OUT_0⟩⟩⟩
end
