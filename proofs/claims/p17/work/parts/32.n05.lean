/-- DoorSchool$Reader.readAhead(LDoorSchool$Plan;)V -/
abbrev P_61x (σ0 : SG) (By : Int → Int) (Nb : Int) (Sp : PS) (a : Nat) (f : Int32) (sg : Int32) : PO := fun v σ => WT σ ∧ Fr [(3, 1), (3, 2), (3, 3), (3, 4), (3, 5), (3, 6), (26, 0)] σ0 σ ∧ ∃ f1 : Int32, (σ 3)[5]? = some (.int f1) ∧ v = none ∧ OUT σ0 σ a ∧ -f1.toInt ≤ 0 ∧ f1.toInt - 3 ≤ 0 ∧ -f1.toInt + f.toInt ≤ 0 ∧ f.toInt - f1.toInt ≤ 0 ∧ (CT By Nb σ (fAhead By Nb Sp) ∧ ((fAhead By Nb Sp).1 = 0 → KN σ a (fAhead By Nb Sp).2.2.2 (act (fAhead By Nb Sp).2.2.2)))
set_option maxRecDepth 10000 in
set_option maxHeartbeats 4000000 in
theorem c_61x {By : Int → Int} {Nb : Int} {Sp : PS} (σ0 : SG) (hσ0 : WT σ0) (a : Nat) (ha : TG a = 18) (f : Int32) (h_f : (σ0 3)[5]? = some (.int f)) (sg : Int32) (h_sg : (σ0 a)[1]? = some (.int sg)) (hp0 : -sg.toInt ≤ 0) (hC : CT By Nb σ0 Sp) (hg : Sp.1 = 0) (hP : PLA a) (hX : FXP σ0 a) (hK : KN σ0 a Sp.2.2.2 (act Sp.2.2.2)) : En 3 66 none mr_61 (P_61x σ0 By Nb Sp a f sg) 0 [(0, .ref 3), (1, .ref a)] [] σ0 := by
  obtain ⟨hl_f, hu_f⟩ := WT_int hσ0 (g := 3) (by decide +kernel) (by decide +kernel) (l := 0) (u := 3) (by decide +kernel) h_f
  obtain ⟨hl_sg, hu_sg⟩ := WT_int hσ0 (g := 18) ha (by decide +kernel) (l := (-1)) (u := 4) (by decide +kernel) h_sg
  have hF0 : Fr [(3, 1), (3, 2), (3, 3), (3, 4), (3, 5), (3, 6), (26, 0)] σ0 σ0 := Fr_rfl
  have h1 := CT_k hC h_f
  obtain ⟨z3, h2, h4, h5⟩ := WT_peekI hσ0 ha (by decide +kernel : FT 18 11 = (0, 0, 6)) (by decide +kernel)
  have h6 : Sp.2.2.2 5 = z3.toInt := KN_v hK (Or.inl (by decide)) (by decide) (by decide) (by rw [lcO_lt (by decide) (by decide), Nat.add_zero]) rfl h2
  refine En_Ps 1 (pc' := 1) (lv' := [(0, .ref 3), (1, .ref a)]) (st' := [.ref 3]) rfl ?_
  obtain ⟨z8, h7, h9, h10⟩ := WT_peekI hσ0 tgz_3 (by decide +kernel : FT 3 3 = (0, 0, 1600)) (by decide +kernel)
  refine En_callV rfl rfl rfl rfl rfl rfl rfl rfl tgz_3 (by decide +kernel) rfl (c_72x σ0 hσ0 z8 h7 hC.1 (CT_at hC (by omega) h7)) (by decide) (by decide) (fun v12 σ13 h11 => ?_)
  obtain ⟨h14, h15, rfl, h16⟩ := h11
  have h17 := h16
  have h18 := Fr_trans hF0 h15 (by decide +kernel)
  obtain ⟨S19, h20⟩ : ∃ q : PS, q = adv By Nb Sp := ⟨_, rfl⟩
  have h21 : CT By Nb σ13 S19 := by rw [h20]; exact (CT_adv hC (by omega) h7 h15 (by decide +kernel) h17.2)
  have h22 := CT_k h21 ((h15 _ _ (inW tgz_3 (by decide +kernel))).trans h_f)
  have h23 : S19.2.2.2 = Sp.2.2.2 := by rw [h20]; exact adv_w
  have h24 : S19.1 = Sp.1 := by rw [h20]; exact adv_1
  have h25 := KN_fr hP hK h15 (by decide +kernel)
  have h26 : S19.2.2.2 = Sp.2.2.2 := h23.trans (rfl : Sp.2.2.2 = Sp.2.2.2)
  have o27 : OUT σ0 σ13 a := OUT_fr OUT_0 h15 (by decide +kernel)
  refine En_Ps 3 (pc' := 7) (lv' := [(0, .ref 3), (1, .ref a)]) (st' := [.ref a, .int ((Int32.ofInt 0)), .ref 3]) rfl ?_
  refine En_getK (j := 11) ((h15 _ _ (inW ha (by decide +kernel))).trans h2) rfl rfl rfl ha (by decide +kernel) ?_
  refine En_Ps 2 (pc' := 12) (lv' := [(0, .ref 3), (1, .ref a)]) (st' := [.int ((z3 - ((Int32.ofInt 1)))), .int ((Int32.ofInt 0)), .ref 3]) rfl ?_
  refine En_top (subI rfl (by decide : (Int32.ofInt 1).toInt = 1) (by omega) (by omega)) (fun z28 h29 => ?_)
  have := (by decide : ((Int32.ofInt 0)).toInt = 0)
  refine En_callV rfl rfl rfl rfl rfl rfl rfl rfl tgz_3 (by decide +kernel) rfl (c_73x σ13 h14 ((Int32.ofInt 0)) z28 f ((h15 _ _ (inW tgz_3 (by decide +kernel))).trans h_f) h21) (by decide) (by decide) (fun v31 σ32 h30 => ?_)
  obtain ⟨h33, h34, z36, h37, z38, rfl, h35⟩ := h30
  have h39 := h35.2.2.2.2.2.2.2.2.2
  have h40 := Fr_trans h18 h34 (by decide +kernel)
  have h41 : tN By Nb ((Int32.ofInt 0)).toInt z28.toInt S19 = tN By Nb (0) (Sp.2.2.2 5 - 1) S19 := tN_cg2 (fun zz => by omega) (fun zz => by omega)
  obtain ⟨S42, h43⟩ : ∃ q : PS, q = tN By Nb (0) (Sp.2.2.2 5 - 1) S19 := ⟨_, rfl⟩
  have h44 : CT By Nb σ32 S42 := by rw [h43]; exact (CT_eq h39.1 h41)
  have h45 := CT_k h44 h37
  have h46 : Imp (S42.1 = 0) (z38.toInt = tV By Nb S19.2.2.1) := fun z => Imp_m h39.2 (by rw [h41, ← h43]; exact z)
  have h47 : Imp (S42.1 = 0) (S19.1 = 0 ∧ tK By Nb S19.2.2.1 = 2 ∧ 0 ≤ tV By Nb S19.2.2.1 ∧ tV By Nb S19.2.2.1 ≤ Sp.2.2.2 5 - 1) := fun z => tN_gg (by rw [← h43]; exact z)
  have h48 : S42.2.2.2 = S19.2.2.2 := by rw [h43]; exact tN_w
  have h49 := KN_fr hP h25 h34 (by decide +kernel)
  have h50 : S42.2.2.2 = Sp.2.2.2 := h48.trans h26
  have o51 : OUT σ0 σ32 a := OUT_fr o27 h34 (by decide +kernel)
  have h52 := Imp_m h35.2.2.2.2.2.2.2.1 (by omega)
  have h53 := Imp_m h35.2.2.2.2.2.2.2.2.1 (by omega)
  refine En_Ps 5 (pc' := 20) (lv' := [(2, .int z38), (0, .ref 3), (1, .ref a)]) (st' := [.int ((z38 + ((Int32.ofInt 1)))), .ref 3]) rfl ?_
  refine En_top (addI rfl (by decide : (Int32.ofInt 1).toInt = 1) (by omega) (by omega)) (fun z54 h55 => ?_)
  refine En_Ps 1 (pc' := 21) (lv' := [(2, .int z38), (0, .ref 3), (1, .ref a)]) (st' := [.ref a, .int z54, .ref 3]) rfl ?_
  refine En_getK (j := 11) ((h34 _ _ (inW ha (by decide +kernel))).trans ((h15 _ _ (inW ha (by decide +kernel))).trans h2)) rfl rfl rfl ha (by decide +kernel) ?_
  refine En_Ps 2 (pc' := 26) (lv' := [(2, .int z38), (0, .ref 3), (1, .ref a)]) (st' := [.int ((z3 - ((Int32.ofInt 1)))), .int z54, .ref 3]) rfl ?_
  refine En_top (subI rfl (by decide : (Int32.ofInt 1).toInt = 1) (by omega) (by omega)) (fun z56 h57 => ?_)
  refine En_callV rfl rfl rfl rfl rfl rfl rfl rfl tgz_3 (by decide +kernel) rfl (c_73x σ32 h33 z54 z56 z36 h37 h44) (by decide) (by decide) (fun v59 σ60 h58 => ?_)
  obtain ⟨h61, h62, z64, h65, z66, rfl, h63⟩ := h58
  have h67 := h63.2.2.2.2.2.2.2.2.2
  have h68 := Fr_trans h40 h62 (by decide +kernel)
  have h69 : tN By Nb z54.toInt z56.toInt S42 = tN By Nb ((tV By Nb S19.2.2.1) + 1) (Sp.2.2.2 5 - 1) S42 := tN_cg2 (fun zz => by (try have i0 := Imp_m h47 (by omega)); (try have i1 := Imp_m h46 (by omega)); (try have i2 := Imp_m h35.2.2.2.2.2.1 (by omega)); (try have i3 := Imp_m h35.2.2.2.2.2.2.1 (by omega)); omega) (fun zz => by (try have i0 := Imp_m h47 (by omega)); (try have i1 := Imp_m h46 (by omega)); (try have i2 := Imp_m h35.2.2.2.2.2.1 (by omega)); (try have i3 := Imp_m h35.2.2.2.2.2.2.1 (by omega)); omega)
  obtain ⟨S70, h71⟩ : ∃ q : PS, q = tN By Nb ((tV By Nb S19.2.2.1) + 1) (Sp.2.2.2 5 - 1) S42 := ⟨_, rfl⟩
  have h72 : CT By Nb σ60 S70 := by rw [h71]; exact (CT_eq h67.1 h69)
  have h73 := CT_k h72 h65
  have h74 : Imp (S70.1 = 0) (z66.toInt = tV By Nb S42.2.2.1) := fun z => Imp_m h67.2 (by rw [h69, ← h71]; exact z)
  have h75 : Imp (S70.1 = 0) (S42.1 = 0 ∧ tK By Nb S42.2.2.1 = 2 ∧ (tV By Nb S19.2.2.1) + 1 ≤ tV By Nb S42.2.2.1 ∧ tV By Nb S42.2.2.1 ≤ Sp.2.2.2 5 - 1) := fun z => tN_gg (by rw [← h71]; exact z)
  have h76 : S70.2.2.2 = S42.2.2.2 := by rw [h71]; exact tN_w
  have h77 := KN_fr hP h49 h62 (by decide +kernel)
  have h78 : S70.2.2.2 = Sp.2.2.2 := h76.trans h50
  have o79 : OUT σ0 σ60 a := OUT_fr o51 h62 (by decide +kernel)
  have h80 := Imp_m h63.2.2.2.2.2.2.2.1 (by omega)
  have h81 := Imp_m h63.2.2.2.2.2.2.2.2.1 (by omega)
  refine En_Ps 2 (pc' := 31) (lv' := [(3, .int z66), (2, .int z38), (0, .ref 3), (1, .ref a)]) (st' := [.ref 3]) rfl ?_
  refine En_getK (j := 5) h65 rfl rfl rfl tgz_3 (by decide +kernel) ?_
  refine En_iNe _ rfl rfl (fun h82 => ?_) (fun h82 => ?_)
  · have h83 := Imp_m h63.2.2.2.2.2.2.1 (by omega)
    have h84 : fAhead By Nb Sp = S70 := by unfold fAhead; (try dsimp only); first | (rw [← h20, ← h43, ← h71]; first | done | rfl) | (rw [← h20, ← h43, ← h71]; rw [if_pos (by omega)]; first | done | rfl) | (rw [← h20, ← h43, ← h71]; rw [if_neg (by omega)]; first | done | rfl) | (rw [← h20, ← h43, ← h71]; rw [if_neg (by omega), if_pos (by omega)]; first | done | rfl) | (rw [← h20, ← h43, ← h71]; rw [if_neg (by omega), if_neg (by omega)]; first | done | rfl) | (rw [← h20, ← h43, ← h71]; rw [if_neg (by omega), if_neg (by omega), if_neg (by omega)]; first | done | rfl)
    exact En_ret (v := none) rfl rfl rfl ⟨h61, h68, z64, h65, rfl, ⟨o79, by omega, by omega, by omega, by omega, (by rw [h84]; exact ⟨h72, fun z => absurd z (by omega)⟩)⟩⟩
  · have h85 := Imp_m h35.2.2.2.2.2.1 (by omega)
    have h86 := Imp_m h63.2.2.2.2.2.1 (by omega)
    try have h87 := Imp_m h75 (by omega)
    try have h88 := Imp_m h74 (by omega)
    try have h89 := Imp_m h47 (by omega)
    try have h90 := Imp_m h46 (by omega)
    refine En_Ps 1 (pc' := 38) (lv' := [(3, .int z66), (2, .int z38), (0, .ref 3), (1, .ref a)]) (st' := [.ref a]) rfl ?_
    refine En_getR (j := 13) (g' := 26) (u := 0) rfl rfl rfl ha (by decide +kernel) h61 (by decide +kernel) (fun a92 h91 ha92 => ?_)
    refine En_Ps 2 (pc' := 43) (lv' := [(3, .int z66), (2, .int z38), (0, .ref 3), (1, .ref a)]) (st' := [.int z66, .ref a92, .int z66, .ref a92]) rfl ?_
    refine En_iald (l := 0) (u := 63) rfl rfl ha92 (by decide +kernel) h61 (by omega) (lnI (by decide +kernel : LN _ = 6) (by omega)) (FTsgl (by decide +kernel)) (fun z94 h93 h95 h96 => ?_)
    have h99 : a92 = a + 8 := ref_uniq h91 (FXP_fr hP hX h68 (by decide +kernel)).2.2.2.2.2.1
    have h98 := lc_c (m := (tV By Nb S42.2.2.1)) (by omega) (by omega)
    have h97 : Sp.2.2.2 (155 + 2 * (tV By Nb S42.2.2.1)) = z94.toInt := KN_v h77 (Or.inr (Or.inr (Or.inr (Or.inr (Or.inr (Or.inl ⟨by omega, by omega, Or.inl (by omega)⟩)))))) (by omega) (by omega) (by omega) (by omega) h93
    refine En_Ps 4 (pc' := 48) (lv' := [(3, .int z66), (2, .int z38), (0, .ref 3), (1, .ref a)]) (st' := [.int ((z94 ||| ((Int32.ofInt 1) <<< (z38 &&& 31)))), .int z66, .ref a92]) rfl ?_
    refine En_nam (fun z100 h101 => ?_)
    have h102 := orP_v (x := z94) (y := z38) h101 rfl rfl (by omega) (by omega) (by omega) (by omega)
    have h103 : z100.toInt = orP (Sp.2.2.2 (155 + 2 * (tV By Nb S42.2.2.1))) (tV By Nb S19.2.2.1) := by rw [h102.1]; exact orP_cg (by omega) (by omega)
    refine En_iast (l := 0) (u := 63) rfl rfl ha92 (by decide +kernel) (by omega) (lnI (by decide +kernel : LN _ = 6) (by omega)) (FTsgl (by decide +kernel)) (rngI rfl (by omega) (by omega)) h61 h68 (by decide +kernel) (fun σ104 h105 h106 h107 h108 => ?_)
    have h109 : a92 = a + 8 := ref_uniq ((h108 _ _ (Or.inl (neTG ha ha92 (by decide)))).trans h91) (FXP_fr hP hX h106 (by decide +kernel)).2.2.2.2.2.1
    have h110 := lc_c (m := (tV By Nb S42.2.2.1)) (by omega) (by omega)
    obtain ⟨S111, h112⟩ : ∃ q : PS, q = wst S70 (155 + 2 * (tV By Nb S42.2.2.1)) (orP (Sp.2.2.2 (155 + 2 * (tV By Nb S42.2.2.1))) (tV By Nb S19.2.2.1)) := ⟨_, rfl⟩
    have h113 : CT By Nb σ104 S111 := by rw [h112]; exact CT_wst (CT_ne h72 h108 (by have := hP; unfold PLA at this; omega))
    have h114 : KN σ104 a (uPd Sp.2.2.2 (155 + 2 * (tV By Nb S42.2.2.1)) (orP (Sp.2.2.2 (155 + 2 * (tV By Nb S42.2.2.1))) (tV By Nb S19.2.2.1))) (fun t => (act Sp.2.2.2 t ∨ t = 155 + 2 * (tV By Nb S42.2.2.1))) := KN_st h77 h107 h108 (by omega) (by omega) (by omega) (by omega) (by (try have i0 := Imp_m h75 (by omega)); (try have i1 := Imp_m h74 (by omega)); (try have i2 := Imp_m h47 (by omega)); (try have i3 := Imp_m h46 (by omega)); (try have i4 := Imp_m h35.2.2.2.2.2.2.1 (by omega)); (try have i5 := Imp_m h63.2.2.2.2.2.2.1 (by omega)); omega)
    have h115 : S111.2.2.2 = (uPd Sp.2.2.2 (155 + 2 * (tV By Nb S42.2.2.1)) (orP (Sp.2.2.2 (155 + 2 * (tV By Nb S42.2.2.1))) (tV By Nb S19.2.2.1))) := by rw [h112]; show uPd S70.2.2.2 _ _ = _; rw [h78]
    have h116 : S111.1 = S70.1 := by rw [h112]; rfl
    have h117 := CT_k h113 ((h108 _ _ (Or.inl (neTG tgz_3 ha92 (by decide)))).trans h65)
    have o118 : OUT σ0 σ104 a := OUT_st o79 h108 (by omega)
    have h119 : fAhead By Nb Sp = S111 := by unfold fAhead; (try dsimp only); first | (rw [← h20, ← h43, ← h71, ← h112]; first | done | rfl) | (rw [← h20, ← h43, ← h71, ← h112]; rw [if_pos (by omega)]; first | done | rfl) | (rw [← h20, ← h43, ← h71, ← h112]; rw [if_neg (by omega)]; first | done | rfl) | (rw [← h20, ← h43, ← h71, ← h112]; rw [if_neg (by omega), if_pos (by omega)]; first | done | rfl) | (rw [← h20, ← h43, ← h71, ← h112]; rw [if_neg (by omega), if_neg (by omega)]; first | done | rfl) | (rw [← h20, ← h43, ← h71, ← h112]; rw [if_neg (by omega), if_neg (by omega), if_neg (by omega)]; first | done | rfl)
    exact En_ret (v := none) rfl rfl rfl ⟨h105, h106, z64, ((h108 _ _ (Or.inl (neTG tgz_3 ha92 (by decide)))).trans h65), rfl, ⟨o118, by omega, by omega, by omega, by omega, (by rw [h119]; exact ⟨h113, fun zz => by rw [h115]; exact KN_sub h114 (fun t t0 t1 y => Or.inl (act_in (by omega) (by omega) y))⟩)⟩⟩
/-- DoorSchool$Reader.read(LDoorSchool$Plan;)V -/
abbrev P_60x (σ0 : SG) (By : Int → Int) (Nb : Int) (a : Nat) : PO := fun v σ => WT σ ∧ Fr [(3, 1), (3, 2), (3, 3), (3, 4), (3, 5), (3, 6), (18, 0), (18, 1), (18, 2), (18, 3), (18, 6), (18, 7), (18, 8), (18, 11), (18, 14), (20, 2), (21, 0), (22, 0), (23, 0), (24, 0), (25, 0), (26, 0), (28, 1), (28, 2), (28, 3)] σ0 σ ∧ ∃ f1 : Int32, (σ 3)[5]? = some (.int f1) ∧ ∃ sg1 : Int32, (σ a)[1]? = some (.int sg1) ∧ v = none ∧ OUT σ0 σ a ∧ -f1.toInt ≤ 0 ∧ f1.toInt - 3 ≤ 0 ∧ -sg1.toInt - 1 ≤ 0 ∧ sg1.toInt - 4 ≤ 0 ∧ -sg1.toInt - f1.toInt ≤ 0 ∧ (OTH a σ0 σ ∧ RDC By Nb a σ)
set_option maxRecDepth 10000 in
set_option maxHeartbeats 4000000 in
theorem c_60x {By : Int → Int} {Nb : Int} (σ0 : SG) (hσ0 : WT σ0) (a : Nat) (ha : TG a = 18) (hB : TPc By Nb σ0) (hP : PLA a) (hX : FXP σ0 a) : En 7 159 none mr_60 (P_60x σ0 By Nb a) 0 [(0, .ref 3), (1, .ref a)] [] σ0 := by
  have hF0 : Fr [(3, 1), (3, 2), (3, 3), (3, 4), (3, 5), (3, 6), (18, 0), (18, 1), (18, 2), (18, 3), (18, 6), (18, 7), (18, 8), (18, 11), (18, 14), (20, 2), (21, 0), (22, 0), (23, 0), (24, 0), (25, 0), (26, 0), (28, 1), (28, 2), (28, 3)] σ0 σ0 := Fr_rfl
  refine En_Ps 2 (pc' := 2) (lv' := [(0, .ref 3), (1, .ref a)]) (st' := [.int ((Int32.ofInt 0)), .ref 3]) rfl ?_
  refine En_put (j := 5) rfl rfl rfl tgz_3 (by decide +kernel) rfl (vI (l := 0) (u := 3) (by decide +kernel) (by decide : (Int32.ofInt 0).toInt = 0) (by omega) (by omega)) hσ0 hF0 (by decide +kernel) (fun σ1 h2 h3 h4 h5 => ?_)
  have h6 := OTH_pn (OTH_0 (a := a) (σ := σ0)) h5 tgz_3 (by decide)
  have o7 : OUT σ0 σ1 a := OUT_pn OUT_0 h5 tgz_3 (by decide)
  refine En_Ps 2 (pc' := 7) (lv' := [(0, .ref 3), (1, .ref a)]) (st' := [.int ((Int32.ofInt (-1))), .ref 3]) rfl ?_
  refine En_put (j := 6) rfl rfl rfl tgz_3 (by decide +kernel) rfl (vI (l := (-1)) (u := 1600) (by decide +kernel) (by decide : (Int32.ofInt (-1)).toInt = -1) (by omega) (by omega)) h2 h3 (by decide +kernel) (fun σ8 h9 h10 h11 h12 => ?_)
  have h13 := OTH_pn h6 h12 tgz_3 (by decide)
  have o14 : OUT σ0 σ8 a := OUT_pn o7 h12 tgz_3 (by decide)
  refine En_Ps 2 (pc' := 12) (lv' := [(0, .ref 3), (1, .ref a)]) (st' := [.int ((Int32.ofInt 0)), .ref 3]) rfl ?_
  refine En_put (j := 3) rfl rfl rfl tgz_3 (by decide +kernel) rfl (vI (l := 0) (u := 1600) (by decide +kernel) (by decide : (Int32.ofInt 0).toInt = 0) (by omega) (by omega)) h9 h10 (by decide +kernel) (fun σ15 h16 h17 h18 h19 => ?_)
  have h20 := OTH_pn h13 h19 tgz_3 (by decide)
  have o21 : OUT σ0 σ15 a := OUT_pn o14 h19 tgz_3 (by decide)
  refine En_Ps 1 (pc' := 16) (lv' := [(0, .ref 3), (1, .ref a)]) (st' := [.ref a]) rfl ?_
  refine En_callV rfl rfl rfl rfl rfl rfl rfl rfl ha (by decide +kernel) rfl (c_42x σ15 h16 a ha hP (FXP_fr hP hX h17 (by decide +kernel))) (by decide) (by decide) (fun v23 σ24 h22 => ?_)
  obtain ⟨h25, h26, z28, h29, z30, h31, rfl, h27⟩ := h22
  have h32 := h27.2.2.2.2.2.2.2.2.2
  have h33 := Fr_trans h17 h26 (by decide +kernel)
  have h34 := OTH_tr h20 h32.1
  have o35 : OUT σ0 σ24 a := OUT_tr o21 h27.1
  refine En_Ps 1 (pc' := 20) (lv' := [(0, .ref 3), (1, .ref a)]) (st' := [.ref 3]) rfl ?_
  refine En_callV rfl rfl rfl rfl rfl rfl rfl rfl tgz_3 (by decide +kernel) rfl (c_72x σ24 h25 ((Int32.ofInt 0)) ((h26 _ _ (inW tgz_3 (by decide +kernel))).trans h18) (TPc_fr hB h33 (by decide +kernel)) (by have := (by decide : (Int32.ofInt 0).toInt = 0); have := hB.1; omega)) (by decide) (by decide) (fun v37 σ38 h36 => ?_)
  obtain ⟨h39, h40, rfl, h41⟩ := h36
  have h42 := h41
  have h43 := Fr_trans h33 h40 (by decide +kernel)
  have h44 := OTH_fr h34 h40 (by decide +kernel)
  have h45 := KN_fr hP h32.2 h40 (by decide +kernel)
  have o46 : OUT σ0 σ38 a := OUT_fr o35 h40 (by decide +kernel)
  refine En_Ps 2 (pc' := 25) (lv' := [(2, .int ((Int32.ofInt 0))), (0, .ref 3), (1, .ref a)]) (st' := []) rfl ?_
  have key25 : ∀ (n25 : Nat) (σ195 : SG) (y47 : Int32) (y48 : Int32) (y49 : Int32) (y50 : Int32), WT σ195 → Fr [(3, 1), (3, 2), (3, 3), (3, 4), (3, 5), (3, 6), (18, 0), (18, 1), (18, 2), (18, 3), (18, 6), (18, 7), (18, 8), (18, 11), (18, 14), (20, 2), (21, 0), (22, 0), (23, 0), (24, 0), (25, 0), (26, 0), (28, 1), (28, 2), (28, 3)] σ0 σ195 → (σ195 3)[5]? = some (.int y48) → (σ195 a)[0]? = some (.int y49) → (σ195 a)[1]? = some (.int y50) → 0 ≤ y47.toInt → y47.toInt ≤ 1601 → 0 ≤ y48.toInt → y48.toInt ≤ 3 → 0 ≤ y49.toInt → y49.toInt ≤ 1601 → (-1) ≤ y50.toInt → y50.toInt ≤ 4 → -y50.toInt - y48.toInt ≤ 0 → -y50.toInt - y49.toInt ≤ 0 → y47.toInt - y49.toInt + z28.toInt ≤ 0 → -z28.toInt - y47.toInt + y49.toInt ≤ 0 → -y47.toInt + 1601 < (n25 : Int) → OTH a σ0 σ195 → RLI By Nb a σ195 y47.toInt → OUT σ0 σ195 a → En 7 159 none mr_60 (P_60x σ0 By Nb a) 25 [(0, .ref 3), (1, .ref a), (2, .int y47)] [] σ195 := by
    intro n25
    induction n25 with
    | zero =>
      intro σ195 y47 y48 y49 y50 h196 h197 h198 h199 h200 h201 h202 h203 h204 h205 h206 h207 h208 h209 h210 h211 h212 h213 h214 h215 h216
      obtain ⟨S217, f218, h219, h220, h221, h222⟩ := h215
      exfalso; omega
    | succ n25 ih25 =>
      intro σ195 y47 y48 y49 y50 h196 h197 h198 h199 h200 h201 h202 h203 h204 h205 h206 h207 h208 h209 h210 h211 h212 h213 h214 h215 h216
      obtain ⟨S235, f236, h237, h238, h239, h240⟩ := h215
      refine En_Ps 2 (pc' := 29) (lv' := [(0, .ref 3), (1, .ref a), (2, .int y47)]) (st' := [.int (((Int16.ofInt 1600).toInt32)), .int y47]) rfl ?_
      refine En_icGt _ rfl (by decide : ((Int16.ofInt 1600).toInt32).toInt = 1600) rfl (fun h241 => ?_) (fun h241 => ?_)
      · exact En_ret (v := none) rfl rfl rfl ⟨h196, h197, y48, h198, y50, h200, rfl, ⟨h216, by omega, by omega, by omega, by omega, by omega, ⟨h214, RLI_x h237 h238 h239 (fun zz => by omega)⟩⟩⟩
      · refine En_Ps 1 (pc' := 33) (lv' := [(0, .ref 3), (1, .ref a), (2, .int y47)]) (st' := [.ref 3]) rfl ?_
        refine En_getI (j := 1) (l := 0) (u := 4) rfl rfl rfl tgz_3 (by decide +kernel) h196 (by decide +kernel) (fun z243 h242 h244 h245 => ?_)
        have h246 := CT_k h237 h198
        have h247 : Imp (S235.1 = 0) (tK By Nb S235.2.2.1 = z243.toInt) := CT_t h237 h242
        refine En_iEq _ rfl rfl (fun h248 => ?_) (fun h248 => ?_)
        · exact En_ret (v := none) rfl rfl rfl ⟨h196, h197, y48, h198, y50, h200, rfl, ⟨h216, by omega, by omega, by omega, by omega, by omega, ⟨h214, RLI_x h237 h238 h239 (fun zz => by (try have i0 := Imp_m h247 (by omega)); omega)⟩⟩⟩
        · refine En_Ps 1 (pc' := 40) (lv' := [(0, .ref 3), (1, .ref a), (2, .int y47)]) (st' := [.ref 3]) rfl ?_
          refine En_getK (j := 5) h198 rfl rfl rfl tgz_3 (by decide +kernel) ?_
          have h249 := CT_k h237 h198
          refine En_iNe _ rfl rfl (fun h250 => ?_) (fun h250 => ?_)
          · exact En_ret (v := none) rfl rfl rfl ⟨h196, h197, y48, h198, y50, h200, rfl, ⟨h216, by omega, by omega, by omega, by omega, by omega, ⟨h214, RLI_x h237 h238 h239 (fun zz => by (try have i0 := Imp_m h247 (by omega)); omega)⟩⟩⟩
          · have h251 : S235.1 = 0 := by omega
            try have h255 := Imp_m h247 (by omega)
            obtain ⟨h252, h253⟩ := h238 h251
            have h254 : S235.2.2.2 7 = y49.toInt := KN_v h252 (Or.inl (by decide)) (by decide) (by decide) (by rw [lcO_lt (by decide) (by decide), Nat.add_zero]) (by decide) h199
            have keyj199 : ∀ (σ256 : SG) (y259 : Int32) (y263 : Int32) (y267 : Int32), WT σ256 → Fr [(3, 1), (3, 2), (3, 3), (3, 4), (3, 5), (3, 6), (18, 0), (18, 1), (18, 2), (18, 3), (18, 6), (18, 7), (18, 8), (18, 11), (18, 14), (20, 2), (21, 0), (22, 0), (23, 0), (24, 0), (25, 0), (26, 0), (28, 1), (28, 2), (28, 3)] σ0 σ256 → (σ256 3)[5]? = some (.int y259) → 0 ≤ y259.toInt → y259.toInt ≤ 3 → (σ256 a)[1]? = some (.int y263) → (-1) ≤ y263.toInt → y263.toInt ≤ 4 → (σ256 a)[0]? = some (.int y267) → 0 ≤ y267.toInt → y267.toInt ≤ 1601 → -y263.toInt - y259.toInt ≤ 0 → y267.toInt - y49.toInt ≤ 0 ∧ -y267.toInt + y49.toInt ≤ 0 → OTH a σ0 σ256 → CT By Nb σ256 (fL1 By Nb S235) → Imp ((fL1 By Nb S235).1 = 0) (KN σ256 a (fL1 By Nb S235).2.2.2 (act (fL1 By Nb S235).2.2.2)) → OUT σ0 σ256 a → En 7 159 none mr_60 (P_60x σ0 By Nb a) 199 [(0, .ref 3), (1, .ref a), (2, .int y47)] [] σ256 := by
              intro σ256 y259 y263 y267 h257 h258 h260 h261 h262 h264 h265 h266 h268 h269 h270 h271 h272 h273 h274 h275 h276
              refine En_Ps 2 (pc' := 201) (lv' := [(0, .ref 3), (1, .ref a), (2, .int y47)]) (st' := [.ref 3, .ref 3]) rfl ?_
              refine En_getI (j := 1) (l := 0) (u := 4) rfl rfl rfl tgz_3 (by decide +kernel) h257 (by decide +kernel) (fun z278 h277 h279 h280 => ?_)
              have h281 := CT_k h274 h260
              have h282 : Imp ((fL1 By Nb S235).1 = 0) (tK By Nb (fL1 By Nb S235).2.2.1 = z278.toInt) := CT_t h274 h277
              refine En_Ps 1 (pc' := 205) (lv' := [(0, .ref 3), (1, .ref a), (2, .int y47)]) (st' := [.int ((Int32.ofInt 3)), .int z278, .ref 3]) rfl ?_
              refine En_icNe _ rfl (by decide : (Int32.ofInt 3).toInt = 3) rfl (fun h283 => ?_) (fun h283 => ?_)
              · refine En_Ps 1 (pc' := 213) (lv' := [(0, .ref 3), (1, .ref a), (2, .int y47)]) (st' := [.int ((Int32.ofInt 0)), .ref 3]) rfl ?_
                have := (by decide : ((Int32.ofInt 0)).toInt = 0)
                refine En_callV rfl rfl rfl rfl rfl rfl rfl rfl tgz_3 (by decide +kernel) rfl (c_59x σ256 h257 ((Int32.ofInt 0)) (geI (by decide : (Int32.ofInt 0).toInt = 0) (by omega)) (leI (by decide : (Int32.ofInt 0).toInt = 0) (by omega)) y259 h260 h274) (by decide) (by decide) (fun v285 σ286 h284 => ?_)
                obtain ⟨h287, h288, z290, h291, rfl, h289⟩ := h284
                have h292 := h289.2.2.2.2.2.2
                have h293 := Fr_trans h258 h288 (by decide +kernel)
                have h294 := OTH_fr h273 h288 (by decide +kernel)
                have h295 : pss By Nb ((Int32.ofInt 0)).toInt (fL1 By Nb S235) = pss By Nb (if tK By Nb (fL1 By Nb S235).2.2.1 = 3 then 1 else 0) (fL1 By Nb S235) := pss_cg2 (fun zz => by (try have i0 := Imp_m h282 (by omega)); first | (rw [if_pos (by omega)]; omega) | (rw [if_neg (by omega)]; omega))
                obtain ⟨S296, h297⟩ : ∃ q : PS, q = pss By Nb (if tK By Nb (fL1 By Nb S235).2.2.1 = 3 then 1 else 0) (fL1 By Nb S235) := ⟨_, rfl⟩
                have h298 : CT By Nb σ286 S296 := by rw [h297]; exact (CT_eq h292 h295)
                have h299 := CT_k h298 h291
                have h300 : S296.2.2.2 = (fL1 By Nb S235).2.2.2 := by rw [h297]; exact pss_w
                have h301 : Imp (S296.1 = 0) ((fL1 By Nb S235).1 = 0) := fun z => (pss_g (by rw [h295, ← h297]; exact z)).1
                have h302 : Imp (S296.1 = 0) (((Int32.ofInt 0)).toInt = 1) := fun z => (pss_g (by rw [h295, ← h297]; exact z)).2.1
                have h303 : Imp (S296.1 = 0) (KN σ286 a S296.2.2.2 (act S296.2.2.2)) := fun z => by (try have i0 := Imp_m h302 (by omega)); (try have i1 := Imp_m h301 (by omega)); (try have i2 := Imp_m h282 (by omega)); rw [h300]; exact KN_fr hP (Imp_m h275 (by omega)) h288 (by decide +kernel)
                have o304 : OUT σ0 σ286 a := OUT_fr h276 h288 (by decide +kernel)
                have h305 := Imp_m h289.2.2.2.2.2.1 (by omega)
                refine En_Ps 2 (pc' := 218) (lv' := [(0, .ref 3), (1, .ref a), (2, .int y47)]) (st' := [.ref a, .ref a]) rfl ?_
                refine En_getK (j := 0) ((h288 _ _ (inW ha (by decide +kernel))).trans h268) rfl rfl rfl ha (by decide +kernel) ?_
                refine En_Ps 2 (pc' := 223) (lv' := [(0, .ref 3), (1, .ref a), (2, .int y47)]) (st' := [.int ((y267 + ((Int32.ofInt 1)))), .ref a]) rfl ?_
                refine En_top (addI rfl (by decide : (Int32.ofInt 1).toInt = 1) (by omega) (by omega)) (fun z306 h307 => ?_)
                refine En_put (j := 0) rfl rfl rfl ha (by decide +kernel) rfl (vI (l := 0) (u := 1601) (by decide +kernel) rfl (by omega) (by omega)) h287 h293 (by decide +kernel) (fun σ308 h309 h310 h311 h312 => ?_)
                have h313 := OTH_pj h294 h312 (by decide)
                obtain ⟨S314, h315⟩ : ∃ q : PS, q = wst S296 7 (S235.2.2.2 7 + 1) := ⟨_, rfl⟩
                have h316 : CT By Nb σ308 S314 := by rw [h315]; exact CT_wst (CT_ne h298 h312 (by have := hP; unfold PLA at this; omega))
                have h317 : Imp (S314.1 = 0) (KN σ308 a S314.2.2.2 (act S314.2.2.2)) := fun zz => by rw [h315] at zz ⊢; exact KN_sub (KN_st (j := 7) (v := S235.2.2.2 7 + 1) (Imp_m h303 zz) h311 h312 (by decide) (by decide) (by rw [lcO_lt (by decide) (by decide), Nat.add_zero]) (by decide) (by omega)) (fun t t0 t1 y => Or.inl (act_low (by decide) y))
                have h318 : fLine By Nb S235 = S314 := fL_line h297 h315
                have h319 : S314.2.2.2 7 = S235.2.2.2 7 + 1 := by rw [h315]; show (if (7 : Int) = 7 then S235.2.2.2 7 + 1 else S296.2.2.2 7) = S235.2.2.2 7 + 1; exact if_pos rfl
                have o320 : OUT σ0 σ308 a := OUT_st o304 h312 (by omega)
                refine En_Ps 1 (pc' := 229) (lv' := [(2, .int ((y47 + Int32.ofInt 1))), (0, .ref 3), (1, .ref a)]) (st' := []) rfl ?_
                refine En_lv1 (addI rfl (by decide : (Int32.ofInt 1).toInt = 1) (by omega) (by omega)) (fun z321 h322 => ?_)
                refine En_Ps 1 (pc' := 25) (lv' := [(2, .int z321), (0, .ref 3), (1, .ref a)]) (st' := []) rfl ?_
                refine En_lv (lv := [(0, .ref 3), (1, .ref a), (2, .int z321)]) ⟨rfl, rfl, rfl, trivial⟩ ?_
                exact ih25 σ308 z321 z290 z306 y263 h309 h310 ((h312 _ _ (Or.inr (by decide))).trans h291) h311 ((h312 _ _ (Or.inr (by decide))).trans ((h288 _ _ (inW ha (by decide +kernel))).trans h264)) (by omega) (by omega) (by omega) (by omega) (by omega) (by omega) (by omega) (by omega) (by omega) (by omega) (by omega) (by omega) (by omega) (h313) (RLI_s h239 h240 (by omega) h251 (by omega) h318 h316 h317 h319 (by omega)) (o320)
              · refine En_Ps 2 (pc' := 213) (lv' := [(0, .ref 3), (1, .ref a), (2, .int y47)]) (st' := [.int ((Int32.ofInt 1)), .ref 3]) rfl ?_
                have := (by decide : ((Int32.ofInt 1)).toInt = 1)
                refine En_callV rfl rfl rfl rfl rfl rfl rfl rfl tgz_3 (by decide +kernel) rfl (c_59x σ256 h257 ((Int32.ofInt 1)) (geI (by decide : (Int32.ofInt 1).toInt = 1) (by omega)) (leI (by decide : (Int32.ofInt 1).toInt = 1) (by omega)) y259 h260 h274) (by decide) (by decide) (fun v324 σ325 h323 => ?_)
                obtain ⟨h326, h327, z329, h330, rfl, h328⟩ := h323
                have h331 := h328.2.2.2.2.2.2
                have h332 := Fr_trans h258 h327 (by decide +kernel)
                have h333 := OTH_fr h273 h327 (by decide +kernel)
                have h334 : pss By Nb ((Int32.ofInt 1)).toInt (fL1 By Nb S235) = pss By Nb (if tK By Nb (fL1 By Nb S235).2.2.1 = 3 then 1 else 0) (fL1 By Nb S235) := pss_cg2 (fun zz => by (try have i0 := Imp_m h282 (by omega)); first | (rw [if_pos (by omega)]; omega) | (rw [if_neg (by omega)]; omega))
                obtain ⟨S335, h336⟩ : ∃ q : PS, q = pss By Nb (if tK By Nb (fL1 By Nb S235).2.2.1 = 3 then 1 else 0) (fL1 By Nb S235) := ⟨_, rfl⟩
                have h337 : CT By Nb σ325 S335 := by rw [h336]; exact (CT_eq h331 h334)
                have h338 := CT_k h337 h330
                have h339 : S335.2.2.2 = (fL1 By Nb S235).2.2.2 := by rw [h336]; exact pss_w
                have h340 : Imp (S335.1 = 0) ((fL1 By Nb S235).1 = 0) := fun z => (pss_g (by rw [h334, ← h336]; exact z)).1
                have h341 : Imp (S335.1 = 0) (((Int32.ofInt 1)).toInt = 1) := fun z => (pss_g (by rw [h334, ← h336]; exact z)).2.1
                have h342 : Imp (S335.1 = 0) (KN σ325 a S335.2.2.2 (act S335.2.2.2)) := fun z => by (try have i0 := Imp_m h341 (by omega)); (try have i1 := Imp_m h340 (by omega)); (try have i2 := Imp_m h282 (by omega)); rw [h339]; exact KN_fr hP (Imp_m h275 (by omega)) h327 (by decide +kernel)
                have o343 : OUT σ0 σ325 a := OUT_fr h276 h327 (by decide +kernel)
                have h344 := Imp_m h328.2.2.2.1 (by omega)
                refine En_Ps 2 (pc' := 218) (lv' := [(0, .ref 3), (1, .ref a), (2, .int y47)]) (st' := [.ref a, .ref a]) rfl ?_
                refine En_getK (j := 0) ((h327 _ _ (inW ha (by decide +kernel))).trans h268) rfl rfl rfl ha (by decide +kernel) ?_
                refine En_Ps 2 (pc' := 223) (lv' := [(0, .ref 3), (1, .ref a), (2, .int y47)]) (st' := [.int ((y267 + ((Int32.ofInt 1)))), .ref a]) rfl ?_
                refine En_top (addI rfl (by decide : (Int32.ofInt 1).toInt = 1) (by omega) (by omega)) (fun z345 h346 => ?_)
                refine En_put (j := 0) rfl rfl rfl ha (by decide +kernel) rfl (vI (l := 0) (u := 1601) (by decide +kernel) rfl (by omega) (by omega)) h326 h332 (by decide +kernel) (fun σ347 h348 h349 h350 h351 => ?_)
                have h352 := OTH_pj h333 h351 (by decide)
                obtain ⟨S353, h354⟩ : ∃ q : PS, q = wst S335 7 (S235.2.2.2 7 + 1) := ⟨_, rfl⟩
                have h355 : CT By Nb σ347 S353 := by rw [h354]; exact CT_wst (CT_ne h337 h351 (by have := hP; unfold PLA at this; omega))
                have h356 : Imp (S353.1 = 0) (KN σ347 a S353.2.2.2 (act S353.2.2.2)) := fun zz => by rw [h354] at zz ⊢; exact KN_sub (KN_st (j := 7) (v := S235.2.2.2 7 + 1) (Imp_m h342 zz) h350 h351 (by decide) (by decide) (by rw [lcO_lt (by decide) (by decide), Nat.add_zero]) (by decide) (by omega)) (fun t t0 t1 y => Or.inl (act_low (by decide) y))
                have h357 : fLine By Nb S235 = S353 := fL_line h336 h354
                have h358 : S353.2.2.2 7 = S235.2.2.2 7 + 1 := by rw [h354]; show (if (7 : Int) = 7 then S235.2.2.2 7 + 1 else S335.2.2.2 7) = S235.2.2.2 7 + 1; exact if_pos rfl
                have o359 : OUT σ0 σ347 a := OUT_st o343 h351 (by omega)
                refine En_Ps 1 (pc' := 229) (lv' := [(2, .int ((y47 + Int32.ofInt 1))), (0, .ref 3), (1, .ref a)]) (st' := []) rfl ?_
                refine En_lv1 (addI rfl (by decide : (Int32.ofInt 1).toInt = 1) (by omega) (by omega)) (fun z360 h361 => ?_)
                refine En_Ps 1 (pc' := 25) (lv' := [(2, .int z360), (0, .ref 3), (1, .ref a)]) (st' := []) rfl ?_
                refine En_lv (lv := [(0, .ref 3), (1, .ref a), (2, .int z360)]) ⟨rfl, rfl, rfl, trivial⟩ ?_
                exact ih25 σ347 z360 z329 z345 y263 h348 h349 ((h351 _ _ (Or.inr (by decide))).trans h330) h350 ((h351 _ _ (Or.inr (by decide))).trans ((h327 _ _ (inW ha (by decide +kernel))).trans h264)) (by omega) (by omega) (by omega) (by omega) (by omega) (by omega) (by omega) (by omega) (by omega) (by omega) (by omega) (by omega) (by omega) (h352) (RLI_s h239 h240 (by omega) h251 (by omega) h357 h355 h356 h358 (by omega)) (o359)
            refine En_Ps 1 (pc' := 47) (lv' := [(0, .ref 3), (1, .ref a), (2, .int y47)]) (st' := [.int y47]) rfl ?_
            refine En_iNe _ rfl rfl (fun h362 => ?_) (fun h362 => ?_)
            · refine En_Ps 1 (pc' := 59) (lv' := [(0, .ref 3), (1, .ref a), (2, .int y47)]) (st' := [.ref 3]) rfl ?_
              refine En_ldcS (i := 2) rfl rfl rfl ?_
              refine En_callV rfl rfl rfl rfl rfl rfl rfl rfl tgz_3 (by decide +kernel) rfl (c_71s2x σ195 h196 h237) (by decide) (by decide) (fun v364 σ365 h363 => ?_)
              obtain ⟨h366, h367, z369, rfl, h368⟩ := h363
              have h370 := h368.2.2
              obtain rfl : σ195 = σ365 := Fr_nil h367
              have h371 := h370
              try have h372 := Imp_m h371 (by omega)
              try have h373 := Imp_m h247 (by omega)
              refine En_iEq _ rfl rfl (fun h374 => ?_) (fun h374 => ?_)
              · refine En_Ps 1 (pc' := 76) (lv' := [(0, .ref 3), (1, .ref a), (2, .int y47)]) (st' := [.ref 3]) rfl ?_
                refine En_ldcS (i := 6) rfl rfl rfl ?_
                refine En_callV rfl rfl rfl rfl rfl rfl rfl rfl tgz_3 (by decide +kernel) rfl (c_71s6x σ195 h196 h237) (by decide) (by decide) (fun v376 σ377 h375 => ?_)
                obtain ⟨h378, h379, z381, rfl, h380⟩ := h375
                have h382 := h380.2.2
                obtain rfl : σ195 = σ377 := Fr_nil h379
                have h383 := h382
                try have h384 := Imp_m h383 (by omega)
                try have h385 := Imp_m h371 (by omega)
                try have h386 := Imp_m h247 (by omega)
                refine En_iEq _ rfl rfl (fun h387 => ?_) (fun h387 => ?_)
                · refine En_Ps 1 (pc' := 93) (lv' := [(0, .ref 3), (1, .ref a), (2, .int y47)]) (st' := [.ref 3]) rfl ?_
                  refine En_ldcS (i := 3) rfl rfl rfl ?_
                  refine En_callV rfl rfl rfl rfl rfl rfl rfl rfl tgz_3 (by decide +kernel) rfl (c_71s3x σ195 h196 h237) (by decide) (by decide) (fun v389 σ390 h388 => ?_)
                  obtain ⟨h391, h392, z394, rfl, h393⟩ := h388
                  have h395 := h393.2.2
                  obtain rfl : σ195 = σ390 := Fr_nil h392
                  have h396 := h395
                  try have h397 := Imp_m h396 (by omega)
                  try have h398 := Imp_m h383 (by omega)
                  try have h399 := Imp_m h371 (by omega)
                  try have h400 := Imp_m h247 (by omega)
                  refine En_iEq _ rfl rfl (fun h401 => ?_) (fun h401 => ?_)
                  · refine En_Ps 1 (pc' := 110) (lv' := [(0, .ref 3), (1, .ref a), (2, .int y47)]) (st' := [.ref 3]) rfl ?_
                    refine En_ldcS (i := 17) rfl rfl rfl ?_
                    refine En_callV rfl rfl rfl rfl rfl rfl rfl rfl tgz_3 (by decide +kernel) rfl (c_71s17x σ195 h196 h237) (by decide) (by decide) (fun v403 σ404 h402 => ?_)
                    obtain ⟨h405, h406, z408, rfl, h407⟩ := h402
                    have h409 := h407.2.2
                    obtain rfl : σ195 = σ404 := Fr_nil h406
                    have h410 := h409
                    try have h411 := Imp_m h410 (by omega)
                    try have h412 := Imp_m h396 (by omega)
                    try have h413 := Imp_m h383 (by omega)
                    try have h414 := Imp_m h371 (by omega)
                    try have h415 := Imp_m h247 (by omega)
                    refine En_iEq _ rfl rfl (fun h416 => ?_) (fun h416 => ?_)
                    · refine En_Ps 1 (pc' := 127) (lv' := [(0, .ref 3), (1, .ref a), (2, .int y47)]) (st' := [.ref 3]) rfl ?_
                      refine En_ldcS (i := 9) rfl rfl rfl ?_
                      refine En_callV rfl rfl rfl rfl rfl rfl rfl rfl tgz_3 (by decide +kernel) rfl (c_71s9x σ195 h196 h237) (by decide) (by decide) (fun v418 σ419 h417 => ?_)
                      obtain ⟨h420, h421, z423, rfl, h422⟩ := h417
                      have h424 := h422.2.2
                      obtain rfl : σ195 = σ419 := Fr_nil h421
                      have h425 := h424
                      try have h426 := Imp_m h425 (by omega)
                      try have h427 := Imp_m h410 (by omega)
                      try have h428 := Imp_m h396 (by omega)
                      try have h429 := Imp_m h383 (by omega)
                      try have h430 := Imp_m h371 (by omega)
                      try have h431 := Imp_m h247 (by omega)
                      refine En_iEq _ rfl rfl (fun h432 => ?_) (fun h432 => ?_)
                      · refine En_Ps 1 (pc' := 144) (lv' := [(0, .ref 3), (1, .ref a), (2, .int y47)]) (st' := [.ref 3]) rfl ?_
                        refine En_ldcS (i := 5) rfl rfl rfl ?_
                        refine En_callV rfl rfl rfl rfl rfl rfl rfl rfl tgz_3 (by decide +kernel) rfl (c_71s5x σ195 h196 h237) (by decide) (by decide) (fun v434 σ435 h433 => ?_)
                        obtain ⟨h436, h437, z439, rfl, h438⟩ := h433
                        have h440 := h438.2.2
                        obtain rfl : σ195 = σ435 := Fr_nil h437
                        have h441 := h440
                        try have h442 := Imp_m h441 (by omega)
                        try have h443 := Imp_m h425 (by omega)
                        try have h444 := Imp_m h410 (by omega)
                        try have h445 := Imp_m h396 (by omega)
                        try have h446 := Imp_m h383 (by omega)
                        try have h447 := Imp_m h371 (by omega)
                        try have h448 := Imp_m h247 (by omega)
                        refine En_iEq _ rfl rfl (fun h449 => ?_) (fun h449 => ?_)
                        · refine En_Ps 1 (pc' := 161) (lv' := [(0, .ref 3), (1, .ref a), (2, .int y47)]) (st' := [.ref 3]) rfl ?_
                          refine En_ldcS (i := 1) rfl rfl rfl ?_
                          refine En_callV rfl rfl rfl rfl rfl rfl rfl rfl tgz_3 (by decide +kernel) rfl (c_71s1x σ195 h196 h237) (by decide) (by decide) (fun v451 σ452 h450 => ?_)
                          obtain ⟨h453, h454, z456, rfl, h455⟩ := h450
                          have h457 := h455.2.2
                          obtain rfl : σ195 = σ452 := Fr_nil h454
                          have h458 := h457
                          try have h459 := Imp_m h458 (by omega)
                          try have h460 := Imp_m h441 (by omega)
                          try have h461 := Imp_m h425 (by omega)
                          try have h462 := Imp_m h410 (by omega)
                          try have h463 := Imp_m h396 (by omega)
                          try have h464 := Imp_m h383 (by omega)
                          try have h465 := Imp_m h371 (by omega)
                          try have h466 := Imp_m h247 (by omega)
                          refine En_iEq _ rfl rfl (fun h467 => ?_) (fun h467 => ?_)
                          · refine En_Ps 1 (pc' := 178) (lv' := [(0, .ref 3), (1, .ref a), (2, .int y47)]) (st' := [.ref 3]) rfl ?_
                            refine En_ldcS (i := 0) rfl rfl rfl ?_
                            refine En_callV rfl rfl rfl rfl rfl rfl rfl rfl tgz_3 (by decide +kernel) rfl (c_71s0x σ195 h196 h237) (by decide) (by decide) (fun v469 σ470 h468 => ?_)
                            obtain ⟨h471, h472, z474, rfl, h473⟩ := h468
                            have h475 := h473.2.2
                            obtain rfl : σ195 = σ470 := Fr_nil h472
                            have h476 := h475
                            try have h477 := Imp_m h476 (by omega)
                            try have h478 := Imp_m h458 (by omega)
                            try have h479 := Imp_m h441 (by omega)
                            try have h480 := Imp_m h425 (by omega)
                            try have h481 := Imp_m h410 (by omega)
                            try have h482 := Imp_m h396 (by omega)
                            try have h483 := Imp_m h383 (by omega)
                            try have h484 := Imp_m h371 (by omega)
                            try have h485 := Imp_m h247 (by omega)
                            refine En_iEq _ rfl rfl (fun h486 => ?_) (fun h486 => ?_)
                            · refine En_Ps 2 (pc' := 196) (lv' := [(0, .ref 3), (1, .ref a), (2, .int y47)]) (st' := [.int ((Int32.ofInt 1)), .ref 3]) rfl ?_
                              have := (by decide : ((Int32.ofInt 1)).toInt = 1)
                              refine En_callV rfl rfl rfl rfl rfl rfl rfl rfl tgz_3 (by decide +kernel) rfl (c_54x σ195 h196 ((Int32.ofInt 1)) (geI (by decide : (Int32.ofInt 1).toInt = 1) (by omega)) (leI (by decide : (Int32.ofInt 1).toInt = 1) (by omega)) y48 h198 h237) (by decide) (by decide) (fun v488 σ489 h487 => ?_)
                              obtain ⟨h490, h491, z493, h494, rfl, h492⟩ := h487
                              have h495 := h492.2.2.2.2.2
                              have h496 := Fr_trans h197 h491 (by decide +kernel)
                              have h497 := OTH_fr h214 h491 (by decide +kernel)
                              obtain ⟨S498, h499⟩ : ∃ q : PS, q = err By Nb 1 S235 := ⟨_, rfl⟩
                              have h500 : CT By Nb σ489 S498 := by rw [h499]; exact (CT_eq h495 (err_cg (by omega)))
                              have h501 := CT_k h500 h494
                              have h502 : Imp (S498.1 = 0) (tK By Nb S498.2.2.1 = z243.toInt) := CT_t h500 ((h491 _ _ (inW tgz_3 (by decide +kernel))).trans h242)
                              have h503 : Imp (S498.1 = 0) (KN σ489 a S498.2.2.2 (act S498.2.2.2)) := fun z => by rw [h499] at z; exact absurd z (err_ne (by decide))
                              have o504 : OUT σ0 σ489 a := OUT_fr h216 h491 (by decide +kernel)
                              have h505 := Imp_m h492.2.2.2.1 (by omega)
                              have h506 : fL1 By Nb S235 = S498 := by rw [h499]; exact (fL1_1 (by omega)).trans (fNx_n (by omega) (by omega) (by omega) (by omega) (by omega) (by omega) (by omega) (by omega))
                              exact keyj199 σ489 z493 y50 y49 h490 h496 h494 (by omega) (by omega) ((h491 _ _ (inW ha (by decide +kernel))).trans h200) (by omega) (by omega) ((h491 _ _ (inW ha (by decide +kernel))).trans h199) (by omega) (by omega) (by omega) (by omega) (h497) (CT_eq h500 h506.symm) (by rw [h506]; exact h503) (o504)
                            · refine En_Ps 2 (pc' := 188) (lv' := [(0, .ref 3), (1, .ref a), (2, .int y47)]) (st' := [.ref a, .ref 3]) rfl ?_
                              refine En_callV rfl rfl rfl rfl rfl rfl rfl rfl tgz_3 (by decide +kernel) rfl (c_61x σ195 h196 a ha y48 h198 y50 h200 (by omega) h237 (by omega) hP (FXP_fr hP hX h197 (by decide +kernel)) h252) (by decide) (by decide) (fun v508 σ509 h507 => ?_)
                              obtain ⟨h510, h511, z513, h514, rfl, h512⟩ := h507
                              have h515 := h512.2.2.2.2.2
                              have h516 := Fr_trans h197 h511 (by decide +kernel)
                              have h517 := OTH_fr h214 h511 (by decide +kernel)
                              obtain ⟨S518, h519⟩ : ∃ q : PS, q = fAhead By Nb S235 := ⟨_, rfl⟩
                              have h520 : CT By Nb σ509 S518 := by rw [h519]; exact h515.1
                              have h521 := CT_k h520 h514
                              have h522 : Imp (S518.1 = 0) (KN σ509 a S518.2.2.2 (act S518.2.2.2)) := fun z => by rw [h519] at z ⊢; exact h515.2 z
                              have o523 : OUT σ0 σ509 a := OUT_tr h216 h512.1
                              refine En_Ps 1 (pc' := 199) (lv' := [(0, .ref 3), (1, .ref a), (2, .int y47)]) (st' := []) rfl ?_
                              have h524 : fL1 By Nb S235 = S518 := by rw [h519]; exact (fL1_1 (by omega)).trans (fNx_0 (by omega) (by omega) (by omega) (by omega) (by omega) (by omega) (by omega) (by omega))
                              exact keyj199 σ509 z513 y50 y49 h510 h516 h514 (by omega) (by omega) ((h511 _ _ (inW ha (by decide +kernel))).trans h200) (by omega) (by omega) ((h511 _ _ (inW ha (by decide +kernel))).trans h199) (by omega) (by omega) (by omega) (by omega) (h517) (CT_eq h520 h524.symm) (by rw [h524]; exact h522) (o523)
                          · refine En_Ps 2 (pc' := 171) (lv' := [(0, .ref 3), (1, .ref a), (2, .int y47)]) (st' := [.ref a, .ref 3]) rfl ?_
                            refine En_callV rfl rfl rfl rfl rfl rfl rfl rfl tgz_3 (by decide +kernel) rfl (c_62x σ195 h196 a ha y48 h198 y50 h200 (by omega) h237 (by omega) hP (FXP_fr hP hX h197 (by decide +kernel)) h252) (by decide) (by decide) (fun v526 σ527 h525 => ?_)
                            obtain ⟨h528, h529, z531, h532, rfl, h530⟩ := h525
                            have h533 := h530.2.2.2.2.2
                            have h534 := Fr_trans h197 h529 (by decide +kernel)
                            have h535 := OTH_fr h214 h529 (by decide +kernel)
                            obtain ⟨S536, h537⟩ : ∃ q : PS, q = fCourse By Nb S235 := ⟨_, rfl⟩
                            have h538 : CT By Nb σ527 S536 := by rw [h537]; exact h533.1
                            have h539 := CT_k h538 h532
                            have h540 : Imp (S536.1 = 0) (KN σ527 a S536.2.2.2 (act S536.2.2.2)) := fun z => by rw [h537] at z ⊢; exact h533.2 z
                            have o541 : OUT σ0 σ527 a := OUT_tr h216 h530.1
                            refine En_Ps 1 (pc' := 199) (lv' := [(0, .ref 3), (1, .ref a), (2, .int y47)]) (st' := []) rfl ?_
                            have h542 : fL1 By Nb S235 = S536 := by rw [h537]; exact (fL1_1 (by omega)).trans (fNx_1 (by omega) (by omega) (by omega) (by omega) (by omega) (by omega) (by omega))
                            exact keyj199 σ527 z531 y50 y49 h528 h534 h532 (by omega) (by omega) ((h529 _ _ (inW ha (by decide +kernel))).trans h200) (by omega) (by omega) ((h529 _ _ (inW ha (by decide +kernel))).trans h199) (by omega) (by omega) (by omega) (by omega) (h535) (CT_eq h538 h542.symm) (by rw [h542]; exact h540) (o541)
                        · refine En_Ps 2 (pc' := 154) (lv' := [(0, .ref 3), (1, .ref a), (2, .int y47)]) (st' := [.ref a, .ref 3]) rfl ?_
                          refine En_callV rfl rfl rfl rfl rfl rfl rfl rfl tgz_3 (by decide +kernel) rfl (c_66x σ195 h196 a ha y48 h198 y50 h200 (by omega) h237 (by omega) hP (FXP_fr hP hX h197 (by decide +kernel)) h252) (by decide) (by decide) (fun v544 σ545 h543 => ?_)
                          obtain ⟨h546, h547, z549, h550, rfl, h548⟩ := h543
                          have h551 := h548.2.2.2.2.2
                          have h552 := Fr_trans h197 h547 (by decide +kernel)
                          have h553 := OTH_fr h214 h547 (by decide +kernel)
                          obtain ⟨S554, h555⟩ : ∃ q : PS, q = fHouse By Nb S235 := ⟨_, rfl⟩
                          have h556 : CT By Nb σ545 S554 := by rw [h555]; exact h551.1
                          have h557 := CT_k h556 h550
                          have h558 : Imp (S554.1 = 0) (KN σ545 a S554.2.2.2 (act S554.2.2.2)) := fun z => by rw [h555] at z ⊢; exact h551.2 z
                          have o559 : OUT σ0 σ545 a := OUT_tr h216 h548.1
                          refine En_Ps 1 (pc' := 199) (lv' := [(0, .ref 3), (1, .ref a), (2, .int y47)]) (st' := []) rfl ?_
                          have h560 : fL1 By Nb S235 = S554 := by rw [h555]; exact (fL1_1 (by omega)).trans (fNx_5 (by omega) (by omega) (by omega) (by omega) (by omega) (by omega))
                          exact keyj199 σ545 z549 y50 y49 h546 h552 h550 (by omega) (by omega) ((h547 _ _ (inW ha (by decide +kernel))).trans h200) (by omega) (by omega) ((h547 _ _ (inW ha (by decide +kernel))).trans h199) (by omega) (by omega) (by omega) (by omega) (h553) (CT_eq h556 h560.symm) (by rw [h560]; exact h558) (o559)
                      · refine En_Ps 2 (pc' := 137) (lv' := [(0, .ref 3), (1, .ref a), (2, .int y47)]) (st' := [.ref a, .ref 3]) rfl ?_
                        refine En_callV rfl rfl rfl rfl rfl rfl rfl rfl tgz_3 (by decide +kernel) rfl (c_68x σ195 h196 a ha y48 h198 y50 h200 (by omega) h237 (by omega) hP (FXP_fr hP hX h197 (by decide +kernel)) h252) (by decide) (by decide) (fun v562 σ563 h561 => ?_)
                        obtain ⟨h564, h565, z567, h568, rfl, h566⟩ := h561
                        have h569 := h566.2.2.2.2.2
                        have h570 := Fr_trans h197 h565 (by decide +kernel)
                        have h571 := OTH_fr h214 h565 (by decide +kernel)
                        obtain ⟨S572, h573⟩ : ∃ q : PS, q = fOwner By Nb S235 := ⟨_, rfl⟩
                        have h574 : CT By Nb σ563 S572 := by rw [h573]; exact h569.1
                        have h575 := CT_k h574 h568
                        have h576 : Imp (S572.1 = 0) (KN σ563 a S572.2.2.2 (act S572.2.2.2)) := fun z => by rw [h573] at z ⊢; exact h569.2 z
                        have o577 : OUT σ0 σ563 a := OUT_tr h216 h566.1
                        refine En_Ps 1 (pc' := 199) (lv' := [(0, .ref 3), (1, .ref a), (2, .int y47)]) (st' := []) rfl ?_
                        have h578 : fL1 By Nb S235 = S572 := by rw [h573]; exact (fL1_1 (by omega)).trans (fNx_9 (by omega) (by omega) (by omega) (by omega) (by omega))
                        exact keyj199 σ563 z567 y50 y49 h564 h570 h568 (by omega) (by omega) ((h565 _ _ (inW ha (by decide +kernel))).trans h200) (by omega) (by omega) ((h565 _ _ (inW ha (by decide +kernel))).trans h199) (by omega) (by omega) (by omega) (by omega) (h571) (CT_eq h574 h578.symm) (by rw [h578]; exact h576) (o577)
                    · refine En_Ps 2 (pc' := 120) (lv' := [(0, .ref 3), (1, .ref a), (2, .int y47)]) (st' := [.ref a, .ref 3]) rfl ?_
                      refine En_callV rfl rfl rfl rfl rfl rfl rfl rfl tgz_3 (by decide +kernel) rfl (c_70x σ195 h196 a ha y48 h198 y50 h200 (by omega) h237 (by omega) hP (FXP_fr hP hX h197 (by decide +kernel)) h252) (by decide) (by decide) (fun v580 σ581 h579 => ?_)
                      obtain ⟨h582, h583, z585, h586, rfl, h584⟩ := h579
                      have h587 := h584.2.2.2.2.2
                      have h588 := Fr_trans h197 h583 (by decide +kernel)
                      have h589 := OTH_fr h214 h583 (by decide +kernel)
                      obtain ⟨S590, h591⟩ : ∃ q : PS, q = fTwin By Nb S235 := ⟨_, rfl⟩
                      have h592 : CT By Nb σ581 S590 := by rw [h591]; exact h587.1
                      have h593 := CT_k h592 h586
                      have h594 : Imp (S590.1 = 0) (KN σ581 a S590.2.2.2 (act S590.2.2.2)) := fun z => by rw [h591] at z ⊢; exact h587.2 z
                      have o595 : OUT σ0 σ581 a := OUT_tr h216 h584.1
                      refine En_Ps 1 (pc' := 199) (lv' := [(0, .ref 3), (1, .ref a), (2, .int y47)]) (st' := []) rfl ?_
                      have h596 : fL1 By Nb S235 = S590 := by rw [h591]; exact (fL1_1 (by omega)).trans (fNx_17 (by omega) (by omega) (by omega) (by omega))
                      exact keyj199 σ581 z585 y50 y49 h582 h588 h586 (by omega) (by omega) ((h583 _ _ (inW ha (by decide +kernel))).trans h200) (by omega) (by omega) ((h583 _ _ (inW ha (by decide +kernel))).trans h199) (by omega) (by omega) (by omega) (by omega) (h589) (CT_eq h592 h596.symm) (by rw [h596]; exact h594) (o595)
                  · refine En_Ps 2 (pc' := 103) (lv' := [(0, .ref 3), (1, .ref a), (2, .int y47)]) (st' := [.ref a, .ref 3]) rfl ?_
                    refine En_callV rfl rfl rfl rfl rfl rfl rfl rfl tgz_3 (by decide +kernel) rfl (c_64x σ195 h196 a ha y48 h198 y50 h200 (by omega) h237 (by omega) hP (FXP_fr hP hX h197 (by decide +kernel)) h252) (by decide) (by decide) (fun v598 σ599 h597 => ?_)
                    obtain ⟨h600, h601, z603, h604, rfl, h602⟩ := h597
                    have h605 := h602.2.2.2.2.2
                    have h606 := Fr_trans h197 h601 (by decide +kernel)
                    have h607 := OTH_fr h214 h601 (by decide +kernel)
                    obtain ⟨S608, h609⟩ : ∃ q : PS, q = fExam By Nb S235 := ⟨_, rfl⟩
                    have h610 : CT By Nb σ599 S608 := by rw [h609]; exact h605.1
                    have h611 := CT_k h610 h604
                    have h612 : Imp (S608.1 = 0) (KN σ599 a S608.2.2.2 (act S608.2.2.2)) := fun z => by rw [h609] at z ⊢; exact h605.2 z
                    have o613 : OUT σ0 σ599 a := OUT_tr h216 h602.1
                    refine En_Ps 1 (pc' := 199) (lv' := [(0, .ref 3), (1, .ref a), (2, .int y47)]) (st' := []) rfl ?_
                    have h614 : fL1 By Nb S235 = S608 := by rw [h609]; exact (fL1_1 (by omega)).trans (fNx_3 (by omega) (by omega) (by omega))
                    exact keyj199 σ599 z603 y50 y49 h600 h606 h604 (by omega) (by omega) ((h601 _ _ (inW ha (by decide +kernel))).trans h200) (by omega) (by omega) ((h601 _ _ (inW ha (by decide +kernel))).trans h199) (by omega) (by omega) (by omega) (by omega) (h607) (CT_eq h610 h614.symm) (by rw [h614]; exact h612) (o613)
                · refine En_Ps 2 (pc' := 86) (lv' := [(0, .ref 3), (1, .ref a), (2, .int y47)]) (st' := [.ref a, .ref 3]) rfl ?_
                  refine En_callV rfl rfl rfl rfl rfl rfl rfl rfl tgz_3 (by decide +kernel) rfl (c_67x σ195 h196 a ha y48 h198 y50 h200 (by omega) h237 (by omega) hP (FXP_fr hP hX h197 (by decide +kernel)) h252) (by decide) (by decide) (fun v616 σ617 h615 => ?_)
                  obtain ⟨h618, h619, z621, h622, rfl, h620⟩ := h615
                  have h623 := h620.2.2.2.2.2
                  have h624 := Fr_trans h197 h619 (by decide +kernel)
                  have h625 := OTH_fr h214 h619 (by decide +kernel)
                  obtain ⟨S626, h627⟩ : ∃ q : PS, q = fLesson By Nb S235 := ⟨_, rfl⟩
                  have h628 : CT By Nb σ617 S626 := by rw [h627]; exact h623.1
                  have h629 := CT_k h628 h622
                  have h630 : Imp (S626.1 = 0) (KN σ617 a S626.2.2.2 (act S626.2.2.2)) := fun z => by rw [h627] at z ⊢; exact h623.2 z
                  have o631 : OUT σ0 σ617 a := OUT_tr h216 h620.1
                  refine En_Ps 1 (pc' := 199) (lv' := [(0, .ref 3), (1, .ref a), (2, .int y47)]) (st' := []) rfl ?_
                  have h632 : fL1 By Nb S235 = S626 := by rw [h627]; exact (fL1_1 (by omega)).trans (fNx_6 (by omega) (by omega))
                  exact keyj199 σ617 z621 y50 y49 h618 h624 h622 (by omega) (by omega) ((h619 _ _ (inW ha (by decide +kernel))).trans h200) (by omega) (by omega) ((h619 _ _ (inW ha (by decide +kernel))).trans h199) (by omega) (by omega) (by omega) (by omega) (h625) (CT_eq h628 h632.symm) (by rw [h632]; exact h630) (o631)
              · refine En_Ps 2 (pc' := 69) (lv' := [(0, .ref 3), (1, .ref a), (2, .int y47)]) (st' := [.ref a, .ref 3]) rfl ?_
                refine En_callV rfl rfl rfl rfl rfl rfl rfl rfl tgz_3 (by decide +kernel) rfl (c_63x σ195 h196 a ha y48 h198 y50 h200 (by omega) h237 (by omega) hP (FXP_fr hP hX h197 (by decide +kernel)) h252) (by decide) (by decide) (fun v634 σ635 h633 => ?_)
                obtain ⟨h636, h637, z639, h640, rfl, h638⟩ := h633
                have h641 := h638.2.2.2.2.2
                have h642 := Fr_trans h197 h637 (by decide +kernel)
                have h643 := OTH_fr h214 h637 (by decide +kernel)
                obtain ⟨S644, h645⟩ : ∃ q : PS, q = fDoor By Nb S235 := ⟨_, rfl⟩
                have h646 : CT By Nb σ635 S644 := by rw [h645]; exact h641.1
                have h647 := CT_k h646 h640
                have h648 : Imp (S644.1 = 0) (KN σ635 a S644.2.2.2 (act S644.2.2.2)) := fun z => by rw [h645] at z ⊢; exact h641.2 z
                have o649 : OUT σ0 σ635 a := OUT_tr h216 h638.1
                refine En_Ps 1 (pc' := 199) (lv' := [(0, .ref 3), (1, .ref a), (2, .int y47)]) (st' := []) rfl ?_
                have h650 : fL1 By Nb S235 = S644 := by rw [h645]; exact (fL1_1 (by omega)).trans (fNx_2 (by omega))
                exact keyj199 σ635 z639 y50 y49 h636 h642 h640 (by omega) (by omega) ((h637 _ _ (inW ha (by decide +kernel))).trans h200) (by omega) (by omega) ((h637 _ _ (inW ha (by decide +kernel))).trans h199) (by omega) (by omega) (by omega) (by omega) (h643) (CT_eq h646 h650.symm) (by rw [h650]; exact h648) (o649)
            · refine En_Ps 2 (pc' := 52) (lv' := [(0, .ref 3), (1, .ref a), (2, .int y47)]) (st' := [.ref a, .ref 3]) rfl ?_
              refine En_callV rfl rfl rfl rfl rfl rfl rfl rfl tgz_3 (by decide +kernel) rfl (c_65x σ195 h196 a ha y48 h198 h237 (by omega) hP (FXP_fr hP hX h197 (by decide +kernel)) h252) (by decide) (by decide) (fun v652 σ653 h651 => ?_)
              obtain ⟨h654, h655, z657, h658, z659, h660, rfl, h656⟩ := h651
              have h661 := h656.2.2.2.2.2.2.2.2
              have h662 := Fr_trans h197 h655 (by decide +kernel)
              have h663 := OTH_tr h214 h661.1
              obtain ⟨S664, h665⟩ : ∃ q : PS, q = fFirst By Nb S235 := ⟨_, rfl⟩
              have h666 : CT By Nb σ653 S664 := by rw [h665]; exact h661.2.1
              have h667 := CT_k h666 h658
              have h668 : Imp (S664.1 = 0) (KN σ653 a S664.2.2.2 (act S664.2.2.2)) := fun z => by rw [h665] at z ⊢; exact h661.2.2 z
              have o669 : OUT σ0 σ653 a := OUT_tr h216 h656.1
              refine En_Ps 1 (pc' := 199) (lv' := [(0, .ref 3), (1, .ref a), (2, .int y47)]) (st' := []) rfl ?_
              have h670 : fL1 By Nb S235 = S664 := by rw [h665]; exact fL1_0 (by omega)
              exact keyj199 σ653 z657 z659 y49 h654 h662 h658 (by omega) (by omega) h660 (by omega) (by omega) ((h655 _ _ (inW ha (by decide +kernel))).trans h199) (by omega) (by omega) (by omega) (by omega) (h663) (CT_eq h666 h670.symm) (by rw [h670]; exact h668) (o669)
  have := (by decide : (Int32.ofInt 0).toInt = 0)
  have := (by decide : (Int32.ofInt 0).toInt = 0)
  refine En_lv (lv := [(0, .ref 3), (1, .ref a), (2, .int ((Int32.ofInt 0)))]) ⟨rfl, rfl, rfl, trivial⟩ ?_
  exact key25 (Int.toNat (1601) + 1) σ38 ((Int32.ofInt 0)) ((Int32.ofInt 0)) z28 z30 h39 h43 ((h40 _ _ (inW tgz_3 (by decide +kernel))).trans ((h26 _ _ (inW tgz_3 (by decide +kernel))).trans ((h19 _ _ (Or.inr (by decide))).trans ((h12 _ _ (Or.inr (by decide))).trans h4)))) ((h40 _ _ (inW ha (by decide +kernel))).trans h29) ((h40 _ _ (inW ha (by decide +kernel))).trans h31) (by omega) (by omega) (by omega) (by omega) (by omega) (by omega) (by omega) (by omega) (by omega) (by omega) (by omega) (by omega) (by omega) (h44) (RLI_0 h42 (by decide) ((h40 _ _ (inW tgz_3 (by decide +kernel))).trans ((h26 _ _ (inW tgz_3 (by decide +kernel))).trans ((h19 _ _ (Or.inr (by decide))).trans ((h12 _ _ (Or.inr (by decide))).trans h4)))) (by decide) ((h40 _ _ (inW tgz_3 (by decide +kernel))).trans ((h26 _ _ (inW tgz_3 (by decide +kernel))).trans ((h19 _ _ (Or.inr (by decide))).trans h11))) (by decide) h45 (by decide)) (o46)
/-- DoorSchool$Rules.deedsOf(II)I -/
abbrev P_77ax (σ0 : SG) (a : Int32) (b : Int32) (kk : Int32) : PO := fun v σ => WT σ ∧ Fr [] σ0 σ ∧ ∃ ret : Int32, v = some (.int ret) ∧ -ret.toInt ≤ 0 ∧ ret.toInt - 65535 ≤ 0 ∧ ret.toInt = DOf a.toInt b.toInt kk.toInt.toNat
set_option maxRecDepth 10000 in
set_option maxHeartbeats 4000000 in
theorem c_77ax (σ0 : SG) (hσ0 : WT σ0) (a : Int32) (b : Int32) (hl_a : 0 ≤ a.toInt) (hu_a : a.toInt ≤ 15) (kk : Int32) (h_kk : (σ0 4)[0]? = some (.int kk)) : En 0 0 none mr_77 (P_77ax σ0 a b kk) 0 [(0, .ref 4), (1, .int a), (2, .int b)] [] σ0 := by
  obtain ⟨hl_kk, hu_kk⟩ := WT_int hσ0 (g := 4) (by decide +kernel) (by decide +kernel) (l := 0) (u := 16) (by decide +kernel) h_kk
  have hF0 : Fr [] σ0 σ0 := Fr_rfl
  refine En_Ps 4 (pc' := 5) (lv' := [(4, .int ((Int32.ofInt 0))), (3, .int ((Int32.ofInt 0))), (0, .ref 4), (1, .int a), (2, .int b)]) (st' := []) rfl ?_
  have key5 : ∀ (n5 : Nat) (y1 : Int32) (y2 : Int32), 0 ≤ y1.toInt → y1.toInt ≤ 65535 → 0 ≤ y2.toInt → y2.toInt ≤ 16 → y2.toInt - kk.toInt ≤ 0 → kk.toInt - y2.toInt < (n5 : Int) → y1.toInt = DOf a.toInt b.toInt (y2.toInt).toNat → En 0 0 none mr_77 (P_77ax σ0 a b kk) 5 [(0, .ref 4), (1, .int a), (2, .int b), (3, .int y1), (4, .int y2)] [] σ0 := by
    intro n5
    induction n5 with
    | zero =>
      intro y1 y2 h6 h7 h8 h9 h10 h11 h12
      exfalso; omega
    | succ n5 ih5 =>
      intro y1 y2 h6 h7 h8 h9 h10 h11 h12
      refine En_Ps 2 (pc' := 8) (lv' := [(0, .ref 4), (1, .int a), (2, .int b), (3, .int y1), (4, .int y2)]) (st' := [.ref 4, .int y2]) rfl ?_
      refine En_getK (j := 0) h_kk rfl rfl rfl tgz_4 (by decide +kernel) ?_
      refine En_icGe _ rfl rfl rfl (fun h13 => ?_) (fun h13 => ?_)
      · refine En_Ps 1 (pc' := 36) (lv' := [(0, .ref 4), (1, .int a), (2, .int b), (3, .int y1), (4, .int y2)]) (st' := [.int y1]) rfl ?_
        exact En_ret (v := some (.int y1)) rfl rfl rfl ⟨hσ0, hF0, y1, rfl, ⟨by omega, by omega, DOf_e h12 (by omega) (by omega)⟩⟩
      · refine En_Ps 3 (pc' := 18) (lv' := [(0, .ref 4), (1, .int a), (2, .int b), (3, .int y1), (4, .int y2)]) (st' := [.int ((y2 &&& a))]) rfl ?_
        refine En_nam (fun z14 h15 => ?_)
        have h16 : z14.toInt = aN y2.toInt a.toInt := and_v h15 rfl rfl (by omega) (by omega)
        have := aN_le (X := y2.toInt) (Y := a.toInt) (by omega) (by omega)
        refine En_Ps 1 (pc' := 19) (lv' := [(0, .ref 4), (1, .int a), (2, .int b), (3, .int y1), (4, .int y2)]) (st' := [.int b, .int z14]) rfl ?_
        refine En_icNe _ rfl rfl rfl (fun h17 => ?_) (fun h17 => ?_)
        · refine En_Ps 1 (pc' := 32) (lv' := [(4, .int ((y2 + Int32.ofInt 1))), (0, .ref 4), (1, .int a), (2, .int b), (3, .int y1)]) (st' := []) rfl ?_
          refine En_lv1 (addI rfl (by decide : (Int32.ofInt 1).toInt = 1) (by omega) (by omega)) (fun z18 h19 => ?_)
          refine En_Ps 1 (pc' := 5) (lv' := [(4, .int z18), (0, .ref 4), (1, .int a), (2, .int b), (3, .int y1)]) (st' := []) rfl ?_
          refine En_lv (lv := [(0, .ref 4), (1, .int a), (2, .int b), (3, .int y1), (4, .int z18)]) ⟨rfl, rfl, rfl, rfl, rfl, trivial⟩ ?_
          exact ih5 y1 z18 (by omega) (by omega) (by omega) (by omega) (by omega) (by omega) (DOf_n (by omega) h12 (by omega) (by omega) (by omega))
        · refine En_Ps 4 (pc' := 27) (lv' := [(0, .ref 4), (1, .int a), (2, .int b), (3, .int y1), (4, .int y2)]) (st' := [.int ((((Int32.ofInt 1)) <<< (y2 &&& 31))), .int y1]) rfl ?_
          refine En_nam (fun z20 h21 => ?_)
          have h22 : z20.toInt = pI y2.toInt := shl_v h21 rfl (by omega) (by omega)
          have := pI_pos y2.toInt
          have : pI y2.toInt ≤ 32768 := pI_mono (Y := 15) (by omega)
          refine En_Ps 1 (pc' := 28) (lv' := [(0, .ref 4), (1, .int a), (2, .int b), (3, .int y1), (4, .int y2)]) (st' := [.int ((y1 ||| z20))]) rfl ?_
          refine En_nam (fun z23 h24 => ?_)
          have h25 : z23.toInt = oN y1.toInt z20.toInt := or_v h24 rfl rfl (by omega) (by omega)
          have := oN_lt (X := y1.toInt) (Y := z20.toInt) 16 (by omega) (by omega) (Int.lt_of_le_of_lt (by omega : _ ≤ (65535 : Int)) (by decide)) (Int.lt_of_le_of_lt (by omega : _ ≤ (65535 : Int)) (by decide))
          have two16 : ((2 ^ 16 : Nat) : Int) = 65536 := by decide
          refine En_Ps 2 (pc' := 32) (lv' := [(4, .int ((y2 + Int32.ofInt 1))), (3, .int z23), (0, .ref 4), (1, .int a), (2, .int b)]) (st' := []) rfl ?_
          refine En_lv1 (addI rfl (by decide : (Int32.ofInt 1).toInt = 1) (by omega) (by omega)) (fun z26 h27 => ?_)
          refine En_Ps 1 (pc' := 5) (lv' := [(4, .int z26), (3, .int z23), (0, .ref 4), (1, .int a), (2, .int b)]) (st' := []) rfl ?_
          refine En_lv (lv := [(0, .ref 4), (1, .int a), (2, .int b), (3, .int z23), (4, .int z26)]) ⟨rfl, rfl, rfl, rfl, rfl, trivial⟩ ?_
          exact ih5 z23 z26 (by omega) (by omega) (by omega) (by omega) (by omega) (by omega) ((by first | exact DOf_y (q := z20.toInt) (by omega) h12 (by omega) (by omega) (by omega) (by omega) | exact DOf_z (q := z20.toInt) (by omega) h12 (by omega) (by omega) (by omega) (by omega) (by omega)))
  have := (by decide : (Int32.ofInt 0).toInt = 0)
  have := (by decide : (Int32.ofInt 0).toInt = 0)
  refine En_lv (lv := [(0, .ref 4), (1, .int a), (2, .int b), (3, .int ((Int32.ofInt 0))), (4, .int ((Int32.ofInt 0)))]) ⟨rfl, rfl, rfl, rfl, rfl, trivial⟩ ?_
  exact key5 (Int.toNat (kk.toInt) + 1) ((Int32.ofInt 0)) ((Int32.ofInt 0)) (by omega) (by omega) (by omega) (by omega) (by omega) (by omega) (DOf_0 (by omega) (by omega))
/-- DoorSchool$Rules.addAllOf(I)V -/
abbrev P_76x (σ0 : SG) (n : Int) (a : Int32) (kk : Int32) (sz : Int32) : PO := fun v σ => WT σ ∧ Fr [(4, 1), (5, 0), (6, 0), (7, 0)] σ0 σ ∧ ∃ sz1 : Int32, (σ 4)[1]? = some (.int sz1) ∧ v = none ∧ -sz1.toInt ≤ 0 ∧ sz1.toInt - 81 ≤ 0 ∧ sz1.toInt - sz.toInt - 16 ≤ 0 ∧ (RN kk.toInt n (a.toInt + 1) sz1.toInt ∧ TB σ 5 6 7 kk.toInt sz1.toInt)
set_option maxRecDepth 10000 in
set_option maxHeartbeats 4000000 in
theorem c_76x {n : Int} (σ0 : SG) (hσ0 : WT σ0) (a : Int32) (hl_a : 0 ≤ a.toInt) (hu_a : a.toInt ≤ 15) (kk : Int32) (h_kk : (σ0 4)[0]? = some (.int kk)) (sz : Int32) (h_sz : (σ0 4)[1]? = some (.int sz)) (hN : RN kk.toInt n a.toInt sz.toInt) (hm : a.toInt < kk.toInt) (hb : bcI a.toInt = n) (hT : TB σ0 5 6 7 kk.toInt sz.toInt) (hK : P2 kk.toInt) : En 1 24 none mr_76 (P_76x σ0 n a kk sz) 0 [(0, .ref 4), (1, .int a)] [] σ0 := by
  obtain ⟨hl_kk, hu_kk⟩ := WT_int hσ0 (g := 4) (by decide +kernel) (by decide +kernel) (l := 0) (u := 16) (by decide +kernel) h_kk
  obtain ⟨hl_sz, hu_sz⟩ := WT_int hσ0 (g := 4) (by decide +kernel) (by decide +kernel) (l := 0) (u := 81) (by decide +kernel) h_sz
  have hF0 : Fr [(4, 1), (5, 0), (6, 0), (7, 0)] σ0 σ0 := Fr_rfl
  refine En_Ps 2 (pc' := 2) (lv' := [(2, .int ((Int32.ofInt 0))), (0, .ref 4), (1, .int a)]) (st' := []) rfl ?_
  have key2 : ∀ (n2 : Nat) (σ3 : SG) (y1 : Int32) (y2 : Int32), WT σ3 → Fr [(4, 1), (5, 0), (6, 0), (7, 0)] σ0 σ3 → (σ3 4)[0]? = some (.int kk) → (σ3 4)[1]? = some (.int y2) → 0 ≤ y1.toInt → y1.toInt ≤ 16 → 0 ≤ y2.toInt → y2.toInt ≤ 81 → y1.toInt - a.toInt - 1 ≤ 0 → -sz.toInt - y1.toInt + y2.toInt ≤ 0 → -y1.toInt + 16 < (n2 : Int) → RV kk.toInt n a.toInt y1.toInt y2.toInt → TB σ3 5 6 7 kk.toInt y2.toInt → En 1 24 none mr_76 (P_76x σ0 n a kk sz) 2 [(0, .ref 4), (1, .int a), (2, .int y1)] [] σ3 := by
    intro n2
    induction n2 with
    | zero =>
      intro σ3 y1 y2 h4 h5 h6 h7 h8 h9 h10 h11 h12 h13 h14 h15 h16
      exfalso; omega
    | succ n2 ih2 =>
      intro σ3 y1 y2 h4 h5 h6 h7 h8 h9 h10 h11 h12 h13 h14 h15 h16
      refine En_Ps 2 (pc' := 4) (lv' := [(0, .ref 4), (1, .int a), (2, .int y1)]) (st' := [.int a, .int y1]) rfl ?_
      refine En_icGt _ rfl rfl rfl (fun h17 => ?_) (fun h17 => ?_)
      · exact En_ret (v := none) rfl rfl rfl ⟨h4, h5, y2, h7, rfl, ⟨by omega, by omega, by omega, ⟨RN_x h15 (by omega) rfl rfl (by omega), TB_eq h16 (by omega)⟩⟩⟩
      · refine En_Ps 1 (pc' := 8) (lv' := [(0, .ref 4), (1, .int a), (2, .int y1)]) (st' := [.ref 4]) rfl ?_
        refine En_getK (j := 1) h7 rfl rfl rfl tgz_4 (by decide +kernel) ?_
        have h18 := RV_le h15 (by omega)
        refine En_Ps 1 (pc' := 13) (lv' := [(0, .ref 4), (1, .int a), (2, .int y1)]) (st' := [.int (((Int8.ofInt 81).toInt32)), .int y2]) rfl ?_
        refine En_icGe _ rfl (by decide : ((Int8.ofInt 81).toInt32).toInt = 81) rfl (fun hx => by exfalso; omega) (fun h19 => ?_)
        refine En_Ps 4 (pc' := 20) (lv' := [(0, .ref 4), (1, .int a), (2, .int y1)]) (st' := [.int ((a ^^^ ((Int32.ofInt (-1))))), .int y1]) rfl ?_
        refine En_nam (fun z20 h21 => ?_)
        refine En_Ps 1 (pc' := 21) (lv' := [(0, .ref 4), (1, .int a), (2, .int y1)]) (st' := [.int ((y1 &&& z20))]) rfl ?_
        refine En_nam (fun z22 h23 => ?_)
        obtain ⟨h24, h25⟩ := andn_rng h23 rfl (by omega) (by omega : _ ≤ (15 : Int))
        refine En_iNe _ rfl rfl (fun h26 => ?_) (fun h26 => ?_)
        · have := sub_sb h23 h21 rfl rfl (by omega) (by omega) (by omega) (by omega)
          refine En_Ps 1 (pc' := 72) (lv' := [(2, .int ((y1 + Int32.ofInt 1))), (0, .ref 4), (1, .int a)]) (st' := []) rfl ?_
          refine En_lv1 (addI rfl (by decide : (Int32.ofInt 1).toInt = 1) (by omega) (by omega)) (fun z27 h28 => ?_)
          refine En_Ps 1 (pc' := 2) (lv' := [(2, .int z27), (0, .ref 4), (1, .int a)]) (st' := []) rfl ?_
          refine En_lv (lv := [(0, .ref 4), (1, .int a), (2, .int z27)]) ⟨rfl, rfl, rfl, trivial⟩ ?_
          exact ih2 σ3 z27 y2 h4 h5 h6 h7 (by omega) (by omega) (by omega) (by omega) (by omega) (by omega) (by omega) (RV_not h15 (by omega) (by omega) rfl rfl (by omega) (by omega)) (TB_eq h16 (by omega))
        · obtain ⟨h29, h30⟩ := andn_zero h23 h21 h26 rfl rfl (by omega)
          have := sub_sb h23 h21 rfl rfl (by omega) (by omega) (by omega) (by omega)
          refine En_Ps 1 (pc' := 25) (lv' := [(0, .ref 4), (1, .int a), (2, .int y1)]) (st' := [.ref 4]) rfl ?_
          refine En_getU (j := 2) (u := 5) (g' := 5) (q := 0) rfl rfl rfl tgz_4 (by decide +kernel) h4 (by decide +kernel) (by decide +kernel) (fun h31 => ?_)
          refine En_Ps 1 (pc' := 29) (lv' := [(0, .ref 4), (1, .int a), (2, .int y1)]) (st' := [.ref 4, .ref 5]) rfl ?_
          refine En_getK (j := 1) h7 rfl rfl rfl tgz_4 (by decide +kernel) ?_
          refine En_Ps 1 (pc' := 33) (lv' := [(0, .ref 4), (1, .int a), (2, .int y1)]) (st' := [.int a, .int y2, .ref 5]) rfl ?_
          refine En_iast (l := 0) (u := 15) rfl rfl tgz_5 (by decide +kernel) (by omega) (lnI (by decide +kernel : LN _ = 81) (by omega)) (FTsgl (by decide +kernel)) (rngI rfl (by omega) (by omega)) h4 h5 (by decide +kernel) (fun σ33 h34 h35 h36 h37 => ?_)
          refine En_Ps 1 (pc' := 35) (lv' := [(0, .ref 4), (1, .int a), (2, .int y1)]) (st' := [.ref 4]) rfl ?_
          refine En_getU (j := 3) (u := 6) (g' := 6) (q := 0) rfl rfl rfl tgz_4 (by decide +kernel) h34 (by decide +kernel) (by decide +kernel) (fun h38 => ?_)
          refine En_Ps 1 (pc' := 39) (lv' := [(0, .ref 4), (1, .int a), (2, .int y1)]) (st' := [.ref 4, .ref 6]) rfl ?_
          refine En_getK (j := 1) ((h37 _ _ (Or.inl (neTG tgz_4 tgz_5 (by decide)))).trans h7) rfl rfl rfl tgz_4 (by decide +kernel) ?_
          refine En_Ps 1 (pc' := 43) (lv' := [(0, .ref 4), (1, .int a), (2, .int y1)]) (st' := [.int y1, .int y2, .ref 6]) rfl ?_
          refine En_iast (l := 0) (u := 15) rfl rfl tgz_6 (by decide +kernel) (by omega) (lnI (by decide +kernel : LN _ = 81) (by omega)) (FTsgl (by decide +kernel)) (rngI rfl (by omega) (by omega)) h34 h35 (by decide +kernel) (fun σ40 h41 h42 h43 h44 => ?_)
          refine En_Ps 1 (pc' := 45) (lv' := [(0, .ref 4), (1, .int a), (2, .int y1)]) (st' := [.ref 4]) rfl ?_
          refine En_getU (j := 4) (u := 7) (g' := 7) (q := 0) rfl rfl rfl tgz_4 (by decide +kernel) h41 (by decide +kernel) (by decide +kernel) (fun h45 => ?_)
          refine En_Ps 1 (pc' := 49) (lv' := [(0, .ref 4), (1, .int a), (2, .int y1)]) (st' := [.ref 4, .ref 7]) rfl ?_
          refine En_getK (j := 1) ((h44 _ _ (Or.inl (neTG tgz_4 tgz_6 (by decide)))).trans ((h37 _ _ (Or.inl (neTG tgz_4 tgz_5 (by decide)))).trans h7)) rfl rfl rfl tgz_4 (by decide +kernel) ?_
          refine En_Ps 3 (pc' := 55) (lv' := [(0, .ref 4), (1, .int a), (2, .int y1)]) (st' := [.int y1, .int a, .ref 4, .int y2, .ref 7]) rfl ?_
          refine En_callV rfl rfl rfl rfl rfl rfl rfl rfl tgz_4 (by decide +kernel) rfl (c_77ax σ40 h41 a y1 (geI rfl (by omega)) (leI rfl (by omega)) kk ((h44 _ _ (Or.inl (neTG tgz_4 tgz_6 (by decide)))).trans ((h37 _ _ (Or.inl (neTG tgz_4 tgz_5 (by decide)))).trans h6))) (by decide) (by decide) (fun v48 σ49 h47 => ?_)
          obtain ⟨h50, h51, z53, rfl, h52⟩ := h47
          have h54 := h52.2.2
          obtain rfl : σ40 = σ49 := Fr_nil h51
          refine En_iast (l := (-2147483648)) (u := 2147483647) rfl rfl tgz_7 (by decide +kernel) (by omega) (lnI (by decide +kernel : LN _ = 81) (by omega)) (FTsgl (by decide +kernel)) (fullI _) h41 h42 (by decide +kernel) (fun σ55 h56 h57 h58 h59 => ?_)
          refine En_Ps 2 (pc' := 61) (lv' := [(0, .ref 4), (1, .int a), (2, .int y1)]) (st' := [.ref 4, .ref 4]) rfl ?_
          refine En_getK (j := 1) ((h59 _ _ (Or.inl (neTG tgz_4 tgz_7 (by decide)))).trans ((h44 _ _ (Or.inl (neTG tgz_4 tgz_6 (by decide)))).trans ((h37 _ _ (Or.inl (neTG tgz_4 tgz_5 (by decide)))).trans h7))) rfl rfl rfl tgz_4 (by decide +kernel) ?_
          refine En_Ps 2 (pc' := 66) (lv' := [(0, .ref 4), (1, .int a), (2, .int y1)]) (st' := [.int ((y2 + ((Int32.ofInt 1)))), .ref 4]) rfl ?_
          refine En_top (addI rfl (by decide : (Int32.ofInt 1).toInt = 1) (by omega) (by omega)) (fun z60 h61 => ?_)
          refine En_put (j := 1) rfl rfl rfl tgz_4 (by decide +kernel) rfl (vI (l := 0) (u := 81) (by decide +kernel) rfl (by omega) (by omega)) h56 h57 (by decide +kernel) (fun σ62 h63 h64 h65 h66 => ?_)
          refine En_Ps 1 (pc' := 72) (lv' := [(2, .int ((y1 + Int32.ofInt 1))), (0, .ref 4), (1, .int a)]) (st' := []) rfl ?_
          refine En_lv1 (addI rfl (by decide : (Int32.ofInt 1).toInt = 1) (by omega) (by omega)) (fun z67 h68 => ?_)
          refine En_Ps 1 (pc' := 2) (lv' := [(2, .int z67), (0, .ref 4), (1, .int a)]) (st' := []) rfl ?_
          refine En_lv (lv := [(0, .ref 4), (1, .int a), (2, .int z67)]) ⟨rfl, rfl, rfl, trivial⟩ ?_
          exact ih2 σ62 z67 z60 h63 h64 ((h66 _ _ (Or.inr (by decide))).trans ((h59 _ _ (Or.inl (neTG tgz_4 tgz_7 (by decide)))).trans ((h44 _ _ (Or.inl (neTG tgz_4 tgz_6 (by decide)))).trans ((h37 _ _ (Or.inl (neTG tgz_4 tgz_5 (by decide)))).trans h6)))) h65 (by omega) (by omega) (by omega) (by omega) (by omega) (by omega) (by omega) (RV_put h15 (by omega) (by omega) rfl rfl (by omega) (by omega)) (TB_ne (TB_put h16 hK h15 (by omega) (by omega) h36 h37 h43 h44 h58 h59 (by decide) (by decide) (by decide) (by omega) (by omega) (by omega) (by omega) (by omega) (by omega) (by omega) (by omega)) h66 (by decide) (by decide) (by decide))
  have := (by decide : (Int32.ofInt 0).toInt = 0)
  refine En_lv (lv := [(0, .ref 4), (1, .int a), (2, .int ((Int32.ofInt 0)))]) ⟨rfl, rfl, rfl, trivial⟩ ?_
  exact key2 (Int.toNat (16) + 1) σ0 ((Int32.ofInt 0)) sz hσ0 hF0 h_kk h_sz (by omega) (by omega) (by omega) (by omega) (by omega) (by omega) (by omega) (RV_in hN hm hb rfl rfl (by omega) (by omega)) (hT)

