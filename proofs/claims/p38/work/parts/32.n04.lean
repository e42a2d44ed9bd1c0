/-! 32.n04 -/
section
/-- DoorSchool$Reader.readSaid(LDoorSchool$Plan;LDoorSchool$Lessons;)V -/
abbrev P_69x (σ0 : SG) (By : Int → Int) (Nb : Int) (Sp : PS) (ix : Int) (jx : Int) (a : Nat) (b : Nat) (f : Int32) (sg : Int32) : PO := fun v σ => WT σ ∧ Fr [(3, 1), (3, 2), (3, 3), (3, 4), (3, 5), (3, 6), (20, 2), (21, 0), (22, 0)] σ0 σ ∧ ∃ f1 : Int32, (σ 3)[5]? = some (Value.int f1) ∧ v = none ∧ OUT σ0 σ a ∧ -f1.toInt ≤ 0 ∧ f1.toInt - 3 ≤ 0 ∧ -f1.toInt + f.toInt ≤ 0 ∧ f.toInt - f1.toInt ≤ 0 ∧ (CT By Nb σ (fSaid By Nb ix jx Sp) ∧ ((fSaid By Nb ix jx Sp).1 = 0 → KN σ a (fSaid By Nb ix jx Sp).2.2.2 (fun t => ((act Sp.2.2.2 t ∨ t = ix) ∨ t = ix + 1) ∨ t = jx)))
set_option maxRecDepth 10000 in
set_option maxHeartbeats 4000000 in
theorem c_69x {By : Int → Int} {Nb : Int} {Sp : PS} {ix : Int} {jx : Int} (σ0 : SG) (hσ0 : WT σ0) (a : Nat) (ha : TG a = 18) (b : Nat) (hb : TG b = 20) (f : Int32) (h_f : (σ0 3)[5]? = some (Value.int f)) (sg : Int32) (h_sg : (σ0 a)[1]? = some (Value.int sg)) (hp0 : -sg.toInt ≤ 0) (hC : CT By Nb σ0 Sp) (hg : Sp.1 = 0) (hP : PLA a) (hX : FXP σ0 a) (hK : KN σ0 a Sp.2.2.2 (act Sp.2.2.2)) (hL : LSN σ0 a b Sp.2.2.2 ix jx) : En 5 112 none mr_69 (P_69x σ0 By Nb Sp ix jx a b f sg) 0 [(0, .ref 3), (1, .ref a), (2, .ref b)] [] σ0 := by
  obtain ⟨hl_f, hu_f⟩ := WT_int hσ0 (g := 3) (by decide +kernel) (by decide +kernel) (l := 0) (u := 3) (by decide +kernel) h_f
  obtain ⟨hl_sg, hu_sg⟩ := WT_int hσ0 (g := 18) ha (by decide +kernel) (l := (-1)) (u := 4) (by decide +kernel) h_sg
  have hF0 : Fr [(3, 1), (3, 2), (3, 3), (3, 4), (3, 5), (3, 6), (20, 2), (21, 0), (22, 0)] σ0 σ0 := Fr_rfl
  have h1 := CT_k hC h_f
  have h2 : Sp.2.2.2 0 = sg.toInt := KN_v hK (Or.inl (by decide)) (by decide) (by decide) (by rw [lcO_lt (by decide) (by decide), Nat.add_zero]) rfl h_sg
  have h3 : pI (Sp.2.2.2 0) = pI (sg.toInt) := by rw [h2]
  obtain ⟨L1, L2, L3, L4, L5, L6, L7, L8, L9, L10, L11, L12, L13, L14, L15⟩ := id hL
  obtain ⟨a5, h4, ha5⟩ := WT_peekR (g := 20) (j := 0) (g' := 21) (u := 0) hσ0 hb (by decide +kernel) (by decide +kernel)
  obtain ⟨a7, h6, ha7⟩ := WT_peekR (g := 20) (j := 1) (g' := 22) (u := 0) hσ0 hb (by decide +kernel) (by decide +kernel)
  obtain ⟨z9, h8, h10, h11⟩ := WT_peekI hσ0 hb (by decide +kernel : FT 20 2 = (0, 0, 13)) (by decide +kernel)
  have h12 : a5 = b + 1 := ref_uniq h4 L12
  have h13 : a7 = b + 2 := ref_uniq h6 L13
  have h14 : Sp.2.2.2 jx = z9.toInt := KN_v hK L11 L9 L10 L1 (by rw [L2]; rfl) h8
  have := lc_0 L9 L10
  have := lc_0 (i := ix + 1) (by (first | exact q_21ba782535 L7 | omega)) L8
  have := lc_0 (i := ix) (by (first | exact q_58e6e51dcc L7 | omega)) (by (first | exact q_446a9db195 L8 | omega))
  refine En_Ps 3 (pc' := 3) (lv' := [(0, .ref 3), (1, .ref a), (2, .ref b)]) (st' := [.ref a, .int ((Int32.ofInt 0)), .ref 3]) rfl ?_
  refine En_callV rfl rfl rfl rfl rfl rfl rfl rfl ha (by decide +kernel) rfl (c_51x σ0 hσ0 a ha sg h_sg (by first | exact q_a555021d16 hp0 | omega)) (by decide) (by decide) (fun v16 σ17 h15 => ?_)
  obtain ⟨h18, h19, z21, rfl, h20⟩ := h15
  have h22 := h20.2.2
  obtain rfl : σ0 = σ17 := Fr_nil h19
  have h23 := h22
  have h24 : pI (Sp.2.2.2 0) = z21.toInt := by rw [(rfl : Sp.2.2.2 = Sp.2.2.2)]; (first | exact q_eed4cd1e4b h23 h3 | omega)
  refine En_Ps 2 (pc' := 8) (lv' := [(0, .ref 3), (1, .ref a), (2, .ref b)]) (st' := [.int ((z21 - ((Int32.ofInt 1)))), .int ((Int32.ofInt 0)), .ref 3]) rfl ?_
  refine En_top (subI rfl (by decide : (Int32.ofInt 1).toInt = 1) (by first | exact q_ead043ab48 h20.1 | omega) (by first | exact q_9b40fa289d h20.2.1 | omega)) (fun z25 h26 => ?_)
  have := (by decide : ((Int32.ofInt 0)).toInt = 0)
  refine En_callV rfl rfl rfl rfl rfl rfl rfl rfl tgz_3 (by decide +kernel) rfl (c_73x σ0 hσ0 ((Int32.ofInt 0)) z25 f h_f hC) (by decide) (by decide) (fun v28 σ29 h27 => ?_)
  obtain ⟨h30, h31, z33, h34, z35, rfl, h32⟩ := h27
  have h36 := h32.2.2.2.2.2.2.2.2.2
  have h37 := Fr_trans hF0 h31 (by decide +kernel)
  have h38 : tN By Nb ((Int32.ofInt 0)).toInt z25.toInt Sp = tN By Nb (0) (pI (Sp.2.2.2 0) - 1) Sp := tN_cg2 (fun zz => by (first | exact q_d2dcd30e56 this | omega)) (fun zz => by (first | exact q_171d7b85d9 h26 h24 | omega))
  obtain ⟨S39, h40⟩ : ∃ q : PS, q = tN By Nb (0) (pI (Sp.2.2.2 0) - 1) Sp := ⟨_, rfl⟩
  have h41 : CT By Nb σ29 S39 := by rw [h40]; exact (CT_eq h36.1 h38)
  have h42 := CT_k h41 h34
  have h43 : Imp (S39.1 = 0) (z35.toInt = tV By Nb Sp.2.2.1) := fun z => Imp_m h36.2 (by rw [h38, ← h40]; exact z)
  have h44 : Imp (S39.1 = 0) (Sp.1 = 0 ∧ tK By Nb Sp.2.2.1 = 2 ∧ 0 ≤ tV By Nb Sp.2.2.1 ∧ tV By Nb Sp.2.2.1 ≤ pI (Sp.2.2.2 0) - 1) := fun z => tN_gg (by rw [← h40]; exact z)
  have h45 : S39.2.2.2 = Sp.2.2.2 := by rw [h40]; exact tN_w
  have h46 := KN_fr hP hK h31 (by decide +kernel)
  have h47 : S39.2.2.2 = Sp.2.2.2 := h45.trans (rfl : Sp.2.2.2 = Sp.2.2.2)
  have o48 : OUT σ0 σ29 a := OUT_fr OUT_0 h31 (by decide +kernel)
  have h49 := Imp_m h32.2.2.2.2.2.2.2.1 (by first | exact q_81610a3c5e h26 h20.1 | omega)
  have h50 := Imp_m h32.2.2.2.2.2.2.2.2.1 (by (first | exact q_83da3d7e14 this | omega))
  refine En_Ps 1 (pc' := 12) (lv' := [(3, .int z35), (0, .ref 3), (1, .ref a), (2, .ref b)]) (st' := []) rfl ?_
  refine En_Ps 1 (pc' := 13) (lv' := [(3, .int z35), (0, .ref 3), (1, .ref a), (2, .ref b)]) (st' := [.ref 3]) rfl ?_
  refine En_ldcS (i := 8) rfl rfl rfl ?_
  refine En_callV rfl rfl rfl rfl rfl rfl rfl rfl tgz_3 (by decide +kernel) rfl (c_71s8x σ29 h30 h41) (by decide) (by decide) (fun v52 σ53 h51 => ?_)
  obtain ⟨h54, h55, z57, rfl, h56⟩ := h51
  have h58 := h56.2.2
  obtain rfl : σ29 = σ53 := Fr_nil h55
  have h59 := h58
  refine En_iEq _ rfl rfl (fun h60 => ?_) (fun h60 => ?_)
  · refine En_Ps 5 (pc' := 32) (lv' := [(4, .int ((Int32.ofInt 0))), (3, .int z35), (0, .ref 3), (1, .ref a), (2, .ref b)]) (st' := [.int ((Int32.ofInt 1)), .int ((Int32.ofInt 0)), .ref 3]) rfl ?_
    refine En_icEq _ (by decide : (Int32.ofInt 0).toInt = 0) (by decide : (Int32.ofInt 1).toInt = 1) rfl (fun hx => by exfalso; have := Imp_m h32.2.2.2.2.2.1 (by omega); have := Imp_m h32.2.2.2.2.2.2.1 (by omega); omega) (fun h61 => ?_)
    refine En_Ps 1 (pc' := 36) (lv' := [(4, .int ((Int32.ofInt 0))), (3, .int z35), (0, .ref 3), (1, .ref a), (2, .ref b)]) (st' := [.ref 3, .ref 3]) rfl ?_
    refine En_ldcS (i := 12) rfl rfl rfl ?_
    refine En_callV rfl rfl rfl rfl rfl rfl rfl rfl tgz_3 (by decide +kernel) rfl (c_71s12x σ29 h30 h41) (by decide) (by decide) (fun v63 σ64 h62 => ?_)
    obtain ⟨h65, h66, z68, rfl, h67⟩ := h62
    have h69 := h67.2.2
    obtain rfl : σ29 = σ64 := Fr_nil h66
    have h70 := h69
    refine En_iEq _ rfl rfl (fun h71 => ?_) (fun h71 => ?_)
    · refine En_Ps 1 (pc' := 49) (lv' := [(4, .int ((Int32.ofInt 0))), (3, .int z35), (0, .ref 3), (1, .ref a), (2, .ref b)]) (st' := [.int ((Int32.ofInt 0)), .ref 3]) rfl ?_
      have := (by decide : ((Int32.ofInt 0)).toInt = 0)
      refine En_callV rfl rfl rfl rfl rfl rfl rfl rfl tgz_3 (by decide +kernel) rfl (c_59x σ29 h30 ((Int32.ofInt 0)) (geI (by decide : (Int32.ofInt 0).toInt = 0) (by decide)) (leI (by decide : (Int32.ofInt 0).toInt = 0) (by decide)) z33 h34 h41) (by decide) (by decide) (fun v73 σ74 h72 => ?_)
      obtain ⟨h75, h76, z78, h79, rfl, h77⟩ := h72
      have h80 := h77.2.2.2.2.2.2
      have h81 := Fr_trans h37 h76 (by decide +kernel)
      have h82 : pss By Nb ((Int32.ofInt 0)).toInt S39 = dD By Nb S39 := dDc (fun zz => by (try have i0 := Imp_m h70 (by (first | exact q_d2dcd30e56 zz | omega))); (try have i1 := Imp_m h59 (by (first | exact q_d2dcd30e56 zz | omega))); (try have i2 := Imp_m h44 (by (first | exact q_d2dcd30e56 zz | omega))); (try have i3 := Imp_m h43 (by (first | exact q_d2dcd30e56 zz | omega))); (try have i4 := Imp_m h32.2.2.2.2.2.1 (by (first | exact q_d8d8e6600d h42 zz | omega))); (try have i5 := Imp_m h32.2.2.2.2.2.2.1 (by omega)); (first | exact q_68acc5401a i4.1 this i5.1 | omega))
      obtain ⟨S83, h84⟩ : ∃ q : PS, q = dD By Nb S39 := ⟨_, rfl⟩
      have h85 : CT By Nb σ74 S83 := by rw [h84]; exact (CT_eq h80 h82)
      have h86 := CT_k h85 h79
      have h87 : S83.2.2.2 = S39.2.2.2 := by rw [h84]; exact pss_w
      have h88 : Imp (S83.1 = 0) (S39.1 = 0) := fun z => (pss_g (by rw [h82, ← h84]; exact z)).1
      have h89 : Imp (S83.1 = 0) (((Int32.ofInt 0)).toInt = 1) := fun z => (pss_g (by rw [h82, ← h84]; exact z)).2.1
      have h90 := KN_fr hP h46 h76 (by decide +kernel)
      have h91 : S83.2.2.2 = Sp.2.2.2 := h87.trans h47
      have o92 : OUT σ0 σ74 a := OUT_fr o48 h76 (by decide +kernel)
      have h93 := Imp_m h77.2.2.2.2.2.1 (by (first | exact q_c5d285f1b9 this | omega))
      refine En_Ps 1 (pc' := 53) (lv' := [(4, .int ((Int32.ofInt 0))), (3, .int z35), (0, .ref 3), (1, .ref a), (2, .ref b)]) (st' := [.ref 3]) rfl ?_
      refine En_getK (j := 5) h79 rfl rfl rfl tgz_3 (by decide +kernel) ?_
      refine En_iNe _ rfl rfl (fun h94 => ?_) (fun hx => by exfalso; have := Imp_m h32.2.2.2.2.2.1 (by (first | exact q_e3adf33a46 h93 hx | omega)); have := Imp_m h32.2.2.2.2.2.2.1 (by (first | exact q_f4f2768de0 h93 hx | omega)); (first | exact q_a0b22f2d75 h93 hx | omega))
      have h95 : fSaid By Nb ix jx Sp = S83 := by unfold fSaid; (try dsimp only); first | (rw [← h40, ← h84]; first | done | rfl) | (rw [← h40, ← h84]; rw [if_pos (by omega)]; first | done | rfl) | (rw [← h40, ← h84]; rw [if_neg (by (first | exact q_d636131026 h86 h93 | omega))]; first | done | rfl) | (rw [← h40, ← h84]; rw [if_neg (by omega), if_pos (by omega)]; first | done | rfl) | (rw [← h40, ← h84]; rw [if_neg (by omega), if_neg (by omega)]; first | done | rfl) | (rw [← h40, ← h84]; rw [if_neg (by omega), if_neg (by omega), if_neg (by omega)]; first | done | rfl)
      exact En_ret (v := none) rfl rfl rfl ⟨h75, h81, z78, h79, rfl, ⟨o92, by first | exact q_1a6ee862c1 h93 | omega, by first | exact q_c733b715bf h77.2.1 | omega, by first | exact q_ccc3bb8fc9 h32.2.2.2.1 h77.2.2.1 | omega, by first | exact q_28bfca2c13 h32.2.2.2.1 h77.2.2.1 | omega, (by rw [h95]; exact ⟨h85, fun z => absurd z (by (first | exact q_78d9c54eee z h86 h93 | omega))⟩)⟩⟩
    · refine En_Ps 2 (pc' := 49) (lv' := [(4, .int ((Int32.ofInt 0))), (3, .int z35), (0, .ref 3), (1, .ref a), (2, .ref b)]) (st' := [.int ((Int32.ofInt 1)), .ref 3]) rfl ?_
      have := (by decide : ((Int32.ofInt 1)).toInt = 1)
      refine En_callV rfl rfl rfl rfl rfl rfl rfl rfl tgz_3 (by decide +kernel) rfl (c_59x σ29 h30 ((Int32.ofInt 1)) (geI (by decide : (Int32.ofInt 1).toInt = 1) (by decide)) (leI (by decide : (Int32.ofInt 1).toInt = 1) (by decide)) z33 h34 h41) (by decide) (by decide) (fun v97 σ98 h96 => ?_)
      obtain ⟨h99, h100, z102, h103, rfl, h101⟩ := h96
      have h104 := h101.2.2.2.2.2.2
      have h105 := Fr_trans h37 h100 (by decide +kernel)
      have h106 : pss By Nb ((Int32.ofInt 1)).toInt S39 = dD By Nb S39 := dDc (fun zz => by (try have i0 := Imp_m h70 (by (first | exact q_d2dcd30e56 zz | omega))); (try have i1 := Imp_m h59 (by (first | exact q_d2dcd30e56 zz | omega))); (try have i2 := Imp_m h44 (by (first | exact q_d2dcd30e56 zz | omega))); (try have i3 := Imp_m h43 (by (first | exact q_d2dcd30e56 zz | omega))); (try have i4 := Imp_m h32.2.2.2.2.2.1 (by (first | exact q_d8d8e6600d h42 zz | omega))); (try have i5 := Imp_m h32.2.2.2.2.2.2.1 (by omega)); (first | exact q_ee79c67d8b this i0 h71 h67.1 h67.2.1 | omega))
      obtain ⟨S107, h108⟩ : ∃ q : PS, q = dD By Nb S39 := ⟨_, rfl⟩
      have h109 : CT By Nb σ98 S107 := by rw [h108]; exact (CT_eq h104 h106)
      have h110 := CT_k h109 h103
      have h111 : S107.2.2.2 = S39.2.2.2 := by rw [h108]; exact pss_w
      have h112 : Imp (S107.1 = 0) (S39.1 = 0) := fun z => (pss_g (by rw [h106, ← h108]; exact z)).1
      have h113 : Imp (S107.1 = 0) (((Int32.ofInt 1)).toInt = 1) := fun z => (pss_g (by rw [h106, ← h108]; exact z)).2.1
      have h114 := KN_fr hP h46 h100 (by decide +kernel)
      have h115 : S107.2.2.2 = Sp.2.2.2 := h111.trans h47
      have o116 : OUT σ0 σ98 a := OUT_fr o48 h100 (by decide +kernel)
      have h117 := Imp_m h101.2.2.2.1 (by (first | exact q_a439be255a this | omega))
      refine En_Ps 1 (pc' := 53) (lv' := [(4, .int ((Int32.ofInt 0))), (3, .int z35), (0, .ref 3), (1, .ref a), (2, .ref b)]) (st' := [.ref 3]) rfl ?_
      refine En_getK (j := 5) h103 rfl rfl rfl tgz_3 (by decide +kernel) ?_
      refine En_iNe _ rfl rfl (fun h118 => ?_) (fun h118 => ?_)
      · have h119 := Imp_m h32.2.2.2.2.2.2.1 (by first | exact q_a0d17ed560 h117.1 h118 h101.1 | omega)
        have h120 : fSaid By Nb ix jx Sp = S107 := by unfold fSaid; (try dsimp only); first | (rw [← h40, ← h108]; first | done | rfl) | (rw [← h40, ← h108]; rw [if_pos (by omega)]; first | done | rfl) | (rw [← h40, ← h108]; rw [if_neg (by (first | exact q_57b55acfde h118 h101.1 h110 | omega))]; first | done | rfl) | (rw [← h40, ← h108]; rw [if_neg (by omega), if_pos (by omega)]; first | done | rfl) | (rw [← h40, ← h108]; rw [if_neg (by omega), if_neg (by omega)]; first | done | rfl) | (rw [← h40, ← h108]; rw [if_neg (by omega), if_neg (by omega), if_neg (by omega)]; first | done | rfl)
        exact En_ret (v := none) rfl rfl rfl ⟨h99, h105, z102, h103, rfl, ⟨o116, by first | exact q_bc42505ae9 h118 h101.1 | omega, by first | exact q_c733b715bf h101.2.1 | omega, by first | exact q_ccc3bb8fc9 h32.2.2.2.1 h101.2.2.1 | omega, by first | exact q_28bfca2c13 h32.2.2.2.1 h101.2.2.1 | omega, (by rw [h120]; exact ⟨h109, fun z => absurd z (by (first | exact q_ae2d14d533 h118 h101.1 h110 z | omega))⟩)⟩⟩
      · have h121 := Imp_m h32.2.2.2.2.2.1 (by first | exact q_31d5f588b1 h101.2.2.1 h118 | omega)
        try have h122 := Imp_m h113 (by (first | exact q_ca23768860 h110 h118 | omega))
        try have h123 := Imp_m h112 (by (first | exact q_ca23768860 h110 h118 | omega))
        try have h124 := Imp_m h70 (by (first | exact q_d2dcd30e56 h123 | omega))
        try have h125 := Imp_m h59 (by (first | exact q_d2dcd30e56 h123 | omega))
        try have h126 := Imp_m h44 (by (first | exact q_d2dcd30e56 h123 | omega))
        try have h127 := Imp_m h43 (by (first | exact q_d2dcd30e56 h123 | omega))
        refine En_Ps 3 (pc' := 63) (lv' := [(4, .int ((Int32.ofInt 0))), (3, .int z35), (0, .ref 3), (1, .ref a), (2, .ref b)]) (st' := [.int ((Int32.ofInt 0)), .int z35, .ref b]) rfl ?_
        have := (by decide : ((Int32.ofInt 0)).toInt = 0)
        refine En_callV rfl rfl rfl rfl rfl rfl rfl rfl hb (by decide +kernel) rfl (c_31x σ98 h99 b hb z35 ((Int32.ofInt 0)) (geI rfl (by (first | exact q_39e281d0cf h121.1 this | omega))) (leI rfl (by first | exact q_e1ef427644 h49 h26 h20.2.1 | omega)) (geI (by decide : (Int32.ofInt 0).toInt = 0) (by decide)) (leI (by decide : (Int32.ofInt 0).toInt = 0) (by decide)) a5 ha5 ((h100 _ _ (inW hb (by decide +kernel))).trans ((h31 _ _ (inW hb (by decide +kernel))).trans h4)) a7 ha7 ((h100 _ _ (inW hb (by decide +kernel))).trans ((h31 _ _ (inW hb (by decide +kernel))).trans h6)) z9 ((h100 _ _ (inW hb (by decide +kernel))).trans ((h31 _ _ (inW hb (by decide +kernel))).trans h8)) (by (first | exact q_adf9f7a32b h14 L15 | omega))) (by decide) (by decide) (fun v129 σ130 h128 => ?_)
        obtain ⟨h131, h132, z134, h135, rfl, h133⟩ := h128
        have h136 := h133.2.2.2.2
        have h137 := Fr_trans h105 h132 (by decide +kernel)
        obtain ⟨S138, h139⟩ : ∃ q : PS, q = wst (wst (wst S107 ix (tV By Nb Sp.2.2.1)) (ix + 1) (iW By Nb 8 S39)) jx (S107.2.2.2 jx + 1) := ⟨_, rfl⟩
        have h140 : CT By Nb σ130 S138 := by rw [h139]; exact CT_wst (CT_wst (CT_wst (CT_fr h109 h132 (by decide +kernel))))
        have h141 : KN σ130 a (uPd (uPd (uPd Sp.2.2.2 ix (tV By Nb Sp.2.2.1)) (ix + 1) (iW By Nb 8 S39)) jx (Sp.2.2.2 jx + 1)) (fun t => (((act Sp.2.2.2 t ∨ t = ix) ∨ t = ix + 1) ∨ t = jx)) := KN_w (KN_add (i := ix) (i' := ix + 1) (j := jx) h114 h136 L7 rfl L8 L9 L10 L1 L2 (by rw [h12]; exact L3) (by rw [L4]; exact h14) (by rw [h13]; exact L5) (by rw [L6]; exact h14) (by (first | exact q_58e6e51dcc h10 | omega))) (uPd3_cg (by (first | exact q_b1495600e7 h127 | omega)) (by (first | exact q_1788a9098d this h125 h60 | omega)) (by (first | exact q_a8fb2024c1 h14 | omega)))
        have h142 : S138.2.2.2 = (uPd (uPd (uPd Sp.2.2.2 ix (tV By Nb Sp.2.2.1)) (ix + 1) (iW By Nb 8 S39)) jx (Sp.2.2.2 jx + 1)) := by rw [h139]; show uPd (uPd (uPd S107.2.2.2 _ _) _ _) _ (S107.2.2.2 jx + 1) = _; rw [h115]
        have h143 : S138.1 = S107.1 := by rw [h139]; rfl
        have o144 : OUT σ0 σ130 a := OUT_add o116 h136 (by omega) (by omega) (by omega)
        have h145 : fSaid By Nb ix jx Sp = S138 := by unfold fSaid; (try dsimp only); first | (rw [← h40, ← h108, ← h139]; first | done | rfl) | (rw [← h40, ← h108, ← h139]; rw [if_pos (by (first | exact q_ca23768860 h110 h118 | omega))]; first | done | rfl) | (rw [← h40, ← h108, ← h139]; rw [if_neg (by omega)]; first | done | rfl) | (rw [← h40, ← h108, ← h139]; rw [if_neg (by omega), if_pos (by omega)]; first | done | rfl) | (rw [← h40, ← h108, ← h139]; rw [if_neg (by omega), if_neg (by omega)]; first | done | rfl) | (rw [← h40, ← h108, ← h139]; rw [if_neg (by omega), if_neg (by omega), if_neg (by omega)]; first | done | rfl)
        exact En_ret (v := none) rfl rfl rfl ⟨h131, h137, z102, ((h132 _ _ (inW tgz_3 (by decide +kernel))).trans h103), rfl, ⟨o144, by first | exact q_a555021d16 h101.1 | omega, by first | exact q_bd3fa30443 h118 | omega, by first | exact q_ccc3bb8fc9 h32.2.2.2.1 h101.2.2.1 | omega, by first | exact q_28bfca2c13 h32.2.2.2.1 h101.2.2.1 | omega, (by rw [h145]; exact ⟨h140, fun zz => by rw [h142]; exact h141⟩)⟩⟩
  · refine En_Ps 6 (pc' := 32) (lv' := [(4, .int ((Int32.ofInt 1))), (3, .int z35), (0, .ref 3), (1, .ref a), (2, .ref b)]) (st' := [.int ((Int32.ofInt 1)), .int ((Int32.ofInt 1)), .ref 3]) rfl ?_
    refine En_icEq _ (by decide : (Int32.ofInt 1).toInt = 1) (by decide : (Int32.ofInt 1).toInt = 1) rfl (fun h146 => ?_) (fun hx => by exfalso; have := Imp_m h32.2.2.2.2.2.1 (by omega); have := Imp_m h32.2.2.2.2.2.2.1 (by omega); omega)
    refine En_Ps 2 (pc' := 49) (lv' := [(4, .int ((Int32.ofInt 1))), (3, .int z35), (0, .ref 3), (1, .ref a), (2, .ref b)]) (st' := [.int ((Int32.ofInt 1)), .ref 3]) rfl ?_
    have := (by decide : ((Int32.ofInt 1)).toInt = 1)
    refine En_callV rfl rfl rfl rfl rfl rfl rfl rfl tgz_3 (by decide +kernel) rfl (c_59x σ29 h30 ((Int32.ofInt 1)) (geI (by decide : (Int32.ofInt 1).toInt = 1) (by decide)) (leI (by decide : (Int32.ofInt 1).toInt = 1) (by decide)) z33 h34 h41) (by decide) (by decide) (fun v148 σ149 h147 => ?_)
    obtain ⟨h150, h151, z153, h154, rfl, h152⟩ := h147
    have h155 := h152.2.2.2.2.2.2
    have h156 := Fr_trans h37 h151 (by decide +kernel)
    have h157 : pss By Nb ((Int32.ofInt 1)).toInt S39 = dD By Nb S39 := dDc (fun zz => by (try have i0 := Imp_m h59 (by (first | exact q_d2dcd30e56 zz | omega))); (try have i1 := Imp_m h44 (by (first | exact q_d2dcd30e56 zz | omega))); (try have i2 := Imp_m h43 (by (first | exact q_d2dcd30e56 zz | omega))); (try have i3 := Imp_m h32.2.2.2.2.2.1 (by (first | exact q_d8d8e6600d h42 zz | omega))); (try have i4 := Imp_m h32.2.2.2.2.2.2.1 (by omega)); (first | exact q_0aec5b17cb this i0 h60 h56.1 h56.2.1 | omega))
    obtain ⟨S158, h159⟩ : ∃ q : PS, q = dD By Nb S39 := ⟨_, rfl⟩
    have h160 : CT By Nb σ149 S158 := by rw [h159]; exact (CT_eq h155 h157)
    have h161 := CT_k h160 h154
    have h162 : S158.2.2.2 = S39.2.2.2 := by rw [h159]; exact pss_w
    have h163 : Imp (S158.1 = 0) (S39.1 = 0) := fun z => (pss_g (by rw [h157, ← h159]; exact z)).1
    have h164 : Imp (S158.1 = 0) (((Int32.ofInt 1)).toInt = 1) := fun z => (pss_g (by rw [h157, ← h159]; exact z)).2.1
    have h165 := KN_fr hP h46 h151 (by decide +kernel)
    have h166 : S158.2.2.2 = Sp.2.2.2 := h162.trans h47
    have o167 : OUT σ0 σ149 a := OUT_fr o48 h151 (by decide +kernel)
    have h168 := Imp_m h152.2.2.2.1 (by (first | exact q_a439be255a this | omega))
    refine En_Ps 1 (pc' := 53) (lv' := [(4, .int ((Int32.ofInt 1))), (3, .int z35), (0, .ref 3), (1, .ref a), (2, .ref b)]) (st' := [.ref 3]) rfl ?_
    refine En_getK (j := 5) h154 rfl rfl rfl tgz_3 (by decide +kernel) ?_
    refine En_iNe _ rfl rfl (fun h169 => ?_) (fun h169 => ?_)
    · have h170 := Imp_m h32.2.2.2.2.2.2.1 (by first | exact q_a0d17ed560 h168.1 h169 h152.1 | omega)
      have h171 : fSaid By Nb ix jx Sp = S158 := by unfold fSaid; (try dsimp only); first | (rw [← h40, ← h159]; first | done | rfl) | (rw [← h40, ← h159]; rw [if_pos (by omega)]; first | done | rfl) | (rw [← h40, ← h159]; rw [if_neg (by (first | exact q_57b55acfde h169 h152.1 h161 | omega))]; first | done | rfl) | (rw [← h40, ← h159]; rw [if_neg (by omega), if_pos (by omega)]; first | done | rfl) | (rw [← h40, ← h159]; rw [if_neg (by omega), if_neg (by omega)]; first | done | rfl) | (rw [← h40, ← h159]; rw [if_neg (by omega), if_neg (by omega), if_neg (by omega)]; first | done | rfl)
      exact En_ret (v := none) rfl rfl rfl ⟨h150, h156, z153, h154, rfl, ⟨o167, by first | exact q_bc42505ae9 h169 h152.1 | omega, by first | exact q_c733b715bf h152.2.1 | omega, by first | exact q_ccc3bb8fc9 h32.2.2.2.1 h152.2.2.1 | omega, by first | exact q_28bfca2c13 h32.2.2.2.1 h152.2.2.1 | omega, (by rw [h171]; exact ⟨h160, fun z => absurd z (by (first | exact q_ae2d14d533 h169 h152.1 h161 z | omega))⟩)⟩⟩
    · have h172 := Imp_m h32.2.2.2.2.2.1 (by first | exact q_31d5f588b1 h152.2.2.1 h169 | omega)
      try have h173 := Imp_m h164 (by (first | exact q_ca23768860 h161 h169 | omega))
      try have h174 := Imp_m h163 (by (first | exact q_ca23768860 h161 h169 | omega))
      try have h175 := Imp_m h59 (by (first | exact q_d2dcd30e56 h174 | omega))
      try have h176 := Imp_m h44 (by (first | exact q_d2dcd30e56 h174 | omega))
      try have h177 := Imp_m h43 (by (first | exact q_d2dcd30e56 h174 | omega))
      refine En_Ps 3 (pc' := 63) (lv' := [(4, .int ((Int32.ofInt 1))), (3, .int z35), (0, .ref 3), (1, .ref a), (2, .ref b)]) (st' := [.int ((Int32.ofInt 1)), .int z35, .ref b]) rfl ?_
      have := (by decide : ((Int32.ofInt 1)).toInt = 1)
      refine En_callV rfl rfl rfl rfl rfl rfl rfl rfl hb (by decide +kernel) rfl (c_31x σ149 h150 b hb z35 ((Int32.ofInt 1)) (geI rfl (by (first | exact q_39e281d0cf h172.1 (by decide) | omega))) (leI rfl (by first | exact q_e1ef427644 h49 h26 h20.2.1 | omega)) (geI (by decide : (Int32.ofInt 1).toInt = 1) (by decide)) (leI (by decide : (Int32.ofInt 1).toInt = 1) (by decide)) a5 ha5 ((h151 _ _ (inW hb (by decide +kernel))).trans ((h31 _ _ (inW hb (by decide +kernel))).trans h4)) a7 ha7 ((h151 _ _ (inW hb (by decide +kernel))).trans ((h31 _ _ (inW hb (by decide +kernel))).trans h6)) z9 ((h151 _ _ (inW hb (by decide +kernel))).trans ((h31 _ _ (inW hb (by decide +kernel))).trans h8)) (by (first | exact q_adf9f7a32b h14 L15 | omega))) (by decide) (by decide) (fun v179 σ180 h178 => ?_)
      obtain ⟨h181, h182, z184, h185, rfl, h183⟩ := h178
      have h186 := h183.2.2.2.2
      have h187 := Fr_trans h156 h182 (by decide +kernel)
      obtain ⟨S188, h189⟩ : ∃ q : PS, q = wst (wst (wst S158 ix (tV By Nb Sp.2.2.1)) (ix + 1) (iW By Nb 8 S39)) jx (S158.2.2.2 jx + 1) := ⟨_, rfl⟩
      have h190 : CT By Nb σ180 S188 := by rw [h189]; exact CT_wst (CT_wst (CT_wst (CT_fr h160 h182 (by decide +kernel))))
      have h191 : KN σ180 a (uPd (uPd (uPd Sp.2.2.2 ix (tV By Nb Sp.2.2.1)) (ix + 1) (iW By Nb 8 S39)) jx (Sp.2.2.2 jx + 1)) (fun t => (((act Sp.2.2.2 t ∨ t = ix) ∨ t = ix + 1) ∨ t = jx)) := KN_w (KN_add (i := ix) (i' := ix + 1) (j := jx) h165 h186 L7 rfl L8 L9 L10 L1 L2 (by rw [h12]; exact L3) (by rw [L4]; exact h14) (by rw [h13]; exact L5) (by rw [L6]; exact h14) (by (first | exact q_58e6e51dcc h10 | omega))) (uPd3_cg (by (first | exact q_b1495600e7 h177 | omega)) (by (first | exact q_fd20194ff2 this h175 h56.2.1 h60 h56.1 | omega)) (by (first | exact q_a8fb2024c1 h14 | omega)))
      have h192 : S188.2.2.2 = (uPd (uPd (uPd Sp.2.2.2 ix (tV By Nb Sp.2.2.1)) (ix + 1) (iW By Nb 8 S39)) jx (Sp.2.2.2 jx + 1)) := by rw [h189]; show uPd (uPd (uPd S158.2.2.2 _ _) _ _) _ (S158.2.2.2 jx + 1) = _; rw [h166]
      have h193 : S188.1 = S158.1 := by rw [h189]; rfl
      have o194 : OUT σ0 σ180 a := OUT_add o167 h186 (by omega) (by omega) (by omega)
      have h195 : fSaid By Nb ix jx Sp = S188 := by unfold fSaid; (try dsimp only); first | (rw [← h40, ← h159, ← h189]; first | done | rfl) | (rw [← h40, ← h159, ← h189]; rw [if_pos (by (first | exact q_ca23768860 h161 h169 | omega))]; first | done | rfl) | (rw [← h40, ← h159, ← h189]; rw [if_neg (by omega)]; first | done | rfl) | (rw [← h40, ← h159, ← h189]; rw [if_neg (by omega), if_pos (by omega)]; first | done | rfl) | (rw [← h40, ← h159, ← h189]; rw [if_neg (by omega), if_neg (by omega)]; first | done | rfl) | (rw [← h40, ← h159, ← h189]; rw [if_neg (by omega), if_neg (by omega), if_neg (by omega)]; first | done | rfl)
      exact En_ret (v := none) rfl rfl rfl ⟨h181, h187, z153, ((h182 _ _ (inW tgz_3 (by decide +kernel))).trans h154), rfl, ⟨o194, by first | exact q_a555021d16 h152.1 | omega, by first | exact q_bd3fa30443 h169 | omega, by first | exact q_ccc3bb8fc9 h32.2.2.2.1 h152.2.2.1 | omega, by first | exact q_28bfca2c13 h32.2.2.2.1 h152.2.2.1 | omega, (by rw [h195]; exact ⟨h190, fun zz => by rw [h192]; exact h191⟩)⟩⟩
/-- DoorSchool$Reader.readLesson(LDoorSchool$Plan;)V -/
abbrev P_67x (σ0 : SG) (By : Int → Int) (Nb : Int) (Sp : PS) (a : Nat) (f : Int32) (sg : Int32) : PO := fun v σ => WT σ ∧ Fr [(3, 1), (3, 2), (3, 3), (3, 4), (3, 5), (3, 6), (20, 2), (21, 0), (22, 0)] σ0 σ ∧ ∃ f1 : Int32, (σ 3)[5]? = some (Value.int f1) ∧ v = none ∧ OUT σ0 σ a ∧ -f1.toInt ≤ 0 ∧ f1.toInt - 3 ≤ 0 ∧ -f1.toInt + f.toInt ≤ 0 ∧ f.toInt - f1.toInt ≤ 0 ∧ (CT By Nb σ (fLesson By Nb Sp) ∧ ((fLesson By Nb Sp).1 = 0 → KN σ a (fLesson By Nb Sp).2.2.2 (act (fLesson By Nb Sp).2.2.2)))
set_option maxRecDepth 10000 in
set_option maxHeartbeats 4000000 in
theorem c_67x {By : Int → Int} {Nb : Int} {Sp : PS} (σ0 : SG) (hσ0 : WT σ0) (a : Nat) (ha : TG a = 18) (f : Int32) (h_f : (σ0 3)[5]? = some (Value.int f)) (sg : Int32) (h_sg : (σ0 a)[1]? = some (Value.int sg)) (hp0 : -sg.toInt ≤ 0) (hC : CT By Nb σ0 Sp) (hg : Sp.1 = 0) (hP : PLA a) (hX : FXP σ0 a) (hK : KN σ0 a Sp.2.2.2 (act Sp.2.2.2)) : En 6 136 none mr_67 (P_67x σ0 By Nb Sp a f sg) 0 [(0, .ref 3), (1, .ref a)] [] σ0 := by
  obtain ⟨hl_f, hu_f⟩ := WT_int hσ0 (g := 3) (by decide +kernel) (by decide +kernel) (l := 0) (u := 3) (by decide +kernel) h_f
  obtain ⟨hl_sg, hu_sg⟩ := WT_int hσ0 (g := 18) ha (by decide +kernel) (l := (-1)) (u := 4) (by decide +kernel) h_sg
  have hF0 : Fr [(3, 1), (3, 2), (3, 3), (3, 4), (3, 5), (3, 6), (20, 2), (21, 0), (22, 0)] σ0 σ0 := Fr_rfl
  have h1 := CT_k hC h_f
  obtain ⟨z3, h2, h4, h5⟩ := WT_peekI hσ0 ha (by decide +kernel : FT 18 3 = (0, 0, 4)) (by decide +kernel)
  have h6 : Sp.2.2.2 2 = z3.toInt := KN_v hK (Or.inl (by decide)) (by decide) (by decide) (by rw [lcO_lt (by decide) (by decide), Nat.add_zero]) rfl h2
  refine En_Ps 1 (pc' := 1) (lv' := [(0, .ref 3), (1, .ref a)]) (st' := [.ref 3]) rfl ?_
  obtain ⟨z8, h7, h9, h10⟩ := WT_peekI hσ0 tgz_3 (by decide +kernel : FT 3 3 = (0, 0, 1600)) (by decide +kernel)
  refine En_callV rfl rfl rfl rfl rfl rfl rfl rfl tgz_3 (by decide +kernel) rfl (c_72x σ0 hσ0 z8 h7 hC.1 (CT_at hC (by (first | exact q_d2dcd30e56 hg | omega)) h7)) (by decide) (by decide) (fun v12 σ13 h11 => ?_)
  obtain ⟨h14, h15, rfl, h16⟩ := h11
  have h17 := h16
  have h18 := Fr_trans hF0 h15 (by decide +kernel)
  obtain ⟨S19, h20⟩ : ∃ q : PS, q = adv By Nb Sp := ⟨_, rfl⟩
  have h21 : CT By Nb σ13 S19 := by rw [h20]; exact (CT_adv hC (by (first | exact q_d2dcd30e56 hg | omega)) h7 h15 (by decide +kernel) h17.2)
  have h22 := CT_k h21 ((h15 _ _ (inW tgz_3 (by decide +kernel))).trans h_f)
  have h23 : S19.2.2.2 = Sp.2.2.2 := by rw [h20]; exact adv_w
  have h24 : S19.1 = Sp.1 := by rw [h20]; exact adv_1
  have h25 := KN_fr hP hK h15 (by decide +kernel)
  have h26 : S19.2.2.2 = Sp.2.2.2 := h23.trans (rfl : Sp.2.2.2 = Sp.2.2.2)
  have o27 : OUT σ0 σ13 a := OUT_fr OUT_0 h15 (by decide +kernel)
  refine En_Ps 3 (pc' := 7) (lv' := [(0, .ref 3), (1, .ref a)]) (st' := [.ref a, .int ((Int32.ofInt 0)), .ref 3]) rfl ?_
  refine En_getK (j := 3) ((h15 _ _ (inW ha (by decide +kernel))).trans h2) rfl rfl rfl ha (by decide +kernel) ?_
  refine En_Ps 2 (pc' := 12) (lv' := [(0, .ref 3), (1, .ref a)]) (st' := [.int ((z3 - ((Int32.ofInt 1)))), .int ((Int32.ofInt 0)), .ref 3]) rfl ?_
  refine En_top (subI rfl (by decide : (Int32.ofInt 1).toInt = 1) (by first | exact q_93f9478bef h4 | omega) (by first | exact q_cc3cee8591 h5 | omega)) (fun z28 h29 => ?_)
  have := (by decide : ((Int32.ofInt 0)).toInt = 0)
  refine En_callV rfl rfl rfl rfl rfl rfl rfl rfl tgz_3 (by decide +kernel) rfl (c_58x σ13 h14 ((Int32.ofInt 0)) z28 f ((h15 _ _ (inW tgz_3 (by decide +kernel))).trans h_f) h21) (by decide) (by decide) (fun v31 σ32 h30 => ?_)
  obtain ⟨h33, h34, z36, h37, z38, rfl, h35⟩ := h30
  have h39 := h35.2.2.2.2.2.2.2.2.2
  have h40 := Fr_trans h18 h34 (by decide +kernel)
  have h41 : nH By Nb ((Int32.ofInt 0)).toInt z28.toInt S19 = nH By Nb (0) (Sp.2.2.2 2 - 1) S19 := nH_cg2 (fun zz => by (first | exact q_d2dcd30e56 this | omega)) (fun zz => by (first | exact q_171d7b85d9 h29 h6 | omega))
  obtain ⟨S42, h43⟩ : ∃ q : PS, q = nH By Nb (0) (Sp.2.2.2 2 - 1) S19 := ⟨_, rfl⟩
  have h44 : CT By Nb σ32 S42 := by rw [h43]; exact (CT_eq h39.1 h41)
  have h45 := CT_k h44 h37
  have h46 : Imp (S42.1 = 0) (z38.toInt = tV By Nb S19.2.2.1) := fun z => Imp_m h39.2 (by rw [h41, ← h43]; exact z)
  have h47 : Imp (S42.1 = 0) (S19.1 = 0 ∧ tK By Nb S19.2.2.1 = 2 ∧ 0 ≤ tV By Nb S19.2.2.1 ∧ tV By Nb S19.2.2.1 ≤ Sp.2.2.2 2 - 1) := fun z => nH_gg (by rw [← h43]; exact z)
  have h48 : S42.2.2.2 = S19.2.2.2 := by rw [h43]; exact nH_w
  have h49 := KN_fr hP h25 h34 (by decide +kernel)
  have h50 : S42.2.2.2 = Sp.2.2.2 := h48.trans h26
  have o51 : OUT σ0 σ32 a := OUT_fr o27 h34 (by decide +kernel)
  have h52 := Imp_m h35.2.2.2.2.2.2.2.1 (by first | exact q_7d8964ea46 h29 h4 | omega)
  have h53 := Imp_m h35.2.2.2.2.2.2.2.2.1 (by (first | exact q_83da3d7e14 this | omega))
  refine En_Ps 2 (pc' := 17) (lv' := [(2, .int z38), (0, .ref 3), (1, .ref a)]) (st' := [.ref 3]) rfl ?_
  refine En_getK (j := 5) h37 rfl rfl rfl tgz_3 (by decide +kernel) ?_
  refine En_iEq _ rfl rfl (fun h54 => ?_) (fun h54 => ?_)
  · have h55 := Imp_m h35.2.2.2.2.2.1 (by first | exact q_c5d285f1b9 h54 | omega)
    try have h56 := Imp_m h47 (by (first | exact q_ca23768860 h45 h54 | omega))
    try have h57 := Imp_m h46 (by (first | exact q_ca23768860 h45 h54 | omega))
    refine En_Ps 1 (pc' := 25) (lv' := [(2, .int z38), (0, .ref 3), (1, .ref a)]) (st' := [.ref a]) rfl ?_
    refine En_getR (j := 4) (g' := 19) (u := 0) rfl rfl rfl ha (by decide +kernel) h33 (by decide +kernel) (fun a59 h58 ha59 => ?_)
    refine En_Ps 1 (pc' := 29) (lv' := [(2, .int z38), (0, .ref 3), (1, .ref a)]) (st' := [.int z38, .ref a59]) rfl ?_
    refine En_aald (g' := 28) (u := 0) rfl rfl ha59 (by decide +kernel) h33 (by (first | exact q_39e281d0cf h55.1 this | omega)) (lnI (by decide +kernel : LN _ = 4) (by first | exact q_9af1b6be4e h52 h29 h5 | omega)) (FTsgl (by decide +kernel)) (fun a61 h60 ha61 => ?_)
    have h62 := DRc (d := z38.toInt) (FXP_fr hP hX h40 (by decide +kernel)) h58 h60 (by (first | exact q_39e281d0cf h55.1 this | omega)) (by (first | exact q_8a99f2014a h55.2 h29 h5 | omega))
    have h63 := lc_d (d := z38.toInt) (by (first | exact q_39e281d0cf h55.1 this | omega)) (by (first | exact q_8a99f2014a h55.2 h29 h5 | omega))
    refine En_getR (j := 0) (g' := 20) (u := 0) rfl rfl rfl ha61 (by decide +kernel) h33 (by decide +kernel) (fun a65 h64 ha65 => ?_)
    have h66 := DLc (d := z38.toInt) (FXP_fr hP hX h40 (by decide +kernel)) h62 h64 (by (first | exact q_39e281d0cf h55.1 this | omega)) (by (first | exact q_8a99f2014a h55.2 h29 h5 | omega))
    refine En_Ps 2 (pc' := 35) (lv' := [(3, .ref a65), (2, .int z38), (0, .ref 3), (1, .ref a)]) (st' := [.ref a65]) rfl ?_
    refine En_getI (j := 2) (l := 0) (u := 13) rfl rfl rfl ha65 (by decide +kernel) h33 (by decide +kernel) (fun z68 h67 h69 h70 => ?_)
    have h71 : Sp.2.2.2 (12 + 4 * z38.toInt) = z68.toInt := KN_v h49 (Or.inr (Or.inl ⟨by (first | exact q_ecf21fb053 h55.1 this | omega), by (first | exact q_c35d78ba61 h55.2 h29 h5 | omega), by omega⟩)) (by (first | exact q_a2d6595a78 h53 | omega)) (by (first | exact q_f150f69272 h55.2 h29 h5 | omega)) (by omega) (by (first | exact q_c4326de684 h63.2.2.2.2.2.2.1 | omega)) h67
    have h72 : z38.toInt = (tV By Nb S19.2.2.1) := by (first | exact q_b1495600e7 h57 | omega)
    rw [h72] at h71
    refine En_Ps 1 (pc' := 40) (lv' := [(3, .ref a65), (2, .int z38), (0, .ref 3), (1, .ref a)]) (st' := [.int (((Int8.ofInt 12).toInt32)), .int z68]) rfl ?_
    refine En_icLt _ rfl (by decide : ((Int8.ofInt 12).toInt32).toInt = 12) rfl (fun h73 => ?_) (fun h73 => ?_)
    · refine En_Ps 1 (pc' := 50) (lv' := [(3, .ref a65), (2, .int z38), (0, .ref 3), (1, .ref a)]) (st' := [.ref 3]) rfl ?_
      obtain ⟨z75, h74, h76, h77⟩ := WT_peekI h33 tgz_3 (by decide +kernel : FT 3 3 = (0, 0, 1600)) (by decide +kernel)
      refine En_callV rfl rfl rfl rfl rfl rfl rfl rfl tgz_3 (by decide +kernel) rfl (c_72x σ32 h33 z75 h74 h44.1 (CT_at h44 (by (first | exact q_ca23768860 h45 h54 | omega)) h74)) (by decide) (by decide) (fun v79 σ80 h78 => ?_)
      obtain ⟨h81, h82, rfl, h83⟩ := h78
      have h84 := h83
      have h85 := Fr_trans h40 h82 (by decide +kernel)
      obtain ⟨S86, h87⟩ : ∃ q : PS, q = adv By Nb S42 := ⟨_, rfl⟩
      have h88 : CT By Nb σ80 S86 := by rw [h87]; exact (CT_adv h44 (by (first | exact q_ca23768860 h45 h54 | omega)) h74 h82 (by decide +kernel) h84.2)
      have h89 := CT_k h88 ((h82 _ _ (inW tgz_3 (by decide +kernel))).trans h37)
      have h90 : S86.2.2.2 = S42.2.2.2 := by rw [h87]; exact adv_w
      have h91 : S86.1 = S42.1 := by rw [h87]; exact adv_1
      have h92 := KN_fr hP h49 h82 (by decide +kernel)
      have h93 : S86.2.2.2 = Sp.2.2.2 := h90.trans h50
      have o94 : OUT σ0 σ80 a := OUT_fr o51 h82 (by decide +kernel)
      refine En_Ps 3 (pc' := 56) (lv' := [(3, .ref a65), (2, .int z38), (0, .ref 3), (1, .ref a)]) (st' := [.ref a65, .ref a, .ref 3]) rfl ?_
      refine En_callV rfl rfl rfl rfl rfl rfl rfl rfl tgz_3 (by decide +kernel) rfl (c_69x σ80 h81 a ha a65 ha65 z36 ((h82 _ _ (inW tgz_3 (by decide +kernel))).trans h37) sg ((h82 _ _ (inW ha (by decide +kernel))).trans ((h34 _ _ (inW ha (by decide +kernel))).trans ((h15 _ _ (inW ha (by decide +kernel))).trans h_sg))) (by first | exact q_a555021d16 hp0 | omega) h88 (by (first | exact q_ca23768860 h89 h54 | omega)) hP (FXP_fr hP hX h85 (by decide +kernel)) (by rw [h93]; exact h92) (show LSN σ80 a a65 S86.2.2.2 (26 + 24 * (tV By Nb S19.2.2.1) + 2 * Sp.2.2.2 (12 + 4 * (tV By Nb S19.2.2.1))) (12 + 4 * (tV By Nb S19.2.2.1)) from by rw [h93]; exact LSN_d (FXP_fr hP hX h85 (by decide +kernel)) (by (first | exact q_58e6e51dcc h56.2.2.1 | omega)) (by (first | exact q_2897cdfcec h56.2.2.2 h6 h5 | omega)) (by (first | exact q_c52d4e6d1e h56.2.2.2 | omega)) (by rw [← h72]; exact h66) rfl (by (first | exact q_2d21ab1e6c h71 h69 | omega)) (by (first | exact q_8b161d605d h71 h73 | omega)))) (by decide) (by decide) (fun v96 σ97 h95 => ?_)
      obtain ⟨h98, h99, z101, h102, rfl, h100⟩ := h95
      have h103 := h100.2.2.2.2.2
      have h104 := Fr_trans h85 h99 (by decide +kernel)
      obtain ⟨S105, h106⟩ : ∃ q : PS, q = fSaid By Nb (26 + 24 * (tV By Nb S19.2.2.1) + 2 * Sp.2.2.2 (12 + 4 * (tV By Nb S19.2.2.1))) (12 + 4 * (tV By Nb S19.2.2.1)) S86 := ⟨_, rfl⟩
      have h107 : CT By Nb σ97 S105 := by rw [h106]; exact h103.1
      have h108 := CT_k h107 h102
      have o109 : OUT σ0 σ97 a := OUT_tr o94 h100.1
      have h110 : fLesson By Nb Sp = S105 := by unfold fLesson; (try dsimp only); first | (rw [← h20, ← h43, ← h87, ← h106]; first | done | rfl) | (rw [← h20, ← h43, ← h87, ← h106]; rw [if_pos (by omega)]; first | done | rfl) | (rw [← h20, ← h43, ← h87, ← h106]; rw [if_neg (by (first | exact q_09c22b40fa h54 h45 | omega))]; first | done | rfl) | (rw [← h20, ← h43, ← h87, ← h106]; rw [if_neg (by (first | exact q_09c22b40fa h54 h45 | omega)), if_pos (by omega)]; first | done | rfl) | (rw [← h20, ← h43, ← h87, ← h106]; rw [if_neg (by (first | exact q_09c22b40fa h54 h45 | omega)), if_neg (by (first | exact q_babe5b57fd h71 h73 | omega))]; first | done | rfl) | (rw [← h20, ← h43, ← h87, ← h106]; rw [if_neg (by omega), if_neg (by omega), if_neg (by omega)]; first | done | rfl)
      exact En_ret (v := none) rfl rfl rfl ⟨h98, h104, z101, h102, rfl, ⟨o109, by first | exact q_a555021d16 h100.2.1 | omega, by first | exact q_c733b715bf h100.2.2.1 | omega, by first | exact q_ccc3bb8fc9 h35.2.2.2.1 h100.2.2.2.1 | omega, by first | exact q_28bfca2c13 h35.2.2.2.1 h100.2.2.2.1 | omega, (by rw [h110]; exact ⟨h107, fun zz => by exact (by rw [h106] at zz ⊢; exact KN_les (d := (tV By Nb S19.2.2.1)) zz (h103.2 zz) (by (first | exact q_58e6e51dcc h56.2.2.1 | omega)) (by (first | exact q_2897cdfcec h56.2.2.2 h6 h5 | omega)) rfl rfl (by rw [h93]) (by (first | exact q_2d21ab1e6c h71 h69 | omega)))⟩)⟩⟩
    · refine En_Ps 2 (pc' := 45) (lv' := [(3, .ref a65), (2, .int z38), (0, .ref 3), (1, .ref a)]) (st' := [.int ((Int32.ofInt 3)), .ref 3]) rfl ?_
      have := (by decide : ((Int32.ofInt 3)).toInt = 3)
      refine En_callV rfl rfl rfl rfl rfl rfl rfl rfl tgz_3 (by decide +kernel) rfl (c_54x σ32 h33 ((Int32.ofInt 3)) (geI (by decide : (Int32.ofInt 3).toInt = 3) (by decide)) (leI (by decide : (Int32.ofInt 3).toInt = 3) (by decide)) z36 h37 h44) (by decide) (by decide) (fun v112 σ113 h111 => ?_)
      obtain ⟨h114, h115, z117, h118, rfl, h116⟩ := h111
      have h119 := h116.2.2.2.2.2
      have h120 := Fr_trans h40 h115 (by decide +kernel)
      obtain ⟨S121, h122⟩ : ∃ q : PS, q = err By Nb 3 S42 := ⟨_, rfl⟩
      have h123 : CT By Nb σ113 S121 := by rw [h122]; exact (CT_eq h119 (err_cg (by (first | exact q_5736040b52 this | omega))))
      have h124 := CT_k h123 h118
      have h125 : S121.2.2.2 = S42.2.2.2 := by rw [h122]; exact err_w
      have h126 := KN_fr hP h49 h115 (by decide +kernel)
      have h127 : S121.2.2.2 = Sp.2.2.2 := h125.trans h50
      have o128 : OUT σ0 σ113 a := OUT_fr o51 h115 (by decide +kernel)
      have h129 := Imp_m h116.2.2.2.1 (by first | exact q_c5d285f1b9 h54 | omega)
      have h130 : fLesson By Nb Sp = S121 := by unfold fLesson; (try dsimp only); first | (rw [← h20, ← h43, ← h122]; first | done | rfl) | (rw [← h20, ← h43, ← h122]; rw [if_pos (by omega)]; first | done | rfl) | (rw [← h20, ← h43, ← h122]; rw [if_neg (by (first | exact q_4bf99f1336 h45 h54 | omega))]; first | done | rfl) | (rw [← h20, ← h43, ← h122]; rw [if_neg (by (first | exact q_4bf99f1336 h45 h54 | omega)), if_pos (by (first | exact q_1e1a7f2189 h71 h73 | omega))]; first | done | rfl) | (rw [← h20, ← h43, ← h122]; rw [if_neg (by omega), if_neg (by omega)]; first | done | rfl) | (rw [← h20, ← h43, ← h122]; rw [if_neg (by omega), if_neg (by omega), if_neg (by omega)]; first | done | rfl)
      exact En_ret (v := none) rfl rfl rfl ⟨h114, h120, z117, h118, rfl, ⟨o128, by first | exact q_1a6ee862c1 h116.1 | omega, by first | exact q_c733b715bf h116.2.1 | omega, by first | exact q_ccc3bb8fc9 h35.2.2.2.1 h116.2.2.1 | omega, by first | exact q_28bfca2c13 h35.2.2.2.1 h116.2.2.1 | omega, (by rw [h130]; exact ⟨h123, fun z => absurd z (by (first | exact q_1fb833d7b3 z h124 h129.2 this | omega))⟩)⟩⟩
  · have h131 := Imp_m h35.2.2.2.2.2.2.1 (by first | exact q_e3350da514 h54 h35.2.1 | omega)
    have h132 : fLesson By Nb Sp = S42 := by unfold fLesson; (try dsimp only); first | (rw [← h20, ← h43]; first | done | rfl) | (rw [← h20, ← h43]; rw [if_pos (by (first | exact q_f23c6e8e00 h54 h35.2.1 h45 | omega))]; first | done | rfl) | (rw [← h20, ← h43]; rw [if_neg (by omega)]; first | done | rfl) | (rw [← h20, ← h43]; rw [if_neg (by omega), if_pos (by omega)]; first | done | rfl) | (rw [← h20, ← h43]; rw [if_neg (by omega), if_neg (by omega)]; first | done | rfl) | (rw [← h20, ← h43]; rw [if_neg (by omega), if_neg (by omega), if_neg (by omega)]; first | done | rfl)
    exact En_ret (v := none) rfl rfl rfl ⟨h33, h40, z36, h37, rfl, ⟨o51, by first | exact q_bc42505ae9 h54 h35.2.1 | omega, by first | exact q_c733b715bf h35.2.2.1 | omega, by first | exact q_d22b102a8e h35.2.2.2.1 | omega, by first | exact q_83f4b1e050 h35.2.2.2.1 | omega, (by rw [h132]; exact ⟨h44, fun z => absurd z (by (first | exact q_ae2d14d533 h54 h35.2.1 h45 z | omega))⟩)⟩⟩
/-- DoorSchool$Reader.readExam(LDoorSchool$Plan;)V -/
abbrev P_64x (σ0 : SG) (By : Int → Int) (Nb : Int) (Sp : PS) (a : Nat) (f : Int32) (sg : Int32) : PO := fun v σ => WT σ ∧ Fr [(3, 1), (3, 2), (3, 3), (3, 4), (3, 5), (3, 6), (20, 2), (21, 0), (22, 0)] σ0 σ ∧ ∃ f1 : Int32, (σ 3)[5]? = some (Value.int f1) ∧ v = none ∧ OUT σ0 σ a ∧ -f1.toInt ≤ 0 ∧ f1.toInt - 3 ≤ 0 ∧ -f1.toInt + f.toInt ≤ 0 ∧ f.toInt - f1.toInt ≤ 0 ∧ (CT By Nb σ (fExam By Nb Sp) ∧ ((fExam By Nb Sp).1 = 0 → KN σ a (fExam By Nb Sp).2.2.2 (act (fExam By Nb Sp).2.2.2)))
set_option maxRecDepth 10000 in
set_option maxHeartbeats 4000000 in
theorem c_64x {By : Int → Int} {Nb : Int} {Sp : PS} (σ0 : SG) (hσ0 : WT σ0) (a : Nat) (ha : TG a = 18) (f : Int32) (h_f : (σ0 3)[5]? = some (Value.int f)) (sg : Int32) (h_sg : (σ0 a)[1]? = some (Value.int sg)) (hp0 : -sg.toInt ≤ 0) (hC : CT By Nb σ0 Sp) (hg : Sp.1 = 0) (hP : PLA a) (hX : FXP σ0 a) (hK : KN σ0 a Sp.2.2.2 (act Sp.2.2.2)) : En 6 136 none mr_64 (P_64x σ0 By Nb Sp a f sg) 0 [(0, .ref 3), (1, .ref a)] [] σ0 := by
  obtain ⟨hl_f, hu_f⟩ := WT_int hσ0 (g := 3) (by decide +kernel) (by decide +kernel) (l := 0) (u := 3) (by decide +kernel) h_f
  obtain ⟨hl_sg, hu_sg⟩ := WT_int hσ0 (g := 18) ha (by decide +kernel) (l := (-1)) (u := 4) (by decide +kernel) h_sg
  have hF0 : Fr [(3, 1), (3, 2), (3, 3), (3, 4), (3, 5), (3, 6), (20, 2), (21, 0), (22, 0)] σ0 σ0 := Fr_rfl
  have h1 := CT_k hC h_f
  refine En_Ps 1 (pc' := 1) (lv' := [(0, .ref 3), (1, .ref a)]) (st' := [.ref a]) rfl ?_
  refine En_getR (j := 5) (g' := 20) (u := 0) rfl rfl rfl ha (by decide +kernel) hσ0 (by decide +kernel) (fun a3 h2 ha3 => ?_)
  refine En_getI (j := 2) (l := 0) (u := 13) rfl rfl rfl ha3 (by decide +kernel) hσ0 (by decide +kernel) (fun z5 h4 h6 h7 => ?_)
  have h8 : a3 = a + 2 := ref_uniq h2 hX.2.1
  have h9 : Sp.2.2.2 3 = z5.toInt := KN_v hK (Or.inl (by decide)) (by decide) (by decide) (by rw [lcO_3]; exact h8) (by decide) h4
  refine En_Ps 1 (pc' := 9) (lv' := [(0, .ref 3), (1, .ref a)]) (st' := [.int (((Int8.ofInt 12).toInt32)), .int z5]) rfl ?_
  refine En_icLt _ rfl (by decide : ((Int8.ofInt 12).toInt32).toInt = 12) rfl (fun h10 => ?_) (fun h10 => ?_)
  · refine En_Ps 1 (pc' := 19) (lv' := [(0, .ref 3), (1, .ref a)]) (st' := [.ref 3]) rfl ?_
    obtain ⟨z12, h11, h13, h14⟩ := WT_peekI hσ0 tgz_3 (by decide +kernel : FT 3 3 = (0, 0, 1600)) (by decide +kernel)
    refine En_callV rfl rfl rfl rfl rfl rfl rfl rfl tgz_3 (by decide +kernel) rfl (c_72x σ0 hσ0 z12 h11 hC.1 (CT_at hC (by (first | exact q_d2dcd30e56 hg | omega)) h11)) (by decide) (by decide) (fun v16 σ17 h15 => ?_)
    obtain ⟨h18, h19, rfl, h20⟩ := h15
    have h21 := h20
    have h22 := Fr_trans hF0 h19 (by decide +kernel)
    obtain ⟨S23, h24⟩ : ∃ q : PS, q = adv By Nb Sp := ⟨_, rfl⟩
    have h25 : CT By Nb σ17 S23 := by rw [h24]; exact (CT_adv hC (by (first | exact q_d2dcd30e56 hg | omega)) h11 h19 (by decide +kernel) h21.2)
    have h26 := CT_k h25 ((h19 _ _ (inW tgz_3 (by decide +kernel))).trans h_f)
    have h27 : S23.2.2.2 = Sp.2.2.2 := by rw [h24]; exact adv_w
    have h28 : S23.1 = Sp.1 := by rw [h24]; exact adv_1
    have h29 := KN_fr hP hK h19 (by decide +kernel)
    have h30 : S23.2.2.2 = Sp.2.2.2 := h27.trans (rfl : Sp.2.2.2 = Sp.2.2.2)
    have o31 : OUT σ0 σ17 a := OUT_fr OUT_0 h19 (by decide +kernel)
    refine En_Ps 3 (pc' := 25) (lv' := [(0, .ref 3), (1, .ref a)]) (st' := [.ref a, .ref a, .ref 3]) rfl ?_
    refine En_getK (j := 5) ((h19 _ _ (inW ha (by decide +kernel))).trans h2) rfl rfl rfl ha (by decide +kernel) ?_
    refine En_callV rfl rfl rfl rfl rfl rfl rfl rfl tgz_3 (by decide +kernel) rfl (c_69x σ17 h18 a ha a3 ha3 f ((h19 _ _ (inW tgz_3 (by decide +kernel))).trans h_f) sg ((h19 _ _ (inW ha (by decide +kernel))).trans h_sg) (by first | exact q_a555021d16 hp0 | omega) h25 (by (first | exact q_e3c834491b h26 hl_f h28 hg | omega)) hP (FXP_fr hP hX h22 (by decide +kernel)) (by rw [h30]; exact h29) (show LSN σ17 a a3 S23.2.2.2 (122 + 2 * Sp.2.2.2 3) 3 from by rw [h30]; exact LSN_e (FXP_fr hP hX h22 (by decide +kernel)) h8 rfl (by (first | exact q_2d21ab1e6c h9 h6 | omega)) (by (first | exact q_8b161d605d h9 h10 | omega)))) (by decide) (by decide) (fun v33 σ34 h32 => ?_)
    obtain ⟨h35, h36, z38, h39, rfl, h37⟩ := h32
    have h40 := h37.2.2.2.2.2
    have h41 := Fr_trans h22 h36 (by decide +kernel)
    obtain ⟨S42, h43⟩ : ∃ q : PS, q = fSaid By Nb (122 + 2 * Sp.2.2.2 3) (3) S23 := ⟨_, rfl⟩
    have h44 : CT By Nb σ34 S42 := by rw [h43]; exact h40.1
    have h45 := CT_k h44 h39
    have o46 : OUT σ0 σ34 a := OUT_tr o31 h37.1
    have h47 : fExam By Nb Sp = S42 := by unfold fExam; (try dsimp only); first | (rw [← h24, ← h43]; first | done | rfl) | (rw [← h24, ← h43]; rw [if_pos (by omega)]; first | done | rfl) | (rw [← h24, ← h43]; rw [if_neg (by (first | exact q_babe5b57fd h9 h10 | omega))]; first | done | rfl) | (rw [← h24, ← h43]; rw [if_neg (by omega), if_pos (by omega)]; first | done | rfl) | (rw [← h24, ← h43]; rw [if_neg (by omega), if_neg (by omega)]; first | done | rfl) | (rw [← h24, ← h43]; rw [if_neg (by omega), if_neg (by omega), if_neg (by omega)]; first | done | rfl)
    exact En_ret (v := none) rfl rfl rfl ⟨h35, h41, z38, h39, rfl, ⟨o46, by first | exact q_a555021d16 h37.2.1 | omega, by first | exact q_c733b715bf h37.2.2.1 | omega, by first | exact q_d22b102a8e h37.2.2.2.1 | omega, by first | exact q_83f4b1e050 h37.2.2.2.1 | omega, (by rw [h47]; exact ⟨h44, fun zz => by exact (by rw [h43] at zz ⊢; exact KN_exm zz (h40.2 zz) rfl (by rw [h30]) (by (first | exact q_2d21ab1e6c h9 h6 | omega)))⟩)⟩⟩
  · refine En_Ps 2 (pc' := 14) (lv' := [(0, .ref 3), (1, .ref a)]) (st' := [.int ((Int32.ofInt 3)), .ref 3]) rfl ?_
    have := (by decide : ((Int32.ofInt 3)).toInt = 3)
    refine En_callV rfl rfl rfl rfl rfl rfl rfl rfl tgz_3 (by decide +kernel) rfl (c_54x σ0 hσ0 ((Int32.ofInt 3)) (geI (by decide : (Int32.ofInt 3).toInt = 3) (by decide)) (leI (by decide : (Int32.ofInt 3).toInt = 3) (by decide)) f h_f hC) (by decide) (by decide) (fun v49 σ50 h48 => ?_)
    obtain ⟨h51, h52, z54, h55, rfl, h53⟩ := h48
    have h56 := h53.2.2.2.2.2
    have h57 := Fr_trans hF0 h52 (by decide +kernel)
    obtain ⟨S58, h59⟩ : ∃ q : PS, q = err By Nb 3 Sp := ⟨_, rfl⟩
    have h60 : CT By Nb σ50 S58 := by rw [h59]; exact (CT_eq h56 (err_cg (by (first | exact q_5736040b52 this | omega))))
    have h61 := CT_k h60 h55
    have h62 : S58.2.2.2 = Sp.2.2.2 := by rw [h59]; exact err_w
    have h63 := KN_fr hP hK h52 (by decide +kernel)
    have h64 : S58.2.2.2 = Sp.2.2.2 := h62.trans (rfl : Sp.2.2.2 = Sp.2.2.2)
    have o65 : OUT σ0 σ50 a := OUT_fr OUT_0 h52 (by decide +kernel)
    have h66 : fExam By Nb Sp = S58 := by unfold fExam; (try dsimp only); first | (rw [← h59]; first | done | rfl) | (rw [← h59]; rw [if_pos (by (first | exact q_1e1a7f2189 h9 h10 | omega))]; first | done | rfl) | (rw [← h59]; rw [if_neg (by omega)]; first | done | rfl) | (rw [← h59]; rw [if_neg (by omega), if_pos (by omega)]; first | done | rfl) | (rw [← h59]; rw [if_neg (by omega), if_neg (by omega)]; first | done | rfl) | (rw [← h59]; rw [if_neg (by omega), if_neg (by omega), if_neg (by omega)]; first | done | rfl)
    exact En_ret (v := none) rfl rfl rfl ⟨h51, h57, z54, h55, rfl, ⟨o65, by first | exact q_1a6ee862c1 h53.1 | omega, by first | exact q_c733b715bf h53.2.1 | omega, by first | exact q_d22b102a8e h53.2.2.1 | omega, by first | exact q_83f4b1e050 h53.2.2.1 | omega, (by rw [h66]; exact ⟨h60, fun z => absurd z (by (first | exact q_78d9c54eee z h61 h53.1 | omega))⟩)⟩⟩
/-- DoorSchool$Reader.readTwin(LDoorSchool$Plan;)V -/
abbrev P_70x (σ0 : SG) (By : Int → Int) (Nb : Int) (Sp : PS) (a : Nat) (f : Int32) (sg : Int32) : PO := fun v σ => WT σ ∧ Fr [(3, 1), (3, 2), (3, 3), (3, 4), (3, 5), (3, 6), (28, 3)] σ0 σ ∧ ∃ f1 : Int32, (σ 3)[5]? = some (Value.int f1) ∧ v = none ∧ OUT σ0 σ a ∧ -f1.toInt ≤ 0 ∧ f1.toInt - 3 ≤ 0 ∧ -f1.toInt + f.toInt ≤ 0 ∧ f.toInt - f1.toInt ≤ 0 ∧ (CT By Nb σ (fTwin By Nb Sp) ∧ ((fTwin By Nb Sp).1 = 0 → KN σ a (fTwin By Nb Sp).2.2.2 (act (fTwin By Nb Sp).2.2.2)))
set_option maxRecDepth 10000 in
set_option maxHeartbeats 4000000 in
theorem c_70x {By : Int → Int} {Nb : Int} {Sp : PS} (σ0 : SG) (hσ0 : WT σ0) (a : Nat) (ha : TG a = 18) (f : Int32) (h_f : (σ0 3)[5]? = some (Value.int f)) (sg : Int32) (h_sg : (σ0 a)[1]? = some (Value.int sg)) (hp0 : -sg.toInt ≤ 0) (hC : CT By Nb σ0 Sp) (hg : Sp.1 = 0) (hP : PLA a) (hX : FXP σ0 a) (hK : KN σ0 a Sp.2.2.2 (act Sp.2.2.2)) : En 2 43 none mr_70 (P_70x σ0 By Nb Sp a f sg) 0 [(0, .ref 3), (1, .ref a)] [] σ0 := by
  obtain ⟨hl_f, hu_f⟩ := WT_int hσ0 (g := 3) (by decide +kernel) (by decide +kernel) (l := 0) (u := 3) (by decide +kernel) h_f
  obtain ⟨hl_sg, hu_sg⟩ := WT_int hσ0 (g := 18) ha (by decide +kernel) (l := (-1)) (u := 4) (by decide +kernel) h_sg
  have hF0 : Fr [(3, 1), (3, 2), (3, 3), (3, 4), (3, 5), (3, 6), (28, 3)] σ0 σ0 := Fr_rfl
  have h1 := CT_k hC h_f
  obtain ⟨z3, h2, h4, h5⟩ := WT_peekI hσ0 ha (by decide +kernel : FT 18 3 = (0, 0, 4)) (by decide +kernel)
  have h6 : Sp.2.2.2 2 = z3.toInt := KN_v hK (Or.inl (by decide)) (by decide) (by decide) (by rw [lcO_lt (by decide) (by decide), Nat.add_zero]) rfl h2
  refine En_Ps 1 (pc' := 1) (lv' := [(0, .ref 3), (1, .ref a)]) (st' := [.ref 3]) rfl ?_
  obtain ⟨z8, h7, h9, h10⟩ := WT_peekI hσ0 tgz_3 (by decide +kernel : FT 3 3 = (0, 0, 1600)) (by decide +kernel)
  refine En_callV rfl rfl rfl rfl rfl rfl rfl rfl tgz_3 (by decide +kernel) rfl (c_72x σ0 hσ0 z8 h7 hC.1 (CT_at hC (by (first | exact q_d2dcd30e56 hg | omega)) h7)) (by decide) (by decide) (fun v12 σ13 h11 => ?_)
  obtain ⟨h14, h15, rfl, h16⟩ := h11
  have h17 := h16
  have h18 := Fr_trans hF0 h15 (by decide +kernel)
  obtain ⟨S19, h20⟩ : ∃ q : PS, q = adv By Nb Sp := ⟨_, rfl⟩
  have h21 : CT By Nb σ13 S19 := by rw [h20]; exact (CT_adv hC (by (first | exact q_d2dcd30e56 hg | omega)) h7 h15 (by decide +kernel) h17.2)
  have h22 := CT_k h21 ((h15 _ _ (inW tgz_3 (by decide +kernel))).trans h_f)
  have h23 : S19.2.2.2 = Sp.2.2.2 := by rw [h20]; exact adv_w
  have h24 : S19.1 = Sp.1 := by rw [h20]; exact adv_1
  have h25 := KN_fr hP hK h15 (by decide +kernel)
  have h26 : S19.2.2.2 = Sp.2.2.2 := h23.trans (rfl : Sp.2.2.2 = Sp.2.2.2)
  have o27 : OUT σ0 σ13 a := OUT_fr OUT_0 h15 (by decide +kernel)
  have h28 : S19.2.2.2 2 = Sp.2.2.2 2 := by rw [h26]
  refine En_Ps 3 (pc' := 7) (lv' := [(0, .ref 3), (1, .ref a)]) (st' := [.ref a, .int ((Int32.ofInt 0)), .ref 3]) rfl ?_
  refine En_getK (j := 3) ((h15 _ _ (inW ha (by decide +kernel))).trans h2) rfl rfl rfl ha (by decide +kernel) ?_
  refine En_Ps 2 (pc' := 12) (lv' := [(0, .ref 3), (1, .ref a)]) (st' := [.int ((z3 - ((Int32.ofInt 1)))), .int ((Int32.ofInt 0)), .ref 3]) rfl ?_
  refine En_top (subI rfl (by decide : (Int32.ofInt 1).toInt = 1) (by first | exact q_93f9478bef h4 | omega) (by first | exact q_cc3cee8591 h5 | omega)) (fun z29 h30 => ?_)
  have := (by decide : ((Int32.ofInt 0)).toInt = 0)
  refine En_callV rfl rfl rfl rfl rfl rfl rfl rfl tgz_3 (by decide +kernel) rfl (c_58x σ13 h14 ((Int32.ofInt 0)) z29 f ((h15 _ _ (inW tgz_3 (by decide +kernel))).trans h_f) h21) (by decide) (by decide) (fun v32 σ33 h31 => ?_)
  obtain ⟨h34, h35, z37, h38, z39, rfl, h36⟩ := h31
  have h40 := h36.2.2.2.2.2.2.2.2.2
  have h41 := Fr_trans h18 h35 (by decide +kernel)
  have h42 : nH By Nb ((Int32.ofInt 0)).toInt z29.toInt S19 = nH By Nb (0) (S19.2.2.2 2 - 1) S19 := nH_cg2 (fun zz => by (first | exact q_d2dcd30e56 this | omega)) (fun zz => by (first | exact q_fc1643fb33 h30 h28 h6 | omega))
  obtain ⟨S43, h44⟩ : ∃ q : PS, q = nH By Nb (0) (S19.2.2.2 2 - 1) S19 := ⟨_, rfl⟩
  have h45 : CT By Nb σ33 S43 := by rw [h44]; exact (CT_eq h40.1 h42)
  have h46 := CT_k h45 h38
  have h47 : Imp (S43.1 = 0) (z39.toInt = tV By Nb S19.2.2.1) := fun z => Imp_m h40.2 (by rw [h42, ← h44]; exact z)
  have h48 : Imp (S43.1 = 0) (S19.1 = 0 ∧ tK By Nb S19.2.2.1 = 2 ∧ 0 ≤ tV By Nb S19.2.2.1 ∧ tV By Nb S19.2.2.1 ≤ S19.2.2.2 2 - 1) := fun z => nH_gg (by rw [← h44]; exact z)
  have h49 : S43.2.2.2 = S19.2.2.2 := by rw [h44]; exact nH_w
  have h50 := KN_fr hP h25 h35 (by decide +kernel)
  have h51 : S43.2.2.2 = Sp.2.2.2 := h49.trans h26
  have o52 : OUT σ0 σ33 a := OUT_fr o27 h35 (by decide +kernel)
  have h53 := Imp_m h36.2.2.2.2.2.2.2.1 (by first | exact q_7d8964ea46 h30 h4 | omega)
  have h54 := Imp_m h36.2.2.2.2.2.2.2.2.1 (by (first | exact q_83da3d7e14 this | omega))
  refine En_Ps 2 (pc' := 17) (lv' := [(2, .int z39), (0, .ref 3), (1, .ref a)]) (st' := [.ref 3]) rfl ?_
  refine En_getK (j := 5) h38 rfl rfl rfl tgz_3 (by decide +kernel) ?_
  refine En_iNe _ rfl rfl (fun h55 => ?_) (fun h55 => ?_)
  · have h56 := Imp_m h36.2.2.2.2.2.2.1 (by first | exact q_e3350da514 h55 h36.2.1 | omega)
    have h57 : tw1 By Nb S19 = S43 := by rw [h44]; exact tw1_n (d := z39.toInt) (fun zz => by rw [← h44] at zz; rw [h26]; exact ⟨by (first | exact q_454ea91654 h55 h36.2.1 h46 zz | omega), by (first | exact q_7531ae8d1a h55 h36.2.1 h46 zz | omega), by (first | exact q_84d73a9aa6 h55 h36.2.1 h46 zz | omega)⟩)
    refine En_Ps 1 (pc' := 50) (lv' := [(2, .int z39), (0, .ref 3), (1, .ref a)]) (st' := [.ref 3]) rfl ?_
    refine En_getK (j := 5) h38 rfl rfl rfl tgz_3 (by decide +kernel) ?_
    refine En_iEq _ rfl rfl (fun hx => by exfalso; have := Imp_m h36.2.2.2.2.2.1 (by (first | exact q_c5d285f1b9 hx | omega)); (first | exact q_d05eb45c8d this.1 h56.1 (by decide) | omega)) (fun h58 => ?_)
    have h59 : fTwin By Nb Sp = S43 := by unfold fTwin; (try dsimp only); first | (rw [← h20, h57]; first | done | rfl) | (rw [← h20, h57]; rw [if_pos (by (first | exact q_f23c6e8e00 h58 h36.2.1 h46 | omega))]; first | done | rfl) | (rw [← h20, h57]; rw [if_neg (by omega)]; first | done | rfl) | (rw [← h20, h57]; rw [if_neg (by omega), if_pos (by omega)]; first | done | rfl) | (rw [← h20, h57]; rw [if_neg (by omega), if_neg (by omega)]; first | done | rfl) | (rw [← h20, h57]; rw [if_neg (by omega), if_neg (by omega), if_neg (by omega)]; first | done | rfl)
    exact En_ret (v := none) rfl rfl rfl ⟨h34, h41, z37, h38, rfl, ⟨o52, by first | exact q_bc42505ae9 h55 h36.2.1 | omega, by first | exact q_c733b715bf h36.2.2.1 | omega, by first | exact q_d22b102a8e h36.2.2.2.1 | omega, by first | exact q_83f4b1e050 h36.2.2.2.1 | omega, (by rw [h59]; exact ⟨h45, fun z => absurd z (by (first | exact q_ae2d14d533 h58 h36.2.1 h46 z | omega))⟩)⟩⟩
  · have h60 := Imp_m h36.2.2.2.2.2.1 (by first | exact q_c5d285f1b9 h55 | omega)
    try have h61 := Imp_m h48 (by (first | exact q_ca23768860 h46 h55 | omega))
    try have h62 := Imp_m h47 (by (first | exact q_ca23768860 h46 h55 | omega))
    refine En_Ps 1 (pc' := 24) (lv' := [(2, .int z39), (0, .ref 3), (1, .ref a)]) (st' := [.ref a]) rfl ?_
    refine En_getR (j := 4) (g' := 19) (u := 0) rfl rfl rfl ha (by decide +kernel) h34 (by decide +kernel) (fun a64 h63 ha64 => ?_)
    refine En_Ps 1 (pc' := 28) (lv' := [(2, .int z39), (0, .ref 3), (1, .ref a)]) (st' := [.int z39, .ref a64]) rfl ?_
    refine En_aald (g' := 28) (u := 0) rfl rfl ha64 (by decide +kernel) h34 (by (first | exact q_39e281d0cf h60.1 this | omega)) (lnI (by decide +kernel : LN _ = 4) (by first | exact q_9af1b6be4e h53 h30 h5 | omega)) (FTsgl (by decide +kernel)) (fun a66 h65 ha66 => ?_)
    have h67 := DRc (d := z39.toInt) (FXP_fr hP hX h41 (by decide +kernel)) h63 h65 (by (first | exact q_39e281d0cf h60.1 this | omega)) (by (first | exact q_8a99f2014a h60.2 h30 h5 | omega))
    have h68 := lc_d (d := z39.toInt) (by (first | exact q_39e281d0cf h60.1 this | omega)) (by (first | exact q_8a99f2014a h60.2 h30 h5 | omega))
    refine En_getI (j := 3) (l := (-1)) (u := 3) rfl rfl rfl ha66 (by decide +kernel) h34 (by decide +kernel) (fun z70 h69 h71 h72 => ?_)
    have h73 : Sp.2.2.2 (13 + 4 * z39.toInt) = z70.toInt := KN_v h50 (Or.inr (Or.inl ⟨by (first | exact q_17f86db6e0 h60.1 this | omega), by (first | exact q_15c75b3d55 h60.2 h30 h5 | omega), by omega⟩)) (by (first | exact q_1bf2135cd7 h54 | omega)) (by (first | exact q_acf046215f h60.2 h30 h5 | omega)) (by omega) (by (first | exact q_67bf5599ba h68.2.2.2.2.2.2.2 | omega)) h69
    refine En_Ps 1 (pc' := 33) (lv' := [(2, .int z39), (0, .ref 3), (1, .ref a)]) (st' := [.int ((Int32.ofInt (-1))), .int z70]) rfl ?_
    refine En_icNe _ rfl (by decide : (Int32.ofInt (-1)).toInt = -1) rfl (fun h74 => ?_) (fun h74 => ?_)
    · refine En_Ps 2 (pc' := 46) (lv' := [(2, .int z39), (0, .ref 3), (1, .ref a)]) (st' := [.int ((Int32.ofInt 2)), .ref 3]) rfl ?_
      have := (by decide : ((Int32.ofInt 2)).toInt = 2)
      refine En_callV rfl rfl rfl rfl rfl rfl rfl rfl tgz_3 (by decide +kernel) rfl (c_54x σ33 h34 ((Int32.ofInt 2)) (geI (by decide : (Int32.ofInt 2).toInt = 2) (by decide)) (leI (by decide : (Int32.ofInt 2).toInt = 2) (by decide)) z37 h38 h45) (by decide) (by decide) (fun v76 σ77 h75 => ?_)
      obtain ⟨h78, h79, z81, h82, rfl, h80⟩ := h75
      have h83 := h80.2.2.2.2.2
      have h84 := Fr_trans h41 h79 (by decide +kernel)
      obtain ⟨S85, h86⟩ : ∃ q : PS, q = err By Nb 2 S43 := ⟨_, rfl⟩
      have h87 : CT By Nb σ77 S85 := by rw [h86]; exact (CT_eq h83 (err_cg (by (first | exact q_bef0c64981 this | omega))))
      have h88 := CT_k h87 h82
      have h89 : S85.2.2.2 = S43.2.2.2 := by rw [h86]; exact err_w
      have h90 := KN_fr hP h50 h79 (by decide +kernel)
      have h91 : S85.2.2.2 = Sp.2.2.2 := h89.trans h51
      have o92 : OUT σ0 σ77 a := OUT_fr o52 h79 (by decide +kernel)
      have h93 := Imp_m h80.2.2.2.1 (by first | exact q_c5d285f1b9 h55 | omega)
      have h94 : tw1 By Nb S19 = S85 := by rw [h86, h44]; exact tw1_p (d := z39.toInt) (by rw [← h44]; (first | exact q_ca23768860 h46 h55 | omega)) (by (first | exact q_b1495600e7 h62 | omega)) (by rw [h26]; (first | exact q_81a7511a22 h74 h71 h73 | omega))
      refine En_Ps 1 (pc' := 50) (lv' := [(2, .int z39), (0, .ref 3), (1, .ref a)]) (st' := [.ref 3]) rfl ?_
      refine En_getK (j := 5) h82 rfl rfl rfl tgz_3 (by decide +kernel) ?_
      refine En_iEq _ rfl rfl (fun hx => by exfalso; have := Imp_m h36.2.2.2.2.2.2.1 (by (first | exact q_f4f2768de0 h80.1 hx | omega)); have := Imp_m h80.2.2.2.2.1 (by (first | exact q_f4f2768de0 h80.1 hx | omega)); (first | exact q_a0b22f2d75 h80.1 hx | omega)) (fun h95 => ?_)
      have h96 : fTwin By Nb Sp = S85 := by unfold fTwin; (try dsimp only); first | (rw [← h20, h94]; first | done | rfl) | (rw [← h20, h94]; rw [if_pos (by (first | exact q_ff7af2fbd3 h88 h93.2 this | omega))]; first | done | rfl) | (rw [← h20, h94]; rw [if_neg (by omega)]; first | done | rfl) | (rw [← h20, h94]; rw [if_neg (by omega), if_pos (by omega)]; first | done | rfl) | (rw [← h20, h94]; rw [if_neg (by omega), if_neg (by omega)]; first | done | rfl) | (rw [← h20, h94]; rw [if_neg (by omega), if_neg (by omega), if_neg (by omega)]; first | done | rfl)
      exact En_ret (v := none) rfl rfl rfl ⟨h78, h84, z81, h82, rfl, ⟨o92, by first | exact q_1a6ee862c1 h80.1 | omega, by first | exact q_c733b715bf h80.2.1 | omega, by first | exact q_ccc3bb8fc9 h36.2.2.2.1 h80.2.2.1 | omega, by first | exact q_28bfca2c13 h36.2.2.2.1 h80.2.2.1 | omega, (by rw [h96]; exact ⟨h87, fun z => absurd z (by (first | exact q_d9c1c0f2d8 z h88 h93.2 this | omega))⟩)⟩⟩
    · refine En_Ps 2 (pc' := 38) (lv' := [(2, .int z39), (0, .ref 3), (1, .ref a)]) (st' := [.int z39, .ref a]) rfl ?_
      refine En_callV rfl rfl rfl rfl rfl rfl rfl rfl ha (by decide +kernel) rfl (c_45x σ33 h34 a ha z39 hP (FXP_fr hP hX h41 (by decide +kernel)) h50) (by decide) (by decide) (fun v98 σ99 h97 => ?_)
      obtain ⟨h100, h101, z103, rfl, h102⟩ := h97
      have h104 := h102.2.2.2
      obtain rfl : σ33 = σ99 := Fr_nil h101
      have h105 := h104
      refine En_iEq _ rfl rfl (fun h106 => ?_) (fun h106 => ?_)
      · have h107 : tw1 By Nb S19 = S43 := by rw [h44]; exact tw1_n (d := z39.toInt) (fun zz => by rw [← h44] at zz; rw [h26]; exact ⟨by (first | exact q_b1495600e7 h62 | omega), by (first | exact q_424eccd413 h73 h74 | omega), by (first | exact q_3ea9b2d286 h105 h106 | omega)⟩)
        refine En_Ps 1 (pc' := 50) (lv' := [(2, .int z39), (0, .ref 3), (1, .ref a)]) (st' := [.ref 3]) rfl ?_
        refine En_getK (j := 5) h38 rfl rfl rfl tgz_3 (by decide +kernel) ?_
        refine En_iEq _ rfl rfl (fun h108 => ?_) (fun hx => by exfalso; have := Imp_m h36.2.2.2.2.2.2.1 (by (first | exact q_cbcd9bbf70 hx h55 | omega)); (first | exact q_be0c4221b2 this.1 h60.1 (by decide) | omega))
        refine En_Ps 1 (pc' := 58) (lv' := [(2, .int z39), (0, .ref 3), (1, .ref a)]) (st' := [.ref 3]) rfl ?_
        obtain ⟨z110, h109, h111, h112⟩ := WT_peekI h34 tgz_3 (by decide +kernel : FT 3 3 = (0, 0, 1600)) (by decide +kernel)
        refine En_callV rfl rfl rfl rfl rfl rfl rfl rfl tgz_3 (by decide +kernel) rfl (c_72x σ33 h34 z110 h109 h45.1 (CT_at h45 (by (first | exact q_ca23768860 h46 h108 | omega)) h109)) (by decide) (by decide) (fun v114 σ115 h113 => ?_)
        obtain ⟨h116, h117, rfl, h118⟩ := h113
        have h119 := h118
        have h120 := Fr_trans h41 h117 (by decide +kernel)
        obtain ⟨S121, h122⟩ : ∃ q : PS, q = adv By Nb S43 := ⟨_, rfl⟩
        have h123 : CT By Nb σ115 S121 := by rw [h122]; exact (CT_adv h45 (by (first | exact q_ca23768860 h46 h108 | omega)) h109 h117 (by decide +kernel) h119.2)
        have h124 := CT_k h123 ((h117 _ _ (inW tgz_3 (by decide +kernel))).trans h38)
        have h125 : S121.2.2.2 = S43.2.2.2 := by rw [h122]; exact adv_w
        have h126 : S121.1 = S43.1 := by rw [h122]; exact adv_1
        have h127 := KN_fr hP h50 h117 (by decide +kernel)
        have h128 : S121.2.2.2 = Sp.2.2.2 := h125.trans h51
        have o129 : OUT σ0 σ115 a := OUT_fr o52 h117 (by decide +kernel)
        have h130 : S121.2.2.2 2 = Sp.2.2.2 2 := by rw [h128]
        refine En_Ps 3 (pc' := 64) (lv' := [(2, .int z39), (0, .ref 3), (1, .ref a)]) (st' := [.ref a, .int ((Int32.ofInt 0)), .ref 3]) rfl ?_
        refine En_getK (j := 3) ((h117 _ _ (inW ha (by decide +kernel))).trans ((h35 _ _ (inW ha (by decide +kernel))).trans ((h15 _ _ (inW ha (by decide +kernel))).trans h2))) rfl rfl rfl ha (by decide +kernel) ?_
        refine En_Ps 2 (pc' := 69) (lv' := [(2, .int z39), (0, .ref 3), (1, .ref a)]) (st' := [.int ((z3 - ((Int32.ofInt 1)))), .int ((Int32.ofInt 0)), .ref 3]) rfl ?_
        refine En_top (subI rfl (by decide : (Int32.ofInt 1).toInt = 1) (by first | exact q_93f9478bef h4 | omega) (by first | exact q_cc3cee8591 h5 | omega)) (fun z131 h132 => ?_)
        have := (by decide : ((Int32.ofInt 0)).toInt = 0)
        refine En_callV rfl rfl rfl rfl rfl rfl rfl rfl tgz_3 (by decide +kernel) rfl (c_58x σ115 h116 ((Int32.ofInt 0)) z131 z37 ((h117 _ _ (inW tgz_3 (by decide +kernel))).trans h38) h123) (by decide) (by decide) (fun v134 σ135 h133 => ?_)
        obtain ⟨h136, h137, z139, h140, z141, rfl, h138⟩ := h133
        have h142 := h138.2.2.2.2.2.2.2.2.2
        have h143 := Fr_trans h120 h137 (by decide +kernel)
        have h144 : nH By Nb ((Int32.ofInt 0)).toInt z131.toInt S121 = nH By Nb (0) (S121.2.2.2 2 - 1) S121 := nH_cg2 (fun zz => by (try have i0 := Imp_m h48 (by (first | exact q_7ed2936742 h126 zz | omega))); (try have i1 := Imp_m h47 (by (first | exact q_7ed2936742 h126 zz | omega))); (try have i2 := Imp_m h36.2.2.2.2.2.2.1 (by omega)); (try have i3 := Imp_m h102.2.2.1 (by (first | exact q_4a9a3bab54 h106 i2.1 i1 i0.2.2.1 | omega))); (first | exact q_d2dcd30e56 this | omega)) (fun zz => by (try have i0 := Imp_m h48 (by (first | exact q_7ed2936742 h126 zz | omega))); (try have i1 := Imp_m h47 (by (first | exact q_7ed2936742 h126 zz | omega))); (try have i2 := Imp_m h36.2.2.2.2.2.2.1 (by omega)); (try have i3 := Imp_m h102.2.2.1 (by (first | exact q_4a9a3bab54 h106 i2.1 i1 i0.2.2.1 | omega))); (first | exact q_5104168655 i2.1 h60.1 this | omega))
        obtain ⟨S145, h146⟩ : ∃ q : PS, q = nH By Nb (0) (S121.2.2.2 2 - 1) S121 := ⟨_, rfl⟩
        have h147 : CT By Nb σ135 S145 := by rw [h146]; exact (CT_eq h142.1 h144)
        have h148 := CT_k h147 h140
        have h149 : Imp (S145.1 = 0) (z141.toInt = tV By Nb S121.2.2.1) := fun z => Imp_m h142.2 (by rw [h144, ← h146]; exact z)
        have h150 : Imp (S145.1 = 0) (S121.1 = 0 ∧ tK By Nb S121.2.2.1 = 2 ∧ 0 ≤ tV By Nb S121.2.2.1 ∧ tV By Nb S121.2.2.1 ≤ S121.2.2.2 2 - 1) := fun z => nH_gg (by rw [← h146]; exact z)
        have h151 : S145.2.2.2 = S121.2.2.2 := by rw [h146]; exact nH_w
        have h152 := KN_fr hP h127 h137 (by decide +kernel)
        have h153 : S145.2.2.2 = Sp.2.2.2 := h151.trans h128
        have o154 : OUT σ0 σ135 a := OUT_fr o129 h137 (by decide +kernel)
        have h155 := Imp_m h138.2.2.2.2.2.2.2.1 (by first | exact q_7d8964ea46 h132 h4 | omega)
        have h156 := Imp_m h138.2.2.2.2.2.2.2.2.1 (by (first | exact q_83da3d7e14 this | omega))
        refine En_Ps 2 (pc' := 74) (lv' := [(3, .int z141), (2, .int z39), (0, .ref 3), (1, .ref a)]) (st' := [.ref 3]) rfl ?_
        refine En_getK (j := 5) h140 rfl rfl rfl tgz_3 (by decide +kernel) ?_
        refine En_iNe _ rfl rfl (fun h157 => ?_) (fun h157 => ?_)
        · have h158 := Imp_m h138.2.2.2.2.2.2.1 (by first | exact q_e3350da514 h157 h138.2.1 | omega)
          have h159 : tw2 By Nb (tV By Nb S19.2.2.1) S121 = S145 := by rw [h146]; exact tw2_n (d := z141.toInt) (fun zz => by rw [← h146] at zz; rw [h128]; exact ⟨by (first | exact q_454ea91654 h157 h138.2.1 h148 zz | omega), by (first | exact q_117fe07b36 h158.1 h61.2.2.1 | omega), by (first | exact q_7531ae8d1a h157 h138.2.1 h148 zz | omega)⟩)
          refine En_Ps 1 (pc' := 104) (lv' := [(3, .int z141), (2, .int z39), (0, .ref 3), (1, .ref a)]) (st' := [.ref 3]) rfl ?_
          refine En_getK (j := 5) h140 rfl rfl rfl tgz_3 (by decide +kernel) ?_
          refine En_iNe _ rfl rfl (fun h160 => ?_) (fun hx => by exfalso; have := Imp_m h36.2.2.2.2.2.2.1 (by (first | exact q_847b22faba h157 hx | omega)); have := Imp_m h138.2.2.2.2.2.1 (by (first | exact q_c5d285f1b9 hx | omega)); (first | exact q_d05eb45c8d this.1 h158.1 (by decide) | omega))
          have h161 : fTwin By Nb Sp = S145 := by unfold fTwin; (try dsimp only); first | (rw [← h20, h107, ← h122, h159]; first | done | rfl) | (rw [← h20, h107, ← h122, h159]; rw [if_pos (by omega)]; first | done | rfl) | (rw [← h20, h107, ← h122, h159]; rw [if_neg (by (first | exact q_09c22b40fa h108 h46 | omega))]; first | done | rfl) | (rw [← h20, h107, ← h122, h159]; rw [if_neg (by (first | exact q_09c22b40fa h108 h46 | omega)), if_pos (by (first | exact q_f23c6e8e00 h160 h138.2.1 h148 | omega))]; first | done | rfl) | (rw [← h20, h107, ← h122, h159]; rw [if_neg (by omega), if_neg (by omega)]; first | done | rfl) | (rw [← h20, h107, ← h122, h159]; rw [if_neg (by omega), if_neg (by omega), if_neg (by omega)]; first | done | rfl)
          exact En_ret (v := none) rfl rfl rfl ⟨h136, h143, z139, h140, rfl, ⟨o154, by first | exact q_bc42505ae9 h157 h138.2.1 | omega, by first | exact q_c733b715bf h138.2.2.1 | omega, by first | exact q_ccc3bb8fc9 h36.2.2.2.1 h138.2.2.2.1 | omega, by first | exact q_28bfca2c13 h36.2.2.2.1 h138.2.2.2.1 | omega, (by rw [h161]; exact ⟨h147, fun z => absurd z (by (first | exact q_ae2d14d533 h160 h138.2.1 h148 z | omega))⟩)⟩⟩
        · have h162 := Imp_m h138.2.2.2.2.2.1 (by first | exact q_c5d285f1b9 h157 | omega)
          try have h163 := Imp_m h150 (by (first | exact q_ca23768860 h148 h157 | omega))
          try have h164 := Imp_m h149 (by (first | exact q_ca23768860 h148 h157 | omega))
          try have h165 := Imp_m h48 (by (first | exact q_177442734c h126 h163.1 h108 h46 | omega))
          try have h166 := Imp_m h47 (by (first | exact q_177442734c h126 h163.1 h108 h46 | omega))
          refine En_Ps 2 (pc' := 82) (lv' := [(3, .int z141), (2, .int z39), (0, .ref 3), (1, .ref a)]) (st' := [.int z39, .int z141]) rfl ?_
          refine En_icEq _ rfl rfl rfl (fun h167 => ?_) (fun h167 => ?_)
          · refine En_Ps 2 (pc' := 100) (lv' := [(3, .int z141), (2, .int z39), (0, .ref 3), (1, .ref a)]) (st' := [.int ((Int32.ofInt 2)), .ref 3]) rfl ?_
            have := (by decide : ((Int32.ofInt 2)).toInt = 2)
            refine En_callV rfl rfl rfl rfl rfl rfl rfl rfl tgz_3 (by decide +kernel) rfl (c_54x σ135 h136 ((Int32.ofInt 2)) (geI (by decide : (Int32.ofInt 2).toInt = 2) (by decide)) (leI (by decide : (Int32.ofInt 2).toInt = 2) (by decide)) z139 h140 h147) (by decide) (by decide) (fun v169 σ170 h168 => ?_)
            obtain ⟨h171, h172, z174, h175, rfl, h173⟩ := h168
            have h176 := h173.2.2.2.2.2
            have h177 := Fr_trans h143 h172 (by decide +kernel)
            obtain ⟨S178, h179⟩ : ∃ q : PS, q = err By Nb 2 S145 := ⟨_, rfl⟩
            have h180 : CT By Nb σ170 S178 := by rw [h179]; exact (CT_eq h176 (err_cg (by (first | exact q_bef0c64981 this | omega))))
            have h181 := CT_k h180 h175
            have h182 : S178.2.2.2 = S145.2.2.2 := by rw [h179]; exact err_w
            have h183 := KN_fr hP h152 h172 (by decide +kernel)
            have h184 : S178.2.2.2 = Sp.2.2.2 := h182.trans h153
            have o185 : OUT σ0 σ170 a := OUT_fr o154 h172 (by decide +kernel)
            have h186 := Imp_m h173.2.2.2.1 (by first | exact q_c5d285f1b9 h157 | omega)
            have h187 : tw2 By Nb (tV By Nb S19.2.2.1) S121 = S178 := by rw [h179, h146]; exact tw2_p (d := z141.toInt) (by rw [← h146]; (first | exact q_ca23768860 h148 h157 | omega)) (by (first | exact q_b1495600e7 h164 | omega)) (by rw [h128]; (first | exact q_2656a9fad9 h167 h166 | omega))
            refine En_Ps 1 (pc' := 104) (lv' := [(3, .int z141), (2, .int z39), (0, .ref 3), (1, .ref a)]) (st' := [.ref 3]) rfl ?_
            refine En_getK (j := 5) h175 rfl rfl rfl tgz_3 (by decide +kernel) ?_
            refine En_iNe _ rfl rfl (fun h188 => ?_) (fun hx => by exfalso; have := Imp_m h36.2.2.2.2.2.2.1 (by (first | exact q_f4f2768de0 h173.1 hx | omega)); have := Imp_m h138.2.2.2.2.2.2.1 (by (first | exact q_f4f2768de0 h173.1 hx | omega)); have := Imp_m h173.2.2.2.2.1 (by (first | exact q_f4f2768de0 h173.1 hx | omega)); (first | exact q_a0b22f2d75 h173.1 hx | omega))
            have h189 : fTwin By Nb Sp = S178 := by unfold fTwin; (try dsimp only); first | (rw [← h20, h107, ← h122, h187]; first | done | rfl) | (rw [← h20, h107, ← h122, h187]; rw [if_pos (by omega)]; first | done | rfl) | (rw [← h20, h107, ← h122, h187]; rw [if_neg (by (first | exact q_bc4cf70d53 h126 h163.1 | omega))]; first | done | rfl) | (rw [← h20, h107, ← h122, h187]; rw [if_neg (by (first | exact q_bc4cf70d53 h126 h163.1 | omega)), if_pos (by (first | exact q_ff7af2fbd3 h181 h186.2 this | omega))]; first | done | rfl) | (rw [← h20, h107, ← h122, h187]; rw [if_neg (by omega), if_neg (by omega)]; first | done | rfl) | (rw [← h20, h107, ← h122, h187]; rw [if_neg (by omega), if_neg (by omega), if_neg (by omega)]; first | done | rfl)
            exact En_ret (v := none) rfl rfl rfl ⟨h171, h177, z174, h175, rfl, ⟨o185, by first | exact q_1a6ee862c1 h173.1 | omega, by first | exact q_c733b715bf h173.2.1 | omega, by first | exact q_967777951c h36.2.2.2.1 h173.1 h55 | omega, by first | exact q_366671f89f h36.2.2.2.1 h173.1 h55 | omega, (by rw [h189]; exact ⟨h180, fun z => absurd z (by (first | exact q_d9c1c0f2d8 z h181 h186.2 this | omega))⟩)⟩⟩
          · refine En_Ps 1 (pc' := 86) (lv' := [(3, .int z141), (2, .int z39), (0, .ref 3), (1, .ref a)]) (st' := [.ref a]) rfl ?_
            refine En_getK (j := 4) ((h137 _ _ (inW ha (by decide +kernel))).trans ((h117 _ _ (inW ha (by decide +kernel))).trans h63)) rfl rfl rfl ha (by decide +kernel) ?_
            refine En_Ps 1 (pc' := 90) (lv' := [(3, .int z141), (2, .int z39), (0, .ref 3), (1, .ref a)]) (st' := [.int z141, .ref a64]) rfl ?_
            refine En_aald (g' := 28) (u := 0) rfl rfl ha64 (by decide +kernel) h136 (by (first | exact q_39e281d0cf h162.1 this | omega)) (lnI (by decide +kernel : LN _ = 4) (by first | exact q_9af1b6be4e h155 h132 h5 | omega)) (FTsgl (by decide +kernel)) (fun a191 h190 ha191 => ?_)
            have h192 := DRc (d := z141.toInt) (FXP_fr hP hX h143 (by decide +kernel)) ((h137 _ _ (inW ha (by decide +kernel))).trans ((h117 _ _ (inW ha (by decide +kernel))).trans h63)) h190 (by (first | exact q_39e281d0cf h162.1 this | omega)) (by (first | exact q_8a99f2014a h162.2 h132 h5 | omega))
            have h193 := lc_d (d := z141.toInt) (by (first | exact q_39e281d0cf h162.1 this | omega)) (by (first | exact q_8a99f2014a h162.2 h132 h5 | omega))
            refine En_getI (j := 3) (l := (-1)) (u := 3) rfl rfl rfl ha191 (by decide +kernel) h136 (by decide +kernel) (fun z195 h194 h196 h197 => ?_)
            have h198 : Sp.2.2.2 (13 + 4 * z141.toInt) = z195.toInt := KN_v h152 (Or.inr (Or.inl ⟨by (first | exact q_17f86db6e0 h162.1 this | omega), by (first | exact q_15c75b3d55 h162.2 h132 h5 | omega), by omega⟩)) (by (first | exact q_1bf2135cd7 h156 | omega)) (by (first | exact q_acf046215f h162.2 h132 h5 | omega)) (by omega) (by (first | exact q_67bf5599ba h193.2.2.2.2.2.2.2 | omega)) h194
            refine En_Ps 1 (pc' := 95) (lv' := [(3, .int z141), (2, .int z39), (0, .ref 3), (1, .ref a)]) (st' := [.int ((Int32.ofInt (-1))), .int z195]) rfl ?_
            refine En_icEq _ rfl (by decide : (Int32.ofInt (-1)).toInt = -1) rfl (fun h199 => ?_) (fun h199 => ?_)
            · have h200 : tw2 By Nb (tV By Nb S19.2.2.1) S121 = S145 := by rw [h146]; exact tw2_n (d := z141.toInt) (fun zz => by rw [← h146] at zz; rw [h128]; exact ⟨by (first | exact q_b1495600e7 h164 | omega), by (first | exact q_c09aebb141 h167 h166 | omega), by (first | exact q_424eccd413 h198 h199 | omega)⟩)
              refine En_Ps 1 (pc' := 104) (lv' := [(3, .int z141), (2, .int z39), (0, .ref 3), (1, .ref a)]) (st' := [.ref 3]) rfl ?_
              refine En_getK (j := 5) h140 rfl rfl rfl tgz_3 (by decide +kernel) ?_
              refine En_iNe _ rfl rfl (fun hx => by exfalso; have := Imp_m h36.2.2.2.2.2.2.1 (by (first | exact q_847b22faba hx h157 | omega)); have := Imp_m h138.2.2.2.2.2.2.1 (by (first | exact q_cbcd9bbf70 hx h157 | omega)); (first | exact q_be0c4221b2 this.1 h162.1 (by decide) | omega)) (fun h201 => ?_)
              try have h202 := Imp_m h150 (by (first | exact q_ca23768860 h148 h201 | omega))
              try have h203 := Imp_m h149 (by (first | exact q_ca23768860 h148 h201 | omega))
              try have h204 := Imp_m h48 (by (first | exact q_177442734c h126 h202.1 h108 h46 | omega))
              try have h205 := Imp_m h47 (by (first | exact q_177442734c h126 h202.1 h108 h46 | omega))
              refine En_Ps 1 (pc' := 111) (lv' := [(3, .int z141), (2, .int z39), (0, .ref 3), (1, .ref a)]) (st' := [.ref a]) rfl ?_
              refine En_getK (j := 4) ((h137 _ _ (inW ha (by decide +kernel))).trans ((h117 _ _ (inW ha (by decide +kernel))).trans h63)) rfl rfl rfl ha (by decide +kernel) ?_
              refine En_Ps 1 (pc' := 115) (lv' := [(3, .int z141), (2, .int z39), (0, .ref 3), (1, .ref a)]) (st' := [.int z39, .ref a64]) rfl ?_
              refine En_aald (g' := 28) (u := 0) rfl rfl ha64 (by decide +kernel) h136 (by (first | exact q_39e281d0cf h60.1 this | omega)) (lnI (by decide +kernel : LN _ = 4) (by first | exact q_9af1b6be4e h53 h30 h5 | omega)) (FTsgl (by decide +kernel)) (fun a207 h206 ha207 => ?_)
              have h208 := DRc (d := z39.toInt) (FXP_fr hP hX h143 (by decide +kernel)) ((h137 _ _ (inW ha (by decide +kernel))).trans ((h117 _ _ (inW ha (by decide +kernel))).trans h63)) h206 (by (first | exact q_39e281d0cf h60.1 this | omega)) (by (first | exact q_8a99f2014a h60.2 h30 h5 | omega))
              have h209 := lc_d (d := z39.toInt) (by (first | exact q_39e281d0cf h60.1 this | omega)) (by (first | exact q_8a99f2014a h60.2 h30 h5 | omega))
              have h210 := lc_d (d := (tV By Nb S19.2.2.1)) (by (first | exact q_58e6e51dcc h204.2.2.1 | omega)) (by (first | exact q_50c52117e6 h204.2.2.2 h28 h6 h5 | omega))
              refine En_Ps 1 (pc' := 117) (lv' := [(3, .int z141), (2, .int z39), (0, .ref 3), (1, .ref a)]) (st' := [.int z141, .ref a207]) rfl ?_
              refine En_put (j := 3) rfl rfl rfl ha207 (by decide +kernel) rfl (vI (l := (-1)) (u := 3) (by decide +kernel) rfl (by first | exact q_ce01e7a6da h156 | omega) (by first | exact q_5856343edf h155 h132 h5 | omega)) h136 h143 (by decide +kernel) (fun σ211 h212 h213 h214 h215 => ?_)
              obtain ⟨S216, h217⟩ : ∃ q : PS, q = wst S145 (13 + 4 * (tV By Nb S19.2.2.1)) ((tV By Nb S121.2.2.1)) := ⟨_, rfl⟩
              have h218 : CT By Nb σ211 S216 := by rw [h217]; exact CT_wst (CT_ne h147 h215 (by have := hP; unfold PLA at this; omega))
              have h219 : KN σ211 a (uPd Sp.2.2.2 (13 + 4 * (tV By Nb S19.2.2.1)) ((tV By Nb S121.2.2.1))) (fun t => (act Sp.2.2.2 t ∨ t = 13 + 4 * (tV By Nb S19.2.2.1))) := KN_st h152 h214 h215 (by (first | exact q_ecbead000b h204.2.2.1 | omega)) (by (first | exact q_bb54290c9a h204.2.2.2 h28 h6 h5 | omega)) (by omega) (by (first | exact q_67bf5599ba h210.2.2.2.2.2.2.2 | omega)) (by (first | exact q_a8fb2024c1 h203 | omega))
              have h220 : S216.2.2.2 = (uPd Sp.2.2.2 (13 + 4 * (tV By Nb S19.2.2.1)) ((tV By Nb S121.2.2.1))) := by rw [h217]; show uPd S145.2.2.2 _ _ = _; rw [h153]
              have h221 : S216.1 = S145.1 := by rw [h217]; rfl
              have h222 := CT_k h218 ((h215 _ _ (Or.inr (by decide))).trans h140)
              have o223 : OUT σ0 σ211 a := OUT_st o154 h215 (by omega)
              refine En_Ps 1 (pc' := 121) (lv' := [(3, .int z141), (2, .int z39), (0, .ref 3), (1, .ref a)]) (st' := [.ref 3]) rfl ?_
              obtain ⟨z225, h224, h226, h227⟩ := WT_peekI h212 tgz_3 (by decide +kernel : FT 3 3 = (0, 0, 1600)) (by decide +kernel)
              refine En_callV rfl rfl rfl rfl rfl rfl rfl rfl tgz_3 (by decide +kernel) rfl (c_72x σ211 h212 z225 h224 h218.1 (CT_at h218 (by (first | exact q_ca23768860 h222 h201 | omega)) h224)) (by decide) (by decide) (fun v229 σ230 h228 => ?_)
              obtain ⟨h231, h232, rfl, h233⟩ := h228
              have h234 := h233
              have h235 := Fr_trans h213 h232 (by decide +kernel)
              obtain ⟨S236, h237⟩ : ∃ q : PS, q = adv By Nb S216 := ⟨_, rfl⟩
              have h238 : CT By Nb σ230 S236 := by rw [h237]; exact (CT_adv h218 (by (first | exact q_ca23768860 h222 h201 | omega)) h224 h232 (by decide +kernel) h234.2)
              have h239 := CT_k h238 ((h232 _ _ (inW tgz_3 (by decide +kernel))).trans ((h215 _ _ (Or.inr (by decide))).trans h140))
              have h240 : S236.2.2.2 = S216.2.2.2 := by rw [h237]; exact adv_w
              have h241 : S236.1 = S216.1 := by rw [h237]; exact adv_1
              have h242 := KN_fr hP h219 h232 (by decide +kernel)
              have h243 : S236.2.2.2 = (uPd Sp.2.2.2 (13 + 4 * (tV By Nb S19.2.2.1)) ((tV By Nb S121.2.2.1))) := h240.trans h220
              have o244 : OUT σ0 σ230 a := OUT_fr o223 h232 (by decide +kernel)
              have h245 : fTwin By Nb Sp = S236 := by unfold fTwin; (try dsimp only); first | (rw [← h20, h107, ← h122, h200, ← h217, ← h237]; first | done | rfl) | (rw [← h20, h107, ← h122, h200, ← h217, ← h237]; rw [if_pos (by omega)]; first | done | rfl) | (rw [← h20, h107, ← h122, h200, ← h217, ← h237]; rw [if_neg (by (first | exact q_bc4cf70d53 h126 h202.1 | omega))]; first | done | rfl) | (rw [← h20, h107, ← h122, h200, ← h217, ← h237]; rw [if_neg (by (first | exact q_bc4cf70d53 h126 h202.1 | omega)), if_pos (by omega)]; first | done | rfl) | (rw [← h20, h107, ← h122, h200, ← h217, ← h237]; rw [if_neg (by (first | exact q_bc4cf70d53 h126 h202.1 | omega)), if_neg (by (first | exact q_4bf99f1336 h148 h201 | omega))]; first | done | rfl) | (rw [← h20, h107, ← h122, h200, ← h217, ← h237]; rw [if_neg (by omega), if_neg (by omega), if_neg (by omega)]; first | done | rfl)
              exact En_ret (v := none) rfl rfl rfl ⟨h231, h235, z139, ((h232 _ _ (inW tgz_3 (by decide +kernel))).trans ((h215 _ _ (Or.inr (by decide))).trans h140)), rfl, ⟨o244, by first | exact q_a555021d16 h138.2.1 | omega, by first | exact q_bd3fa30443 h157 | omega, by first | exact q_ccc3bb8fc9 h36.2.2.2.1 h138.2.2.2.1 | omega, by first | exact q_28bfca2c13 h36.2.2.2.1 h138.2.2.2.1 | omega, (by rw [h245]; exact ⟨h238, fun zz => by rw [h243]; exact KN_sub h242 (fun t t0 t1 y => Or.inl (act_in (by (first | exact q_549ef2026b h204.2.2.1 | omega)) (by omega) y))⟩)⟩⟩
            · refine En_Ps 2 (pc' := 100) (lv' := [(3, .int z141), (2, .int z39), (0, .ref 3), (1, .ref a)]) (st' := [.int ((Int32.ofInt 2)), .ref 3]) rfl ?_
              have := (by decide : ((Int32.ofInt 2)).toInt = 2)
              refine En_callV rfl rfl rfl rfl rfl rfl rfl rfl tgz_3 (by decide +kernel) rfl (c_54x σ135 h136 ((Int32.ofInt 2)) (geI (by decide : (Int32.ofInt 2).toInt = 2) (by decide)) (leI (by decide : (Int32.ofInt 2).toInt = 2) (by decide)) z139 h140 h147) (by decide) (by decide) (fun v247 σ248 h246 => ?_)
              obtain ⟨h249, h250, z252, h253, rfl, h251⟩ := h246
              have h254 := h251.2.2.2.2.2
              have h255 := Fr_trans h143 h250 (by decide +kernel)
              obtain ⟨S256, h257⟩ : ∃ q : PS, q = err By Nb 2 S145 := ⟨_, rfl⟩
              have h258 : CT By Nb σ248 S256 := by rw [h257]; exact (CT_eq h254 (err_cg (by (first | exact q_bef0c64981 this | omega))))
              have h259 := CT_k h258 h253
              have h260 : S256.2.2.2 = S145.2.2.2 := by rw [h257]; exact err_w
              have h261 := KN_fr hP h152 h250 (by decide +kernel)
              have h262 : S256.2.2.2 = Sp.2.2.2 := h260.trans h153
              have o263 : OUT σ0 σ248 a := OUT_fr o154 h250 (by decide +kernel)
              have h264 := Imp_m h251.2.2.2.1 (by first | exact q_c5d285f1b9 h157 | omega)
              have h265 : tw2 By Nb (tV By Nb S19.2.2.1) S121 = S256 := by rw [h257, h146]; exact tw2_p (d := z141.toInt) (by rw [← h146]; (first | exact q_ca23768860 h148 h157 | omega)) (by (first | exact q_b1495600e7 h164 | omega)) (by rw [h128]; (first | exact q_b82fcfaf81 h199 h196 h198 | omega))
              refine En_Ps 1 (pc' := 104) (lv' := [(3, .int z141), (2, .int z39), (0, .ref 3), (1, .ref a)]) (st' := [.ref 3]) rfl ?_
              refine En_getK (j := 5) h253 rfl rfl rfl tgz_3 (by decide +kernel) ?_
              refine En_iNe _ rfl rfl (fun h266 => ?_) (fun hx => by exfalso; have := Imp_m h36.2.2.2.2.2.2.1 (by (first | exact q_f4f2768de0 h251.1 hx | omega)); have := Imp_m h138.2.2.2.2.2.2.1 (by (first | exact q_f4f2768de0 h251.1 hx | omega)); have := Imp_m h251.2.2.2.2.1 (by (first | exact q_f4f2768de0 h251.1 hx | omega)); (first | exact q_a0b22f2d75 h251.1 hx | omega))
              have h267 : fTwin By Nb Sp = S256 := by unfold fTwin; (try dsimp only); first | (rw [← h20, h107, ← h122, h265]; first | done | rfl) | (rw [← h20, h107, ← h122, h265]; rw [if_pos (by omega)]; first | done | rfl) | (rw [← h20, h107, ← h122, h265]; rw [if_neg (by (first | exact q_bc4cf70d53 h126 h163.1 | omega))]; first | done | rfl) | (rw [← h20, h107, ← h122, h265]; rw [if_neg (by (first | exact q_bc4cf70d53 h126 h163.1 | omega)), if_pos (by (first | exact q_ff7af2fbd3 h259 h264.2 this | omega))]; first | done | rfl) | (rw [← h20, h107, ← h122, h265]; rw [if_neg (by omega), if_neg (by omega)]; first | done | rfl) | (rw [← h20, h107, ← h122, h265]; rw [if_neg (by omega), if_neg (by omega), if_neg (by omega)]; first | done | rfl)
              exact En_ret (v := none) rfl rfl rfl ⟨h249, h255, z252, h253, rfl, ⟨o263, by first | exact q_1a6ee862c1 h251.1 | omega, by first | exact q_c733b715bf h251.2.1 | omega, by first | exact q_967777951c h36.2.2.2.1 h251.1 h55 | omega, by first | exact q_366671f89f h36.2.2.2.1 h251.1 h55 | omega, (by rw [h267]; exact ⟨h258, fun z => absurd z (by (first | exact q_d9c1c0f2d8 z h259 h264.2 this | omega))⟩)⟩⟩
      · have h268 := Imp_m h102.2.2.1 (by first | exact ⟨q_ad5b726bf8 h102.2.1, q_e3350da514 h106 h102.1⟩ | omega)
        refine En_Ps 2 (pc' := 46) (lv' := [(2, .int z39), (0, .ref 3), (1, .ref a)]) (st' := [.int ((Int32.ofInt 2)), .ref 3]) rfl ?_
        have := (by decide : ((Int32.ofInt 2)).toInt = 2)
        refine En_callV rfl rfl rfl rfl rfl rfl rfl rfl tgz_3 (by decide +kernel) rfl (c_54x σ33 h34 ((Int32.ofInt 2)) (geI (by decide : (Int32.ofInt 2).toInt = 2) (by decide)) (leI (by decide : (Int32.ofInt 2).toInt = 2) (by decide)) z37 h38 h45) (by decide) (by decide) (fun v270 σ271 h269 => ?_)
        obtain ⟨h272, h273, z275, h276, rfl, h274⟩ := h269
        have h277 := h274.2.2.2.2.2
        have h278 := Fr_trans h41 h273 (by decide +kernel)
        obtain ⟨S279, h280⟩ : ∃ q : PS, q = err By Nb 2 S43 := ⟨_, rfl⟩
        have h281 : CT By Nb σ271 S279 := by rw [h280]; exact (CT_eq h277 (err_cg (by (first | exact q_bef0c64981 this | omega))))
        have h282 := CT_k h281 h276
        have h283 : S279.2.2.2 = S43.2.2.2 := by rw [h280]; exact err_w
        have h284 := KN_fr hP h50 h273 (by decide +kernel)
        have h285 : S279.2.2.2 = Sp.2.2.2 := h283.trans h51
        have o286 : OUT σ0 σ271 a := OUT_fr o52 h273 (by decide +kernel)
        have h287 := Imp_m h274.2.2.2.1 (by first | exact q_c5d285f1b9 h55 | omega)
        have h288 : tw1 By Nb S19 = S279 := by rw [h280, h44]; exact tw1_p (d := z39.toInt) (by rw [← h44]; (first | exact q_ca23768860 h46 h55 | omega)) (by (first | exact q_b1495600e7 h62 | omega)) (by rw [h26]; (first | exact q_1df299be7d h105 h106 h102.1 h102.2.1 | omega))
        refine En_Ps 1 (pc' := 50) (lv' := [(2, .int z39), (0, .ref 3), (1, .ref a)]) (st' := [.ref 3]) rfl ?_
        refine En_getK (j := 5) h276 rfl rfl rfl tgz_3 (by decide +kernel) ?_
        refine En_iEq _ rfl rfl (fun hx => by exfalso; have := Imp_m h36.2.2.2.2.2.2.1 (by (first | exact q_f4f2768de0 h274.1 hx | omega)); have := Imp_m h274.2.2.2.2.1 (by (first | exact q_f4f2768de0 h274.1 hx | omega)); (first | exact q_a0b22f2d75 h274.1 hx | omega)) (fun h289 => ?_)
        have h290 : fTwin By Nb Sp = S279 := by unfold fTwin; (try dsimp only); first | (rw [← h20, h288]; first | done | rfl) | (rw [← h20, h288]; rw [if_pos (by (first | exact q_ff7af2fbd3 h282 h287.2 this | omega))]; first | done | rfl) | (rw [← h20, h288]; rw [if_neg (by omega)]; first | done | rfl) | (rw [← h20, h288]; rw [if_neg (by omega), if_pos (by omega)]; first | done | rfl) | (rw [← h20, h288]; rw [if_neg (by omega), if_neg (by omega)]; first | done | rfl) | (rw [← h20, h288]; rw [if_neg (by omega), if_neg (by omega), if_neg (by omega)]; first | done | rfl)
        exact En_ret (v := none) rfl rfl rfl ⟨h272, h278, z275, h276, rfl, ⟨o286, by first | exact q_1a6ee862c1 h274.1 | omega, by first | exact q_c733b715bf h274.2.1 | omega, by first | exact q_ccc3bb8fc9 h36.2.2.2.1 h274.2.2.1 | omega, by first | exact q_28bfca2c13 h36.2.2.2.1 h274.2.2.1 | omega, (by rw [h290]; exact ⟨h281, fun z => absurd z (by (first | exact q_d9c1c0f2d8 z h282 h287.2 this | omega))⟩)⟩⟩
end
/-! 32.n05 -/
section
/-- DoorSchool$Reader.takePart(I)I -/
abbrev P_74x (σ0 : SG) (By : Int → Int) (Nb : Int) (Sp : PS) (a : Int32) (f : Int32) : PO := fun v σ => WT σ ∧ Fr [(3, 1), (3, 2), (3, 3), (3, 4), (3, 5), (3, 6)] σ0 σ ∧ ∃ f1 : Int32, (σ 3)[5]? = some (Value.int f1) ∧ ∃ ret : Int32, v = some (Value.int ret) ∧ -ret.toInt - 1 ≤ 0 ∧ ret.toInt - 15 ≤ 0 ∧ -f1.toInt ≤ 0 ∧ f1.toInt - 3 ≤ 0 ∧ -f1.toInt + f.toInt ≤ 0 ∧ f.toInt - f1.toInt ≤ 0 ∧ Imp (f1.toInt ≤ 0) (-ret.toInt ≤ 0 ∧ ret.toInt - 15 ≤ 0) ∧ (CT By Nb σ (tP By Nb a.toInt Sp) ∧ Imp ((tP By Nb a.toInt Sp).1 = 0) (ret.toInt = tV By Nb Sp.2.2.1))
set_option maxRecDepth 10000 in
set_option maxHeartbeats 4000000 in
theorem c_74x {By : Int → Int} {Nb : Int} {Sp : PS} (σ0 : SG) (hσ0 : WT σ0) (a : Int32) (hl_a : (-1) ≤ a.toInt) (hu_a : a.toInt ≤ 15) (f : Int32) (h_f : (σ0 3)[5]? = some (Value.int f)) (hC : CT By Nb σ0 Sp) (ha : Sp.1 = 0 → 0 ≤ a.toInt) : En 2 43 none mr_74 (P_74x σ0 By Nb Sp a f) 0 [(0, .ref 3), (1, .int a)] [] σ0 := by
  obtain ⟨hl_f, hu_f⟩ := WT_int hσ0 (g := 3) (by decide +kernel) (by decide +kernel) (l := 0) (u := 3) (by decide +kernel) h_f
  have hF0 : Fr [(3, 1), (3, 2), (3, 3), (3, 4), (3, 5), (3, 6)] σ0 σ0 := Fr_rfl
  obtain ⟨z2, h1, h3, h4⟩ := WT_peekI hσ0 tgz_3 (by decide +kernel : FT 3 1 = (0, 0, 4)) (by decide +kernel)
  obtain ⟨z6, h5, h7, h8⟩ := WT_peekI hσ0 tgz_3 (by decide +kernel : FT 3 4 = (0, (-2147483648), 1000000)) (by decide +kernel)
  have h9 := CT_k hC h_f
  have h10 : Imp (Sp.1 = 0) (tK By Nb Sp.2.2.1 = z2.toInt) := CT_t hC h1
  have h11 : Imp (Sp.1 = 0 ∧ tK By Nb Sp.2.2.1 = 2) (z6.toInt = tV By Nb Sp.2.2.1 ∧ 0 ≤ tV By Nb Sp.2.2.1) := fun q => CT_u hC h5 q.1 q.2
  refine En_Ps 3 (pc' := 4) (lv' := [(0, .ref 3), (1, .int a)]) (st' := [.int (((Int8.ofInt 15).toInt32)), .int ((Int32.ofInt 0)), .ref 3]) rfl ?_
  have := (by decide : ((Int32.ofInt 0)).toInt = 0)
  have := (by decide : (((Int8.ofInt 15).toInt32)).toInt = 15)
  refine En_callV rfl rfl rfl rfl rfl rfl rfl rfl tgz_3 (by decide +kernel) rfl (c_58x σ0 hσ0 ((Int32.ofInt 0)) (((Int8.ofInt 15).toInt32)) f h_f hC) (by decide) (by decide) (fun v13 σ14 h12 => ?_)
  obtain ⟨h15, h16, z18, h19, z20, rfl, h17⟩ := h12
  have h21 := h17.2.2.2.2.2.2.2.2.2
  have h22 := Fr_trans hF0 h16 (by decide +kernel)
  have h23 : nH By Nb ((Int32.ofInt 0)).toInt (((Int8.ofInt 15).toInt32)).toInt Sp = nH By Nb (0) (15) Sp := nH_cg2 (fun zz => by (first | exact q_d2dcd30e56 (by decide) | omega)) (fun zz => by (first | exact q_595a12af71 this | omega))
  obtain ⟨S24, h25⟩ : ∃ q : PS, q = nH By Nb (0) (15) Sp := ⟨_, rfl⟩
  have h26 : CT By Nb σ14 S24 := by rw [h25]; exact (CT_eq h21.1 h23)
  have h27 := CT_k h26 h19
  have h28 : Imp (S24.1 = 0) (tK By Nb S24.2.2.1 = z2.toInt) := CT_t h26 ((h16 _ _ (inW tgz_3 (by decide +kernel))).trans h1)
  have h29 : Imp (S24.1 = 0 ∧ tK By Nb S24.2.2.1 = 2) (z6.toInt = tV By Nb S24.2.2.1 ∧ 0 ≤ tV By Nb S24.2.2.1) := fun q => CT_u h26 ((h16 _ _ (inW tgz_3 (by decide +kernel))).trans h5) q.1 q.2
  have h30 : Imp (S24.1 = 0) (z20.toInt = tV By Nb Sp.2.2.1) := fun z => Imp_m h21.2 (by rw [h23, ← h25]; exact z)
  have h31 : Imp (S24.1 = 0) (Sp.1 = 0 ∧ tK By Nb Sp.2.2.1 = 2 ∧ 0 ≤ tV By Nb Sp.2.2.1 ∧ tV By Nb Sp.2.2.1 ≤ 15) := fun z => nH_gg (by rw [← h25]; exact z)
  have h32 : S24.2.2.2 = Sp.2.2.2 := by rw [h25]; exact nH_w
  have h33 := Imp_m h17.2.2.2.2.2.2.2.1 (by (first | exact q_d6f92e2b6b this | omega))
  have h34 := Imp_m h17.2.2.2.2.2.2.2.2.1 (by (first | exact q_83da3d7e14 (by decide) | omega))
  refine En_Ps 2 (pc' := 9) (lv' := [(2, .int z20), (0, .ref 3), (1, .int a)]) (st' := [.ref 3]) rfl ?_
  refine En_getK (j := 5) h19 rfl rfl rfl tgz_3 (by decide +kernel) ?_
  refine En_iNe _ rfl rfl (fun h35 => ?_) (fun h35 => ?_)
  · have h36 := Imp_m h17.2.2.2.2.2.2.1 (by first | exact q_e3350da514 h35 h17.2.1 | omega)
    refine En_Ps 1 (pc' := 29) (lv' := [(2, .int z20), (0, .ref 3), (1, .int a)]) (st' := [.ref 3]) rfl ?_
    refine En_getK (j := 5) h19 rfl rfl rfl tgz_3 (by decide +kernel) ?_
    refine En_iNe _ rfl rfl (fun h37 => ?_) (fun hx => by exfalso; have := Imp_m h17.2.2.2.2.2.1 (by (first | exact q_c5d285f1b9 hx | omega)); (first | exact q_d05eb45c8d this.1 h36.1 (by decide) | omega))
    refine En_Ps 1 (pc' := 40) (lv' := [(2, .int z20), (0, .ref 3), (1, .int a)]) (st' := [.int z20]) rfl ?_
    exact En_ret (v := some (Value.int z20)) rfl rfl rfl ⟨h15, h22, z18, h19, z20, rfl, ⟨by first | exact q_98e1bded96 h34 | omega, by first | exact q_833ff042c7 h36.1 | omega, by first | exact q_bc42505ae9 h35 h17.2.1 | omega, by first | exact q_c733b715bf h17.2.2.1 | omega, by first | exact q_d22b102a8e h17.2.2.2.1 | omega, by first | exact q_83f4b1e050 h17.2.2.2.1 | omega, fun _ => by have := Imp_m h17.2.2.2.2.2.1 (by omega); (first | exact q_6fdb4a5b21 this.1 h36.1 (by decide) | omega), (by have q0 : tP By Nb a.toInt Sp = S24 := (by subst h25; first | exact tPc_e (by omega) (by omega) | exact tPc_a (by omega) | exact tPc_b (by (first | exact q_f23c6e8e00 h37 h17.2.1 h27 | omega))); rw [q0]; exact ⟨h26, fun zz => by (try have i0 := Imp_m h31 (by (first | exact q_d2dcd30e56 zz | omega))); (try have i1 := Imp_m h30 (by (first | exact q_d2dcd30e56 zz | omega))); (try have i2 := Imp_m h28 (by (first | exact q_d2dcd30e56 zz | omega))); (try have i3 := Imp_m h10 (by (first | exact q_d2dcd30e56 i0.1 | omega))); (try have i4 := Imp_m h11 (by (first | exact q_67e7eb0afa h37 h17.2.1 h27 zz | omega))); (try have i5 := Imp_m h29 (by (first | exact q_6075deff50 h37 h17.2.1 h27 zz | omega))); (try have i6 := Imp_m h17.2.2.2.2.2.1 (by (first | exact q_d8d8e6600d h27 zz | omega))); (first | exact q_b1495600e7 i1 | omega)⟩)⟩⟩
  · have h38 := Imp_m h17.2.2.2.2.2.1 (by first | exact q_c5d285f1b9 h35 | omega)
    try have h39 := Imp_m h31 (by (first | exact q_ca23768860 h27 h35 | omega))
    try have h40 := Imp_m h30 (by (first | exact q_ca23768860 h27 h35 | omega))
    try have h41 := Imp_m h28 (by (first | exact q_ca23768860 h27 h35 | omega))
    try have h42 := Imp_m h10 (by (first | exact q_d2dcd30e56 h39.1 | omega))
    try have h43 := Imp_m h11 (by (first | exact q_9292b3be67 h39.1 h39.2.1 | omega))
    try have h44 := Imp_m h29 (by (first | exact q_ccabb0b2c4 h27 h35 h41 h42 h39.2.1 | omega))
    refine En_Ps 2 (pc' := 17) (lv' := [(2, .int z20), (0, .ref 3), (1, .int a)]) (st' := [.int a, .int z20]) rfl ?_
    have h45 : sbI (z20.toInt) a.toInt = sbI (tV By Nb Sp.2.2.1) a.toInt := sbI_cg (by (first | exact q_b1495600e7 h40 | omega)) rfl
    refine En_Ps 2 (pc' := 19) (lv' := [(2, .int z20), (0, .ref 3), (1, .int a)]) (st' := [.int ((a ^^^ ((Int32.ofInt (-1))))), .int z20]) rfl ?_
    refine En_nam (fun z46 h47 => ?_)
    refine En_Ps 1 (pc' := 20) (lv' := [(2, .int z20), (0, .ref 3), (1, .int a)]) (st' := [.int ((z20 &&& z46))]) rfl ?_
    refine En_nam (fun z48 h49 => ?_)
    obtain ⟨h50, h51⟩ := andn_rng h49 rfl (by (first | exact q_39e281d0cf h38.1 (by decide) | omega)) (by (first | exact q_7f8afd14a3 h38.2 this | omega) : _ ≤ (15 : Int))
    refine En_iEq _ rfl rfl (fun h52 => ?_) (fun h52 => ?_)
    · have := sub_sbw h49 h47 rfl rfl (by (first | exact q_39e281d0cf h38.1 (by decide) | omega)) (by (first | exact q_d522d15adf ha h39.1 | omega)) (by (first | exact q_5a4d8a7e08 hu_a | omega))
      refine En_Ps 1 (pc' := 29) (lv' := [(2, .int z20), (0, .ref 3), (1, .int a)]) (st' := [.ref 3]) rfl ?_
      refine En_getK (j := 5) h19 rfl rfl rfl tgz_3 (by decide +kernel) ?_
      refine En_iNe _ rfl rfl (fun hx => by exfalso; have := Imp_m h17.2.2.2.2.2.2.1 (by (first | exact q_cbcd9bbf70 hx h35 | omega)); (first | exact q_be0c4221b2 this.1 h38.1 (by decide) | omega)) (fun h53 => ?_)
      refine En_Ps 1 (pc' := 36) (lv' := [(2, .int z20), (0, .ref 3), (1, .int a)]) (st' := [.ref 3]) rfl ?_
      obtain ⟨z55, h54, h56, h57⟩ := WT_peekI h15 tgz_3 (by decide +kernel : FT 3 3 = (0, 0, 1600)) (by decide +kernel)
      refine En_callV rfl rfl rfl rfl rfl rfl rfl rfl tgz_3 (by decide +kernel) rfl (c_72x σ14 h15 z55 h54 h26.1 (CT_at h26 (by (first | exact q_ca23768860 h27 h53 | omega)) h54)) (by decide) (by decide) (fun v59 σ60 h58 => ?_)
      obtain ⟨h61, h62, rfl, h63⟩ := h58
      have h64 := h63
      have h65 := Fr_trans h22 h62 (by decide +kernel)
      obtain ⟨S66, h67⟩ : ∃ q : PS, q = adv By Nb S24 := ⟨_, rfl⟩
      have h68 : CT By Nb σ60 S66 := by rw [h67]; exact (CT_adv h26 (by (first | exact q_ca23768860 h27 h53 | omega)) h54 h62 (by decide +kernel) h64.2)
      have h69 := CT_k h68 ((h62 _ _ (inW tgz_3 (by decide +kernel))).trans h19)
      have h70 : S66.2.2.2 = S24.2.2.2 := by rw [h67]; exact adv_w
      have h71 : S66.1 = S24.1 := by rw [h67]; exact adv_1
      refine En_Ps 1 (pc' := 40) (lv' := [(2, .int z20), (0, .ref 3), (1, .int a)]) (st' := [.int z20]) rfl ?_
      exact En_ret (v := some (Value.int z20)) rfl rfl rfl ⟨h61, h65, z18, ((h62 _ _ (inW tgz_3 (by decide +kernel))).trans h19), z20, rfl, ⟨by first | exact q_98e1bded96 h34 | omega, by (first | exact q_59c2c892c6 h40 h39.2.2.2 | omega), by first | exact q_a555021d16 h17.2.1 | omega, by first | exact q_bd3fa30443 h35 | omega, by first | exact q_d22b102a8e h17.2.2.2.1 | omega, by first | exact q_83f4b1e050 h17.2.2.2.1 | omega, fun _ => by (first | exact q_57a5ca172d h38.1 (by decide) h40 h39.2.2.2 | omega), (by have q0 : tP By Nb a.toInt Sp = S66 := (by subst h67; subst h25; first | exact tPc_e (by omega) (by omega) | exact tPc_a (by (first | exact q_84f4eeda74 this.1 h52 h45 | omega)) | exact tPc_b (by omega)); rw [q0]; exact ⟨h68, fun zz => by (try have i0 := Imp_m h31 (by (first | exact q_7ed2936742 h71 zz | omega))); (try have i1 := Imp_m h30 (by (first | exact q_7ed2936742 h71 zz | omega))); (try have i2 := Imp_m h28 (by (first | exact q_7ed2936742 h71 zz | omega))); (try have i3 := Imp_m h10 (by (first | exact q_d2dcd30e56 i0.1 | omega))); (try have i4 := Imp_m h11 (by (first | exact q_9292b3be67 i0.1 i0.2.1 | omega))); (try have i5 := Imp_m h29 (by (first | exact q_a9b656fe3f h71 zz i2 i3 i0.2.1 | omega))); (try have i6 := Imp_m h17.2.2.2.2.2.2.1 (by omega)); (first | exact q_b1495600e7 i1 | omega)⟩)⟩⟩
    · have := sub_sbw h49 h47 rfl rfl (by (first | exact q_39e281d0cf h38.1 (by decide) | omega)) (by (first | exact q_d522d15adf ha h39.1 | omega)) (by (first | exact q_5a4d8a7e08 hu_a | omega))
      refine En_Ps 2 (pc' := 25) (lv' := [(2, .int z20), (0, .ref 3), (1, .int a)]) (st' := [.int ((Int32.ofInt 2)), .ref 3]) rfl ?_
      have := (by decide : ((Int32.ofInt 2)).toInt = 2)
      refine En_callV rfl rfl rfl rfl rfl rfl rfl rfl tgz_3 (by decide +kernel) rfl (c_54x σ14 h15 ((Int32.ofInt 2)) (geI (by decide : (Int32.ofInt 2).toInt = 2) (by decide)) (leI (by decide : (Int32.ofInt 2).toInt = 2) (by decide)) z18 h19 h26) (by decide) (by decide) (fun v73 σ74 h72 => ?_)
      obtain ⟨h75, h76, z78, h79, rfl, h77⟩ := h72
      have h80 := h77.2.2.2.2.2
      have h81 := Fr_trans h22 h76 (by decide +kernel)
      obtain ⟨S82, h83⟩ : ∃ q : PS, q = err By Nb 2 S24 := ⟨_, rfl⟩
      have h84 : CT By Nb σ74 S82 := by rw [h83]; exact (CT_eq h80 (err_cg (by (first | exact q_bef0c64981 this | omega))))
      have h85 := CT_k h84 h79
      have h86 : Imp (S82.1 = 0) (tK By Nb S82.2.2.1 = z2.toInt) := CT_t h84 ((h76 _ _ (inW tgz_3 (by decide +kernel))).trans ((h16 _ _ (inW tgz_3 (by decide +kernel))).trans h1))
      have h87 : Imp (S82.1 = 0 ∧ tK By Nb S82.2.2.1 = 2) (z6.toInt = tV By Nb S82.2.2.1 ∧ 0 ≤ tV By Nb S82.2.2.1) := fun q => CT_u h84 ((h76 _ _ (inW tgz_3 (by decide +kernel))).trans ((h16 _ _ (inW tgz_3 (by decide +kernel))).trans h5)) q.1 q.2
      have h88 : S82.2.2.2 = S24.2.2.2 := by rw [h83]; exact err_w
      have h89 := Imp_m h77.2.2.2.1 (by first | exact q_c5d285f1b9 h35 | omega)
      refine En_Ps 1 (pc' := 29) (lv' := [(2, .int z20), (0, .ref 3), (1, .int a)]) (st' := [.ref 3]) rfl ?_
      refine En_getK (j := 5) h79 rfl rfl rfl tgz_3 (by decide +kernel) ?_
      refine En_iNe _ rfl rfl (fun h90 => ?_) (fun hx => by exfalso; have := Imp_m h17.2.2.2.2.2.2.1 (by (first | exact q_f4f2768de0 h77.1 hx | omega)); have := Imp_m h77.2.2.2.2.1 (by (first | exact q_f4f2768de0 h77.1 hx | omega)); (first | exact q_a0b22f2d75 h77.1 hx | omega))
      refine En_Ps 1 (pc' := 40) (lv' := [(2, .int z20), (0, .ref 3), (1, .int a)]) (st' := [.int z20]) rfl ?_
      exact En_ret (v := some (Value.int z20)) rfl rfl rfl ⟨h75, h81, z78, h79, z20, rfl, ⟨by first | exact q_98e1bded96 h34 | omega, by (first | exact q_59c2c892c6 h40 h39.2.2.2 | omega), by first | exact q_1a6ee862c1 h77.1 | omega, by first | exact q_c733b715bf h77.2.1 | omega, by first | exact q_ccc3bb8fc9 h17.2.2.2.1 h77.2.2.1 | omega, by first | exact q_28bfca2c13 h17.2.2.2.1 h77.2.2.1 | omega, fun _ => by (first | exact q_57a5ca172d h38.1 (by decide) h40 h39.2.2.2 | omega), (by have q0 : tP By Nb a.toInt Sp = S82 := (by subst h83; subst h25; first | exact tPc_e (by (first | exact q_ca23768860 h27 h35 | omega)) (by omega) | exact tPc_a (by omega) | exact tPc_b (by omega)); rw [q0]; exact ⟨h84, fun zz => by (try have i0 := Imp_m h86 (by (first | exact q_d2dcd30e56 zz | omega))); (try have i1 := Imp_m h31 (by (first | exact q_a08c6f1db3 h89.2 h85 this zz | omega))); (try have i2 := Imp_m h30 (by (first | exact q_a08c6f1db3 h89.2 h85 this zz | omega))); (try have i3 := Imp_m h28 (by (first | exact q_a08c6f1db3 h89.2 h85 this zz | omega))); (try have i4 := Imp_m h10 (by (first | exact q_d2dcd30e56 i1.1 | omega))); (try have i5 := Imp_m h11 (by (first | exact q_19df27505f h89.2 h85 this zz h90 h77.1 | omega))); (try have i6 := Imp_m h29 (by (first | exact q_19df27505f h89.2 h85 this zz h90 h77.1 | omega))); (try have i7 := Imp_m h87 (by (first | exact q_a4162e68f9 zz h85 h89.2 this h90 h77.1 | omega))); (try have i8 := Imp_m h17.2.2.2.2.2.2.1 (by (first | exact q_eb7bcac33b h89.2 h85 this zz | omega))); (try have i9 := Imp_m h77.2.2.2.2.1 (by (first | exact q_eb7bcac33b h89.2 h85 this zz | omega))); (first | exact q_b1495600e7 i2 | omega)⟩)⟩⟩
/-- DoorSchool$Reader.readOwner(LDoorSchool$Plan;)V -/
abbrev P_68x (σ0 : SG) (By : Int → Int) (Nb : Int) (Sp : PS) (a : Nat) (f : Int32) (sg : Int32) : PO := fun v σ => WT σ ∧ Fr [(3, 1), (3, 2), (3, 3), (3, 4), (3, 5), (3, 6), (18, 6), (18, 7)] σ0 σ ∧ ∃ f1 : Int32, (σ 3)[5]? = some (Value.int f1) ∧ v = none ∧ OUT σ0 σ a ∧ -f1.toInt ≤ 0 ∧ f1.toInt - 3 ≤ 0 ∧ -f1.toInt + f.toInt ≤ 0 ∧ f.toInt - f1.toInt ≤ 0 ∧ (CT By Nb σ (fOwner By Nb Sp) ∧ ((fOwner By Nb Sp).1 = 0 → KN σ a (fOwner By Nb Sp).2.2.2 (act (fOwner By Nb Sp).2.2.2)))
set_option maxRecDepth 10000 in
set_option maxHeartbeats 4000000 in
theorem c_68x {By : Int → Int} {Nb : Int} {Sp : PS} (σ0 : SG) (hσ0 : WT σ0) (a : Nat) (ha : TG a = 18) (f : Int32) (h_f : (σ0 3)[5]? = some (Value.int f)) (sg : Int32) (h_sg : (σ0 a)[1]? = some (Value.int sg)) (hp0 : -sg.toInt ≤ 0) (hC : CT By Nb σ0 Sp) (hg : Sp.1 = 0) (hP : PLA a) (hX : FXP σ0 a) (hK : KN σ0 a Sp.2.2.2 (act Sp.2.2.2)) : En 3 66 none mr_68 (P_68x σ0 By Nb Sp a f sg) 0 [(0, .ref 3), (1, .ref a)] [] σ0 := by
  obtain ⟨hl_f, hu_f⟩ := WT_int hσ0 (g := 3) (by decide +kernel) (by decide +kernel) (l := 0) (u := 3) (by decide +kernel) h_f
  obtain ⟨hl_sg, hu_sg⟩ := WT_int hσ0 (g := 18) ha (by decide +kernel) (l := (-1)) (u := 4) (by decide +kernel) h_sg
  have hF0 : Fr [(3, 1), (3, 2), (3, 3), (3, 4), (3, 5), (3, 6), (18, 6), (18, 7)] σ0 σ0 := Fr_rfl
  have h1 := CT_k hC h_f
  have h2 : Sp.2.2.2 0 = sg.toInt := KN_v hK (Or.inl (by decide)) (by decide) (by decide) (by rw [lcO_lt (by decide) (by decide), Nat.add_zero]) rfl h_sg
  have h3 : pI (Sp.2.2.2 0) = pI (sg.toInt) := by rw [h2]
  refine En_Ps 1 (pc' := 1) (lv' := [(0, .ref 3), (1, .ref a)]) (st' := [.ref 3]) rfl ?_
  obtain ⟨z5, h4, h6, h7⟩ := WT_peekI hσ0 tgz_3 (by decide +kernel : FT 3 3 = (0, 0, 1600)) (by decide +kernel)
  refine En_callV rfl rfl rfl rfl rfl rfl rfl rfl tgz_3 (by decide +kernel) rfl (c_72x σ0 hσ0 z5 h4 hC.1 (CT_at hC (by (first | exact q_d2dcd30e56 hg | omega)) h4)) (by decide) (by decide) (fun v9 σ10 h8 => ?_)
  obtain ⟨h11, h12, rfl, h13⟩ := h8
  have h14 := h13
  have h15 := Fr_trans hF0 h12 (by decide +kernel)
  obtain ⟨S16, h17⟩ : ∃ q : PS, q = adv By Nb Sp := ⟨_, rfl⟩
  have h18 : CT By Nb σ10 S16 := by rw [h17]; exact (CT_adv hC (by (first | exact q_d2dcd30e56 hg | omega)) h4 h12 (by decide +kernel) h14.2)
  have h19 := CT_k h18 ((h12 _ _ (inW tgz_3 (by decide +kernel))).trans h_f)
  have h20 : S16.2.2.2 = Sp.2.2.2 := by rw [h17]; exact adv_w
  have h21 : S16.1 = Sp.1 := by rw [h17]; exact adv_1
  have h22 := KN_fr hP hK h12 (by decide +kernel)
  have h23 : S16.2.2.2 = Sp.2.2.2 := h20.trans (rfl : Sp.2.2.2 = Sp.2.2.2)
  have o24 : OUT σ0 σ10 a := OUT_fr OUT_0 h12 (by decide +kernel)
  refine En_Ps 3 (pc' := 7) (lv' := [(0, .ref 3), (1, .ref a)]) (st' := [.ref a, .int ((Int32.ofInt 0)), .ref 3]) rfl ?_
  refine En_callV rfl rfl rfl rfl rfl rfl rfl rfl ha (by decide +kernel) rfl (c_51x σ10 h11 a ha sg ((h12 _ _ (inW ha (by decide +kernel))).trans h_sg) (by first | exact q_a555021d16 hp0 | omega)) (by decide) (by decide) (fun v26 σ27 h25 => ?_)
  obtain ⟨h28, h29, z31, rfl, h30⟩ := h25
  have h32 := h30.2.2
  obtain rfl : σ10 = σ27 := Fr_nil h29
  have h33 := h32
  have h34 : pI (S16.2.2.2 0) = z31.toInt := by rw [h23]; (first | exact q_eed4cd1e4b h33 h3 | omega)
  refine En_Ps 2 (pc' := 12) (lv' := [(0, .ref 3), (1, .ref a)]) (st' := [.int ((z31 - ((Int32.ofInt 1)))), .int ((Int32.ofInt 0)), .ref 3]) rfl ?_
  refine En_top (subI rfl (by decide : (Int32.ofInt 1).toInt = 1) (by first | exact q_ead043ab48 h30.1 | omega) (by first | exact q_9b40fa289d h30.2.1 | omega)) (fun z35 h36 => ?_)
  have := (by decide : ((Int32.ofInt 0)).toInt = 0)
  refine En_callV rfl rfl rfl rfl rfl rfl rfl rfl tgz_3 (by decide +kernel) rfl (c_73x σ10 h11 ((Int32.ofInt 0)) z35 f ((h12 _ _ (inW tgz_3 (by decide +kernel))).trans h_f) h18) (by decide) (by decide) (fun v38 σ39 h37 => ?_)
  obtain ⟨h40, h41, z43, h44, z45, rfl, h42⟩ := h37
  have h46 := h42.2.2.2.2.2.2.2.2.2
  have h47 := Fr_trans h15 h41 (by decide +kernel)
  have h48 : tN By Nb ((Int32.ofInt 0)).toInt z35.toInt S16 = tN By Nb (0) (pI (S16.2.2.2 0) - 1) S16 := tN_cg2 (fun zz => by (first | exact q_d2dcd30e56 this | omega)) (fun zz => by (first | exact q_171d7b85d9 h36 h34 | omega))
  obtain ⟨S49, h50⟩ : ∃ q : PS, q = tN By Nb (0) (pI (S16.2.2.2 0) - 1) S16 := ⟨_, rfl⟩
  have h51 : CT By Nb σ39 S49 := by rw [h50]; exact (CT_eq h46.1 h48)
  have h52 := CT_k h51 h44
  have h53 : Imp (S49.1 = 0) (z45.toInt = tV By Nb S16.2.2.1) := fun z => Imp_m h46.2 (by rw [h48, ← h50]; exact z)
  have h54 : Imp (S49.1 = 0) (S16.1 = 0 ∧ tK By Nb S16.2.2.1 = 2 ∧ 0 ≤ tV By Nb S16.2.2.1 ∧ tV By Nb S16.2.2.1 ≤ pI (S16.2.2.2 0) - 1) := fun z => tN_gg (by rw [← h50]; exact z)
  have h55 : S49.2.2.2 = S16.2.2.2 := by rw [h50]; exact tN_w
  have h56 := KN_fr hP h22 h41 (by decide +kernel)
  have h57 : S49.2.2.2 = Sp.2.2.2 := h55.trans h23
  have o58 : OUT σ0 σ39 a := OUT_fr o24 h41 (by decide +kernel)
  have h59 := Imp_m h42.2.2.2.2.2.2.2.1 (by first | exact q_81610a3c5e h36 h30.1 | omega)
  have h60 := Imp_m h42.2.2.2.2.2.2.2.2.1 (by (first | exact q_83da3d7e14 this | omega))
  refine En_Ps 3 (pc' := 18) (lv' := [(2, .int z45), (0, .ref 3), (1, .ref a)]) (st' := [.int z45, .ref 3]) rfl ?_
  refine En_callV rfl rfl rfl rfl rfl rfl rfl rfl tgz_3 (by decide +kernel) rfl (c_74x σ39 h40 z45 (geI rfl (by first | exact q_ce01e7a6da h60 | omega)) (leI rfl (by first | exact q_e1ef427644 h59 h36 h30.2.1 | omega)) z43 h44 h51 (fun zz => by (try have i0 := Imp_m h54 (by (first | exact q_d2dcd30e56 zz | omega))); (try have i1 := Imp_m h53 (by (first | exact q_d2dcd30e56 zz | omega))); (try have i2 := Imp_m h42.2.2.2.2.2.1 (by (first | exact q_d8d8e6600d h52 zz | omega))); (try have i3 := Imp_m h42.2.2.2.2.2.2.1 (by omega)); (first | exact q_ded8cce8c4 i3.1 i2.1 this | omega))) (by decide) (by decide) (fun v62 σ63 h61 => ?_)
  obtain ⟨h64, h65, z67, h68, z69, rfl, h66⟩ := h61
  have h70 := h66.2.2.2.2.2.2.2
  have h71 := Fr_trans h47 h65 (by decide +kernel)
  have h72 : tP By Nb z45.toInt S49 = tP By Nb (tV By Nb S16.2.2.1) S49 := tP_cg2 (fun zz => by (try have i0 := Imp_m h54 (by (first | exact q_d2dcd30e56 zz | omega))); (try have i1 := Imp_m h53 (by (first | exact q_d2dcd30e56 zz | omega))); (try have i2 := Imp_m h42.2.2.2.2.2.1 (by (first | exact q_d8d8e6600d h52 zz | omega))); (try have i3 := Imp_m h42.2.2.2.2.2.2.1 (by omega)); (first | exact q_b1495600e7 i1 | omega))
  obtain ⟨S73, h74⟩ : ∃ q : PS, q = tP By Nb (tV By Nb S16.2.2.1) S49 := ⟨_, rfl⟩
  have h75 : CT By Nb σ63 S73 := by rw [h74]; exact (CT_eq h70.1 h72)
  have h76 := CT_k h75 h68
  have h77 : Imp (S73.1 = 0) (z69.toInt = tV By Nb S49.2.2.1) := fun z => Imp_m h70.2 (by rw [h72, ← h74]; exact z)
  have h78 : Imp (S73.1 = 0) (S49.1 = 0) := fun z => tP_g (by rw [← h74]; exact z)
  have h79 : S73.2.2.2 = S49.2.2.2 := by rw [h74]; exact tP_w
  have h80 := KN_fr hP h56 h65 (by decide +kernel)
  have h81 : S73.2.2.2 = Sp.2.2.2 := h79.trans h57
  have o82 : OUT σ0 σ63 a := OUT_fr o58 h65 (by decide +kernel)
  refine En_Ps 2 (pc' := 23) (lv' := [(3, .int z69), (2, .int z45), (0, .ref 3), (1, .ref a)]) (st' := [.ref 3]) rfl ?_
  refine En_getK (j := 5) h68 rfl rfl rfl tgz_3 (by decide +kernel) ?_
  refine En_iNe _ rfl rfl (fun h83 => ?_) (fun h83 => ?_)
  · have h84 : fOwner By Nb Sp = S73 := by unfold fOwner fRule; (try dsimp only); first | (rw [← h17, ← h50, ← h74]; first | done | rfl) | (rw [← h17, ← h50, ← h74]; rw [if_pos (by omega)]; first | done | rfl) | (rw [← h17, ← h50, ← h74]; rw [if_neg (by (first | exact q_57b55acfde h83 h66.2.2.1 h76 | omega))]; first | done | rfl) | (rw [← h17, ← h50, ← h74]; rw [if_neg (by omega), if_pos (by omega)]; first | done | rfl) | (rw [← h17, ← h50, ← h74]; rw [if_neg (by omega), if_neg (by omega)]; first | done | rfl) | (rw [← h17, ← h50, ← h74]; rw [if_neg (by omega), if_neg (by omega), if_neg (by omega)]; first | done | rfl)
    exact En_ret (v := none) rfl rfl rfl ⟨h64, h71, z67, h68, rfl, ⟨o82, by first | exact q_bc42505ae9 h83 h66.2.2.1 | omega, by first | exact q_c733b715bf h66.2.2.2.1 | omega, by first | exact q_ccc3bb8fc9 h42.2.2.2.1 h66.2.2.2.2.1 | omega, by first | exact q_28bfca2c13 h42.2.2.2.1 h66.2.2.2.2.1 | omega, (by rw [h84]; exact ⟨h75, fun z => absurd z (by (first | exact q_ae2d14d533 h83 h66.2.2.1 h76 z | omega))⟩)⟩⟩
  · have h85 := Imp_m h42.2.2.2.2.2.1 (by first | exact q_31d5f588b1 h66.2.2.2.2.1 h83 | omega)
    have h86 := Imp_m h66.2.2.2.2.2.2.1 (by first | exact q_c5d285f1b9 h83 | omega)
    try have h87 := Imp_m h78 (by (first | exact q_ca23768860 h76 h83 | omega))
    try have h88 := Imp_m h77 (by (first | exact q_ca23768860 h76 h83 | omega))
    try have h89 := Imp_m h54 (by (first | exact q_d2dcd30e56 h87 | omega))
    try have h90 := Imp_m h53 (by (first | exact q_d2dcd30e56 h87 | omega))
    refine En_Ps 2 (pc' := 31) (lv' := [(3, .int z69), (2, .int z45), (0, .ref 3), (1, .ref a)]) (st' := [.int z45, .ref a]) rfl ?_
    refine En_put (j := 6) rfl rfl rfl ha (by decide +kernel) rfl (vI (l := 0) (u := 15) (by decide +kernel) rfl (by (first | exact q_39e281d0cf h85.1 this | omega)) (by first | exact q_e1ef427644 h59 h36 h30.2.1 | omega)) h64 h71 (by decide +kernel) (fun σ91 h92 h93 h94 h95 => ?_)
    obtain ⟨S96, h97⟩ : ∃ q : PS, q = wst S73 (8) ((tV By Nb S16.2.2.1)) := ⟨_, rfl⟩
    have h98 : CT By Nb σ91 S96 := by rw [h97]; exact CT_wst (CT_ne h75 h95 (by have := hP; unfold PLA at this; omega))
    have h99 : KN σ91 a (uPd Sp.2.2.2 (8) ((tV By Nb S16.2.2.1))) (fun t => (act Sp.2.2.2 t ∨ t = 8)) := KN_st h80 h94 h95 (by (first | decide | omega)) (by (first | decide | omega)) (by rw [lcO_lt (by decide) (by decide), Nat.add_zero]) (by decide) (by (try have i0 := Imp_m h78 (by (first | exact q_ca23768860 h76 h83 | omega))); (try have i1 := Imp_m h77 (by (first | exact q_ca23768860 h76 h83 | omega))); (try have i2 := Imp_m h54 (by (first | exact q_d2dcd30e56 i0 | omega))); (try have i3 := Imp_m h53 (by (first | exact q_d2dcd30e56 i0 | omega))); (try have i4 := Imp_m h42.2.2.2.2.2.2.1 (by omega)); (first | exact q_a8fb2024c1 i3 | omega))
    have h100 : S96.2.2.2 = (uPd Sp.2.2.2 (8) ((tV By Nb S16.2.2.1))) := by rw [h97]; show uPd S73.2.2.2 _ _ = _; rw [h81]
    have h101 : S96.1 = S73.1 := by rw [h97]; rfl
    have h102 := CT_k h98 ((h95 _ _ (Or.inr (by decide))).trans h68)
    have o103 : OUT σ0 σ91 a := OUT_st o82 h95 (by omega)
    refine En_Ps 2 (pc' := 36) (lv' := [(3, .int z69), (2, .int z45), (0, .ref 3), (1, .ref a)]) (st' := [.int z69, .ref a]) rfl ?_
    refine En_put (j := 7) rfl rfl rfl ha (by decide +kernel) rfl (vI (l := 0) (u := 15) (by decide +kernel) rfl (by first | exact q_ef1e8e38bf h86.1 | omega) (by first | exact q_5a5f544404 h66.2.1 | omega)) h92 h93 (by decide +kernel) (fun σ104 h105 h106 h107 h108 => ?_)
    obtain ⟨S109, h110⟩ : ∃ q : PS, q = wst S96 (8 + 1) ((tV By Nb S49.2.2.1)) := ⟨_, rfl⟩
    have h111 : CT By Nb σ104 S109 := by rw [h110]; exact CT_wst (CT_ne h98 h108 (by have := hP; unfold PLA at this; omega))
    have h112 : KN σ104 a (uPd (uPd Sp.2.2.2 (8) ((tV By Nb S16.2.2.1))) (8 + 1) ((tV By Nb S49.2.2.1))) (fun t => ((act Sp.2.2.2 t ∨ t = 8) ∨ t = 8 + 1)) := KN_st h99 h107 h108 (by (first | decide | omega)) (by (first | decide | omega)) (by rw [lcO_lt (by decide) (by decide), Nat.add_zero]) (by decide) (by (try have i0 := Imp_m h78 (by (first | exact q_ca23768860 h76 h83 | omega))); (try have i1 := Imp_m h77 (by (first | exact q_ca23768860 h76 h83 | omega))); (try have i2 := Imp_m h54 (by (first | exact q_d2dcd30e56 i0 | omega))); (try have i3 := Imp_m h53 (by (first | exact q_d2dcd30e56 i0 | omega))); (try have i4 := Imp_m h42.2.2.2.2.2.2.1 (by omega)); (first | exact q_a8fb2024c1 i1 | omega))
    have h113 : S109.2.2.2 = (uPd (uPd Sp.2.2.2 (8) ((tV By Nb S16.2.2.1))) (8 + 1) ((tV By Nb S49.2.2.1))) := by rw [h110]; show uPd S96.2.2.2 _ _ = _; rw [h100]
    have h114 : S109.1 = S96.1 := by rw [h110]; rfl
    have h115 := CT_k h111 ((h108 _ _ (Or.inr (by decide))).trans ((h95 _ _ (Or.inr (by decide))).trans h68))
    have o116 : OUT σ0 σ104 a := OUT_st o103 h108 (by omega)
    have h117 : fOwner By Nb Sp = S109 := by unfold fOwner fRule; (try dsimp only); first | (rw [← h17, ← h50, ← h74, ← h97, ← h110]; first | done | rfl) | (rw [← h17, ← h50, ← h74, ← h97, ← h110]; rw [if_pos (by (first | exact q_ca23768860 h76 h83 | omega))]; first | done | rfl) | (rw [← h17, ← h50, ← h74, ← h97, ← h110]; rw [if_neg (by omega)]; first | done | rfl) | (rw [← h17, ← h50, ← h74, ← h97, ← h110]; rw [if_neg (by omega), if_pos (by omega)]; first | done | rfl) | (rw [← h17, ← h50, ← h74, ← h97, ← h110]; rw [if_neg (by omega), if_neg (by omega)]; first | done | rfl) | (rw [← h17, ← h50, ← h74, ← h97, ← h110]; rw [if_neg (by omega), if_neg (by omega), if_neg (by omega)]; first | done | rfl)
    exact En_ret (v := none) rfl rfl rfl ⟨h105, h106, z67, ((h108 _ _ (Or.inr (by decide))).trans ((h95 _ _ (Or.inr (by decide))).trans h68)), rfl, ⟨o116, by first | exact q_a555021d16 h66.2.2.1 | omega, by first | exact q_bd3fa30443 h83 | omega, by first | exact q_ccc3bb8fc9 h42.2.2.2.1 h66.2.2.2.2.1 | omega, by first | exact q_28bfca2c13 h42.2.2.2.1 h66.2.2.2.2.1 | omega, (by rw [h117]; exact ⟨h111, fun zz => by rw [h113]; exact KN_sub h112 (fun t t0 t1 y => Or.inl (Or.inl (act_low (by (first | decide | omega)) (act_low (by (first | decide | omega)) y))))⟩)⟩⟩
/-- DoorSchool$Reader.readHouse(LDoorSchool$Plan;)V -/
abbrev P_66x (σ0 : SG) (By : Int → Int) (Nb : Int) (Sp : PS) (a : Nat) (f : Int32) (sg : Int32) : PO := fun v σ => WT σ ∧ Fr [(3, 1), (3, 2), (3, 3), (3, 4), (3, 5), (3, 6), (18, 8), (23, 0), (24, 0)] σ0 σ ∧ ∃ f1 : Int32, (σ 3)[5]? = some (Value.int f1) ∧ v = none ∧ OUT σ0 σ a ∧ -f1.toInt ≤ 0 ∧ f1.toInt - 3 ≤ 0 ∧ -f1.toInt + f.toInt ≤ 0 ∧ f.toInt - f1.toInt ≤ 0 ∧ (CT By Nb σ (fHouse By Nb Sp) ∧ ((fHouse By Nb Sp).1 = 0 → KN σ a (fHouse By Nb Sp).2.2.2 (act (fHouse By Nb Sp).2.2.2)))
set_option maxRecDepth 10000 in
set_option maxHeartbeats 4000000 in
theorem c_66x {By : Int → Int} {Nb : Int} {Sp : PS} (σ0 : SG) (hσ0 : WT σ0) (a : Nat) (ha : TG a = 18) (f : Int32) (h_f : (σ0 3)[5]? = some (Value.int f)) (sg : Int32) (h_sg : (σ0 a)[1]? = some (Value.int sg)) (hp0 : -sg.toInt ≤ 0) (hC : CT By Nb σ0 Sp) (hg : Sp.1 = 0) (hP : PLA a) (hX : FXP σ0 a) (hK : KN σ0 a Sp.2.2.2 (act Sp.2.2.2)) : En 3 66 none mr_66 (P_66x σ0 By Nb Sp a f sg) 0 [(0, .ref 3), (1, .ref a)] [] σ0 := by
  obtain ⟨hl_f, hu_f⟩ := WT_int hσ0 (g := 3) (by decide +kernel) (by decide +kernel) (l := 0) (u := 3) (by decide +kernel) h_f
  obtain ⟨hl_sg, hu_sg⟩ := WT_int hσ0 (g := 18) ha (by decide +kernel) (l := (-1)) (u := 4) (by decide +kernel) h_sg
  have hF0 : Fr [(3, 1), (3, 2), (3, 3), (3, 4), (3, 5), (3, 6), (18, 8), (23, 0), (24, 0)] σ0 σ0 := Fr_rfl
  have h1 := CT_k hC h_f
  have h2 : Sp.2.2.2 0 = sg.toInt := KN_v hK (Or.inl (by decide)) (by decide) (by decide) (by rw [lcO_lt (by decide) (by decide), Nat.add_zero]) rfl h_sg
  have h3 : pI (Sp.2.2.2 0) = pI (sg.toInt) := by rw [h2]
  obtain ⟨z5, h4, h6, h7⟩ := WT_peekI hσ0 ha (by decide +kernel : FT 18 8 = (0, 0, 4)) (by decide +kernel)
  have h8 : Sp.2.2.2 4 = z5.toInt := KN_v hK (Or.inl (by decide)) (by decide) (by decide) (by rw [lcO_lt (by decide) (by decide), Nat.add_zero]) rfl h4
  refine En_Ps 1 (pc' := 1) (lv' := [(0, .ref 3), (1, .ref a)]) (st' := [.ref a]) rfl ?_
  refine En_getK (j := 8) h4 rfl rfl rfl ha (by decide +kernel) ?_
  refine En_Ps 1 (pc' := 5) (lv' := [(0, .ref 3), (1, .ref a)]) (st' := [.int ((Int32.ofInt 4)), .int z5]) rfl ?_
  refine En_icLt _ rfl (by decide : (Int32.ofInt 4).toInt = 4) rfl (fun h9 => ?_) (fun h9 => ?_)
  · refine En_Ps 1 (pc' := 15) (lv' := [(0, .ref 3), (1, .ref a)]) (st' := [.ref 3]) rfl ?_
    obtain ⟨z11, h10, h12, h13⟩ := WT_peekI hσ0 tgz_3 (by decide +kernel : FT 3 3 = (0, 0, 1600)) (by decide +kernel)
    refine En_callV rfl rfl rfl rfl rfl rfl rfl rfl tgz_3 (by decide +kernel) rfl (c_72x σ0 hσ0 z11 h10 hC.1 (CT_at hC (by (first | exact q_d2dcd30e56 hg | omega)) h10)) (by decide) (by decide) (fun v15 σ16 h14 => ?_)
    obtain ⟨h17, h18, rfl, h19⟩ := h14
    have h20 := h19
    have h21 := Fr_trans hF0 h18 (by decide +kernel)
    obtain ⟨S22, h23⟩ : ∃ q : PS, q = adv By Nb Sp := ⟨_, rfl⟩
    have h24 : CT By Nb σ16 S22 := by rw [h23]; exact (CT_adv hC (by (first | exact q_d2dcd30e56 hg | omega)) h10 h18 (by decide +kernel) h20.2)
    have h25 := CT_k h24 ((h18 _ _ (inW tgz_3 (by decide +kernel))).trans h_f)
    have h26 : S22.2.2.2 = Sp.2.2.2 := by rw [h23]; exact adv_w
    have h27 : S22.1 = Sp.1 := by rw [h23]; exact adv_1
    have h28 := KN_fr hP hK h18 (by decide +kernel)
    have h29 : S22.2.2.2 = Sp.2.2.2 := h26.trans (rfl : Sp.2.2.2 = Sp.2.2.2)
    have o30 : OUT σ0 σ16 a := OUT_fr OUT_0 h18 (by decide +kernel)
    refine En_Ps 3 (pc' := 21) (lv' := [(0, .ref 3), (1, .ref a)]) (st' := [.ref a, .int ((Int32.ofInt 0)), .ref 3]) rfl ?_
    refine En_callV rfl rfl rfl rfl rfl rfl rfl rfl ha (by decide +kernel) rfl (c_51x σ16 h17 a ha sg ((h18 _ _ (inW ha (by decide +kernel))).trans h_sg) (by first | exact q_a555021d16 hp0 | omega)) (by decide) (by decide) (fun v32 σ33 h31 => ?_)
    obtain ⟨h34, h35, z37, rfl, h36⟩ := h31
    have h38 := h36.2.2
    obtain rfl : σ16 = σ33 := Fr_nil h35
    have h39 := h38
    have h40 : pI (S22.2.2.2 0) = z37.toInt := by rw [h29]; (first | exact q_eed4cd1e4b h39 h3 | omega)
    refine En_Ps 2 (pc' := 26) (lv' := [(0, .ref 3), (1, .ref a)]) (st' := [.int ((z37 - ((Int32.ofInt 1)))), .int ((Int32.ofInt 0)), .ref 3]) rfl ?_
    refine En_top (subI rfl (by decide : (Int32.ofInt 1).toInt = 1) (by first | exact q_ead043ab48 h36.1 | omega) (by first | exact q_9b40fa289d h36.2.1 | omega)) (fun z41 h42 => ?_)
    have := (by decide : ((Int32.ofInt 0)).toInt = 0)
    refine En_callV rfl rfl rfl rfl rfl rfl rfl rfl tgz_3 (by decide +kernel) rfl (c_73x σ16 h17 ((Int32.ofInt 0)) z41 f ((h18 _ _ (inW tgz_3 (by decide +kernel))).trans h_f) h24) (by decide) (by decide) (fun v44 σ45 h43 => ?_)
    obtain ⟨h46, h47, z49, h50, z51, rfl, h48⟩ := h43
    have h52 := h48.2.2.2.2.2.2.2.2.2
    have h53 := Fr_trans h21 h47 (by decide +kernel)
    have h54 : tN By Nb ((Int32.ofInt 0)).toInt z41.toInt S22 = tN By Nb (0) (pI (S22.2.2.2 0) - 1) S22 := tN_cg2 (fun zz => by (first | exact q_d2dcd30e56 this | omega)) (fun zz => by (first | exact q_171d7b85d9 h42 h40 | omega))
    obtain ⟨S55, h56⟩ : ∃ q : PS, q = tN By Nb (0) (pI (S22.2.2.2 0) - 1) S22 := ⟨_, rfl⟩
    have h57 : CT By Nb σ45 S55 := by rw [h56]; exact (CT_eq h52.1 h54)
    have h58 := CT_k h57 h50
    have h59 : Imp (S55.1 = 0) (z51.toInt = tV By Nb S22.2.2.1) := fun z => Imp_m h52.2 (by rw [h54, ← h56]; exact z)
    have h60 : Imp (S55.1 = 0) (S22.1 = 0 ∧ tK By Nb S22.2.2.1 = 2 ∧ 0 ≤ tV By Nb S22.2.2.1 ∧ tV By Nb S22.2.2.1 ≤ pI (S22.2.2.2 0) - 1) := fun z => tN_gg (by rw [← h56]; exact z)
    have h61 : S55.2.2.2 = S22.2.2.2 := by rw [h56]; exact tN_w
    have h62 := KN_fr hP h28 h47 (by decide +kernel)
    have h63 : S55.2.2.2 = Sp.2.2.2 := h61.trans h29
    have o64 : OUT σ0 σ45 a := OUT_fr o30 h47 (by decide +kernel)
    have h65 := Imp_m h48.2.2.2.2.2.2.2.1 (by first | exact q_81610a3c5e h42 h36.1 | omega)
    have h66 := Imp_m h48.2.2.2.2.2.2.2.2.1 (by (first | exact q_83da3d7e14 this | omega))
    refine En_Ps 3 (pc' := 32) (lv' := [(2, .int z51), (0, .ref 3), (1, .ref a)]) (st' := [.int z51, .ref 3]) rfl ?_
    refine En_callV rfl rfl rfl rfl rfl rfl rfl rfl tgz_3 (by decide +kernel) rfl (c_74x σ45 h46 z51 (geI rfl (by first | exact q_ce01e7a6da h66 | omega)) (leI rfl (by first | exact q_e1ef427644 h65 h42 h36.2.1 | omega)) z49 h50 h57 (fun zz => by (try have i0 := Imp_m h60 (by (first | exact q_d2dcd30e56 zz | omega))); (try have i1 := Imp_m h59 (by (first | exact q_d2dcd30e56 zz | omega))); (try have i2 := Imp_m h48.2.2.2.2.2.1 (by (first | exact q_d8d8e6600d h58 zz | omega))); (try have i3 := Imp_m h48.2.2.2.2.2.2.1 (by omega)); (first | exact q_ded8cce8c4 i3.1 i2.1 this | omega))) (by decide) (by decide) (fun v68 σ69 h67 => ?_)
    obtain ⟨h70, h71, z73, h74, z75, rfl, h72⟩ := h67
    have h76 := h72.2.2.2.2.2.2.2
    have h77 := Fr_trans h53 h71 (by decide +kernel)
    have h78 : tP By Nb z51.toInt S55 = tP By Nb (tV By Nb S22.2.2.1) S55 := tP_cg2 (fun zz => by (try have i0 := Imp_m h60 (by (first | exact q_d2dcd30e56 zz | omega))); (try have i1 := Imp_m h59 (by (first | exact q_d2dcd30e56 zz | omega))); (try have i2 := Imp_m h48.2.2.2.2.2.1 (by (first | exact q_d8d8e6600d h58 zz | omega))); (try have i3 := Imp_m h48.2.2.2.2.2.2.1 (by omega)); (first | exact q_b1495600e7 i1 | omega))
    obtain ⟨S79, h80⟩ : ∃ q : PS, q = tP By Nb (tV By Nb S22.2.2.1) S55 := ⟨_, rfl⟩
    have h81 : CT By Nb σ69 S79 := by rw [h80]; exact (CT_eq h76.1 h78)
    have h82 := CT_k h81 h74
    have h83 : Imp (S79.1 = 0) (z75.toInt = tV By Nb S55.2.2.1) := fun z => Imp_m h76.2 (by rw [h78, ← h80]; exact z)
    have h84 : Imp (S79.1 = 0) (S55.1 = 0) := fun z => tP_g (by rw [← h80]; exact z)
    have h85 : S79.2.2.2 = S55.2.2.2 := by rw [h80]; exact tP_w
    have h86 := KN_fr hP h62 h71 (by decide +kernel)
    have h87 : S79.2.2.2 = Sp.2.2.2 := h85.trans h63
    have o88 : OUT σ0 σ69 a := OUT_fr o64 h71 (by decide +kernel)
    refine En_Ps 2 (pc' := 37) (lv' := [(3, .int z75), (2, .int z51), (0, .ref 3), (1, .ref a)]) (st' := [.ref 3]) rfl ?_
    refine En_getK (j := 5) h74 rfl rfl rfl tgz_3 (by decide +kernel) ?_
    refine En_iNe _ rfl rfl (fun h89 => ?_) (fun h89 => ?_)
    · have h90 : fRule By Nb (146 + 2 * Sp.2.2.2 4) S22 = S79 := by unfold fRule; (try dsimp only); rw [← h56, ← h80]; first | (rw [if_pos (by omega)]; first | done | rfl) | (rw [if_neg (by (first | exact q_57b55acfde h89 h72.2.2.1 h82 | omega))]; first | done | rfl)
      have h91 : fHouse By Nb Sp = S79 := by unfold fHouse; (try dsimp only); first | (rw [← h23, h90]; first | done | rfl) | (rw [← h23, h90]; rw [if_pos (by omega)]; first | done | rfl) | (rw [← h23, h90]; rw [if_neg (by (first | exact q_5d6df0d229 h8 h9 | omega))]; first | done | rfl) | (rw [← h23, h90]; rw [if_neg (by (first | exact q_5d6df0d229 h8 h9 | omega)), if_pos (by omega)]; first | done | rfl) | (rw [← h23, h90]; rw [if_neg (by (first | exact q_5d6df0d229 h8 h9 | omega)), if_neg (by (first | exact q_57b55acfde h89 h72.2.2.1 h82 | omega))]; first | done | rfl) | (rw [← h23, h90]; rw [if_neg (by omega), if_neg (by omega), if_neg (by omega)]; first | done | rfl)
      exact En_ret (v := none) rfl rfl rfl ⟨h70, h77, z73, h74, rfl, ⟨o88, by first | exact q_bc42505ae9 h89 h72.2.2.1 | omega, by first | exact q_c733b715bf h72.2.2.2.1 | omega, by first | exact q_ccc3bb8fc9 h48.2.2.2.1 h72.2.2.2.2.1 | omega, by first | exact q_28bfca2c13 h48.2.2.2.1 h72.2.2.2.2.1 | omega, (by rw [h91]; exact ⟨h81, fun z => absurd z (by (first | exact q_ae2d14d533 h89 h72.2.2.1 h82 z | omega))⟩)⟩⟩
    · have h92 := Imp_m h48.2.2.2.2.2.1 (by first | exact q_31d5f588b1 h72.2.2.2.2.1 h89 | omega)
      have h93 := Imp_m h72.2.2.2.2.2.2.1 (by first | exact q_c5d285f1b9 h89 | omega)
      try have h94 := Imp_m h84 (by (first | exact q_ca23768860 h82 h89 | omega))
      try have h95 := Imp_m h83 (by (first | exact q_ca23768860 h82 h89 | omega))
      try have h96 := Imp_m h60 (by (first | exact q_d2dcd30e56 h94 | omega))
      try have h97 := Imp_m h59 (by (first | exact q_d2dcd30e56 h94 | omega))
      refine En_Ps 1 (pc' := 44) (lv' := [(3, .int z75), (2, .int z51), (0, .ref 3), (1, .ref a)]) (st' := [.ref a]) rfl ?_
      refine En_getR (j := 9) (g' := 23) (u := 0) rfl rfl rfl ha (by decide +kernel) h70 (by decide +kernel) (fun a99 h98 ha99 => ?_)
      refine En_Ps 1 (pc' := 48) (lv' := [(3, .int z75), (2, .int z51), (0, .ref 3), (1, .ref a)]) (st' := [.ref a, .ref a99]) rfl ?_
      refine En_getK (j := 8) ((h71 _ _ (inW ha (by decide +kernel))).trans ((h47 _ _ (inW ha (by decide +kernel))).trans ((h18 _ _ (inW ha (by decide +kernel))).trans h4))) rfl rfl rfl ha (by decide +kernel) ?_
      refine En_Ps 1 (pc' := 52) (lv' := [(3, .int z75), (2, .int z51), (0, .ref 3), (1, .ref a)]) (st' := [.int z51, .int z5, .ref a99]) rfl ?_
      refine En_iast (l := 0) (u := 15) rfl rfl ha99 (by decide +kernel) (by first | exact q_58e6e51dcc h6 | omega) (lnI (by decide +kernel : LN _ = 4) (by first | exact q_074a8b422d h9 | omega)) (FTsgl (by decide +kernel)) (rngI rfl (by (first | exact q_39e281d0cf h92.1 this | omega)) (by first | exact q_e1ef427644 h65 h42 h36.2.1 | omega)) h70 h77 (by decide +kernel) (fun σ100 h101 h102 h103 h104 => ?_)
      have h105 : a99 = a + 5 := ref_uniq ((h104 _ _ (Or.inl (neTG ha ha99 (by decide)))).trans h98) (FXP_fr hP hX h102 (by decide +kernel)).2.2.1
      have h106 := lc_h (m := Sp.2.2.2 4) (by (first | exact q_2d21ab1e6c h8 h6 | omega)) (by (first | exact q_609c6783a0 h8 h9 | omega))
      obtain ⟨S107, h108⟩ : ∃ q : PS, q = wst S79 (146 + 2 * Sp.2.2.2 4) ((tV By Nb S22.2.2.1)) := ⟨_, rfl⟩
      have h109 : CT By Nb σ100 S107 := by rw [h108]; exact CT_wst (CT_ne h81 h104 (by have := hP; unfold PLA at this; omega))
      have h110 : KN σ100 a (uPd Sp.2.2.2 (146 + 2 * Sp.2.2.2 4) ((tV By Nb S22.2.2.1))) (fun t => (act Sp.2.2.2 t ∨ t = 146 + 2 * Sp.2.2.2 4)) := KN_st h86 h103 h104 (by (first | exact q_4bad2920b0 h8 h6 | omega)) (by (first | exact q_f040f435fa h8 h9 | omega)) (by omega) (by (first | exact q_c54adee5ad h6 h106.2.2.1 h8 | omega)) (by (try have i0 := Imp_m h84 (by (first | exact q_ca23768860 h82 h89 | omega))); (try have i1 := Imp_m h83 (by (first | exact q_ca23768860 h82 h89 | omega))); (try have i2 := Imp_m h60 (by (first | exact q_d2dcd30e56 i0 | omega))); (try have i3 := Imp_m h59 (by (first | exact q_d2dcd30e56 i0 | omega))); (try have i4 := Imp_m h48.2.2.2.2.2.2.1 (by omega)); (first | exact q_a8fb2024c1 i3 | omega))
      have h111 : S107.2.2.2 = (uPd Sp.2.2.2 (146 + 2 * Sp.2.2.2 4) ((tV By Nb S22.2.2.1))) := by rw [h108]; show uPd S79.2.2.2 _ _ = _; rw [h87]
      have h112 : S107.1 = S79.1 := by rw [h108]; rfl
      have h113 := CT_k h109 ((h104 _ _ (Or.inl (neTG tgz_3 ha99 (by decide)))).trans h74)
      have o114 : OUT σ0 σ100 a := OUT_st o88 h104 (by omega)
      refine En_Ps 1 (pc' := 54) (lv' := [(3, .int z75), (2, .int z51), (0, .ref 3), (1, .ref a)]) (st' := [.ref a]) rfl ?_
      refine En_getR (j := 10) (g' := 24) (u := 0) rfl rfl rfl ha (by decide +kernel) h101 (by decide +kernel) (fun a116 h115 ha116 => ?_)
      refine En_Ps 1 (pc' := 58) (lv' := [(3, .int z75), (2, .int z51), (0, .ref 3), (1, .ref a)]) (st' := [.ref a, .ref a116]) rfl ?_
      refine En_getK (j := 8) ((h104 _ _ (Or.inl (neTG ha ha99 (by decide)))).trans ((h71 _ _ (inW ha (by decide +kernel))).trans ((h47 _ _ (inW ha (by decide +kernel))).trans ((h18 _ _ (inW ha (by decide +kernel))).trans h4)))) rfl rfl rfl ha (by decide +kernel) ?_
      refine En_Ps 1 (pc' := 62) (lv' := [(3, .int z75), (2, .int z51), (0, .ref 3), (1, .ref a)]) (st' := [.int z75, .int z5, .ref a116]) rfl ?_
      refine En_iast (l := 0) (u := 15) rfl rfl ha116 (by decide +kernel) (by first | exact q_58e6e51dcc h6 | omega) (lnI (by decide +kernel : LN _ = 4) (by first | exact q_074a8b422d h9 | omega)) (FTsgl (by decide +kernel)) (rngI rfl (by first | exact q_ef1e8e38bf h93.1 | omega) (by first | exact q_5a5f544404 h72.2.1 | omega)) h101 h102 (by decide +kernel) (fun σ117 h118 h119 h120 h121 => ?_)
      have h122 : a116 = a + 6 := ref_uniq ((h121 _ _ (Or.inl (neTG ha ha116 (by decide)))).trans h115) (FXP_fr hP hX h119 (by decide +kernel)).2.2.2.1
      have h123 := lc_h (m := Sp.2.2.2 4) (by (first | exact q_2d21ab1e6c h8 h6 | omega)) (by (first | exact q_609c6783a0 h8 h9 | omega))
      obtain ⟨S124, h125⟩ : ∃ q : PS, q = wst S107 (146 + 2 * Sp.2.2.2 4 + 1) ((tV By Nb S55.2.2.1)) := ⟨_, rfl⟩
      have h126 : CT By Nb σ117 S124 := by rw [h125]; exact CT_wst (CT_ne h109 h121 (by have := hP; unfold PLA at this; omega))
      have h127 : KN σ117 a (uPd (uPd Sp.2.2.2 (146 + 2 * Sp.2.2.2 4) ((tV By Nb S22.2.2.1))) (146 + 2 * Sp.2.2.2 4 + 1) ((tV By Nb S55.2.2.1))) (fun t => ((act Sp.2.2.2 t ∨ t = 146 + 2 * Sp.2.2.2 4) ∨ t = 146 + 2 * Sp.2.2.2 4 + 1)) := KN_st h110 h120 h121 (by (first | exact q_8e2648b228 h8 h6 | omega)) (by (first | exact q_629348f5ed h8 h9 | omega)) (by omega) (by (first | exact q_c54adee5ad h6 h123.2.2.2 h8 | omega)) (by (try have i0 := Imp_m h84 (by (first | exact q_ca23768860 h82 h89 | omega))); (try have i1 := Imp_m h83 (by (first | exact q_ca23768860 h82 h89 | omega))); (try have i2 := Imp_m h60 (by (first | exact q_d2dcd30e56 i0 | omega))); (try have i3 := Imp_m h59 (by (first | exact q_d2dcd30e56 i0 | omega))); (try have i4 := Imp_m h48.2.2.2.2.2.2.1 (by omega)); (first | exact q_a8fb2024c1 i1 | omega))
      have h128 : S124.2.2.2 = (uPd (uPd Sp.2.2.2 (146 + 2 * Sp.2.2.2 4) ((tV By Nb S22.2.2.1))) (146 + 2 * Sp.2.2.2 4 + 1) ((tV By Nb S55.2.2.1))) := by rw [h125]; show uPd S107.2.2.2 _ _ = _; rw [h111]
      have h129 : S124.1 = S107.1 := by rw [h125]; rfl
      have h130 := CT_k h126 ((h121 _ _ (Or.inl (neTG tgz_3 ha116 (by decide)))).trans ((h104 _ _ (Or.inl (neTG tgz_3 ha99 (by decide)))).trans h74))
      have o131 : OUT σ0 σ117 a := OUT_st o114 h121 (by omega)
      have h132 : fRule By Nb (146 + 2 * Sp.2.2.2 4) S22 = S124 := by unfold fRule; (try dsimp only); rw [← h56, ← h80, ← h108, ← h125]; first | (rw [if_pos (by (first | exact q_ca23768860 h82 h89 | omega))]; first | done | rfl) | (rw [if_neg (by omega)]; first | done | rfl)
      refine En_Ps 2 (pc' := 65) (lv' := [(3, .int z75), (2, .int z51), (0, .ref 3), (1, .ref a)]) (st' := [.ref a, .ref a]) rfl ?_
      refine En_getK (j := 8) ((h121 _ _ (Or.inl (neTG ha ha116 (by decide)))).trans ((h104 _ _ (Or.inl (neTG ha ha99 (by decide)))).trans ((h71 _ _ (inW ha (by decide +kernel))).trans ((h47 _ _ (inW ha (by decide +kernel))).trans ((h18 _ _ (inW ha (by decide +kernel))).trans h4))))) rfl rfl rfl ha (by decide +kernel) ?_
      refine En_Ps 2 (pc' := 70) (lv' := [(3, .int z75), (2, .int z51), (0, .ref 3), (1, .ref a)]) (st' := [.int ((z5 + ((Int32.ofInt 1)))), .ref a]) rfl ?_
      refine En_top (addI rfl (by decide : (Int32.ofInt 1).toInt = 1) (by first | exact q_465ab79ac1 h6 | omega) (by first | exact q_d8bf7f475a h9 | omega)) (fun z133 h134 => ?_)
      refine En_put (j := 8) rfl rfl rfl ha (by decide +kernel) rfl (vI (l := 0) (u := 4) (by decide +kernel) rfl (by first | exact q_35104ce9d3 h134 h6 | omega) (by first | exact q_ddc5c16a68 h134 h9 | omega)) h118 h119 (by decide +kernel) (fun σ135 h136 h137 h138 h139 => ?_)
      obtain ⟨S140, h141⟩ : ∃ q : PS, q = wst S124 (4) (Sp.2.2.2 4 + 1) := ⟨_, rfl⟩
      have h142 : CT By Nb σ135 S140 := by rw [h141]; exact CT_wst (CT_ne h126 h139 (by have := hP; unfold PLA at this; omega))
      have h143 : KN σ135 a (uPd (uPd (uPd Sp.2.2.2 (146 + 2 * Sp.2.2.2 4) ((tV By Nb S22.2.2.1))) (146 + 2 * Sp.2.2.2 4 + 1) ((tV By Nb S55.2.2.1))) (4) (Sp.2.2.2 4 + 1)) (fun t => (((act Sp.2.2.2 t ∨ t = 146 + 2 * Sp.2.2.2 4) ∨ t = 146 + 2 * Sp.2.2.2 4 + 1) ∨ t = 4)) := KN_st h127 h138 h139 (by (first | decide | omega)) (by (first | decide | omega)) (by rw [lcO_lt (by decide) (by decide), Nat.add_zero]) (by decide) (by (try have i0 := Imp_m h84 (by (first | exact q_ca23768860 h82 h89 | omega))); (try have i1 := Imp_m h83 (by (first | exact q_ca23768860 h82 h89 | omega))); (try have i2 := Imp_m h60 (by (first | exact q_d2dcd30e56 i0 | omega))); (try have i3 := Imp_m h59 (by (first | exact q_d2dcd30e56 i0 | omega))); (try have i4 := Imp_m h48.2.2.2.2.2.2.1 (by omega)); (first | exact q_c264f2cea9 h134 h8 | omega))
      have h144 : S140.2.2.2 = (uPd (uPd (uPd Sp.2.2.2 (146 + 2 * Sp.2.2.2 4) ((tV By Nb S22.2.2.1))) (146 + 2 * Sp.2.2.2 4 + 1) ((tV By Nb S55.2.2.1))) (4) (Sp.2.2.2 4 + 1)) := by rw [h141]; show uPd S124.2.2.2 _ _ = _; rw [h128]
      have h145 : S140.1 = S124.1 := by rw [h141]; rfl
      have h146 := CT_k h142 ((h139 _ _ (Or.inr (by decide))).trans ((h121 _ _ (Or.inl (neTG tgz_3 ha116 (by decide)))).trans ((h104 _ _ (Or.inl (neTG tgz_3 ha99 (by decide)))).trans h74)))
      have o147 : OUT σ0 σ135 a := OUT_st o131 h139 (by omega)
      have h148 : fHouse By Nb Sp = S140 := by unfold fHouse; (try dsimp only); first | (rw [← h23, h132, ← h141]; first | done | rfl) | (rw [← h23, h132, ← h141]; rw [if_pos (by omega)]; first | done | rfl) | (rw [← h23, h132, ← h141]; rw [if_neg (by (first | exact q_5d6df0d229 h8 h9 | omega))]; first | done | rfl) | (rw [← h23, h132, ← h141]; rw [if_neg (by (first | exact q_5d6df0d229 h8 h9 | omega)), if_pos (by (first | exact q_ca23768860 h130 h89 | omega))]; first | done | rfl) | (rw [← h23, h132, ← h141]; rw [if_neg (by omega), if_neg (by omega)]; first | done | rfl) | (rw [← h23, h132, ← h141]; rw [if_neg (by omega), if_neg (by omega), if_neg (by omega)]; first | done | rfl)
      exact En_ret (v := none) rfl rfl rfl ⟨h136, h137, z73, ((h139 _ _ (Or.inr (by decide))).trans ((h121 _ _ (Or.inl (neTG tgz_3 ha116 (by decide)))).trans ((h104 _ _ (Or.inl (neTG tgz_3 ha99 (by decide)))).trans h74))), rfl, ⟨o147, by first | exact q_a555021d16 h72.2.2.1 | omega, by first | exact q_bd3fa30443 h89 | omega, by first | exact q_ccc3bb8fc9 h48.2.2.2.1 h72.2.2.2.2.1 | omega, by first | exact q_28bfca2c13 h48.2.2.2.1 h72.2.2.2.2.1 | omega, (by rw [h148]; exact ⟨h142, fun zz => by rw [h144]; exact KN_sub h143 (fun t t0 t1 y => AHs (by (first | exact q_2d21ab1e6c h8 h6 | omega)) y)⟩)⟩⟩
  · refine En_Ps 2 (pc' := 10) (lv' := [(0, .ref 3), (1, .ref a)]) (st' := [.int ((Int32.ofInt 3)), .ref 3]) rfl ?_
    have := (by decide : ((Int32.ofInt 3)).toInt = 3)
    refine En_callV rfl rfl rfl rfl rfl rfl rfl rfl tgz_3 (by decide +kernel) rfl (c_54x σ0 hσ0 ((Int32.ofInt 3)) (geI (by decide : (Int32.ofInt 3).toInt = 3) (by decide)) (leI (by decide : (Int32.ofInt 3).toInt = 3) (by decide)) f h_f hC) (by decide) (by decide) (fun v150 σ151 h149 => ?_)
    obtain ⟨h152, h153, z155, h156, rfl, h154⟩ := h149
    have h157 := h154.2.2.2.2.2
    have h158 := Fr_trans hF0 h153 (by decide +kernel)
    obtain ⟨S159, h160⟩ : ∃ q : PS, q = err By Nb 3 Sp := ⟨_, rfl⟩
    have h161 : CT By Nb σ151 S159 := by rw [h160]; exact (CT_eq h157 (err_cg (by (first | exact q_5736040b52 this | omega))))
    have h162 := CT_k h161 h156
    have h163 : S159.2.2.2 = Sp.2.2.2 := by rw [h160]; exact err_w
    have h164 := KN_fr hP hK h153 (by decide +kernel)
    have h165 : S159.2.2.2 = Sp.2.2.2 := h163.trans (rfl : Sp.2.2.2 = Sp.2.2.2)
    have o166 : OUT σ0 σ151 a := OUT_fr OUT_0 h153 (by decide +kernel)
    have h167 : fHouse By Nb Sp = S159 := by unfold fHouse; (try dsimp only); first | (rw [← h160]; first | done | rfl) | (rw [← h160]; rw [if_pos (by (first | exact q_a909a51ff5 h8 h9 | omega))]; first | done | rfl) | (rw [← h160]; rw [if_neg (by omega)]; first | done | rfl) | (rw [← h160]; rw [if_neg (by omega), if_pos (by omega)]; first | done | rfl) | (rw [← h160]; rw [if_neg (by omega), if_neg (by omega)]; first | done | rfl) | (rw [← h160]; rw [if_neg (by omega), if_neg (by omega), if_neg (by omega)]; first | done | rfl)
    exact En_ret (v := none) rfl rfl rfl ⟨h152, h158, z155, h156, rfl, ⟨o166, by first | exact q_1a6ee862c1 h154.1 | omega, by first | exact q_c733b715bf h154.2.1 | omega, by first | exact q_d22b102a8e h154.2.2.1 | omega, by first | exact q_83f4b1e050 h154.2.2.1 | omega, (by rw [h167]; exact ⟨h161, fun z => absurd z (by (first | exact q_78d9c54eee z h162 h154.1 | omega))⟩)⟩⟩
/-- DoorSchool$Reader.readCourse(LDoorSchool$Plan;)V -/
abbrev P_62x (σ0 : SG) (By : Int → Int) (Nb : Int) (Sp : PS) (a : Nat) (f : Int32) (sg : Int32) : PO := fun v σ => WT σ ∧ Fr [(3, 1), (3, 2), (3, 3), (3, 4), (3, 5), (3, 6), (18, 11), (25, 0)] σ0 σ ∧ ∃ f1 : Int32, (σ 3)[5]? = some (Value.int f1) ∧ v = none ∧ OUT σ0 σ a ∧ -f1.toInt ≤ 0 ∧ f1.toInt - 3 ≤ 0 ∧ -f1.toInt + f.toInt ≤ 0 ∧ f.toInt - f1.toInt ≤ 0 ∧ (CT By Nb σ (fCourse By Nb Sp) ∧ ((fCourse By Nb Sp).1 = 0 → KN σ a (fCourse By Nb Sp).2.2.2 (act (fCourse By Nb Sp).2.2.2)))
set_option maxRecDepth 10000 in
set_option maxHeartbeats 4000000 in
theorem c_62x {By : Int → Int} {Nb : Int} {Sp : PS} (σ0 : SG) (hσ0 : WT σ0) (a : Nat) (ha : TG a = 18) (f : Int32) (h_f : (σ0 3)[5]? = some (Value.int f)) (sg : Int32) (h_sg : (σ0 a)[1]? = some (Value.int sg)) (hp0 : -sg.toInt ≤ 0) (hC : CT By Nb σ0 Sp) (hg : Sp.1 = 0) (hP : PLA a) (hX : FXP σ0 a) (hK : KN σ0 a Sp.2.2.2 (act Sp.2.2.2)) : En 5 112 none mr_62 (P_62x σ0 By Nb Sp a f sg) 0 [(0, .ref 3), (1, .ref a)] [] σ0 := by
  obtain ⟨hl_f, hu_f⟩ := WT_int hσ0 (g := 3) (by decide +kernel) (by decide +kernel) (l := 0) (u := 3) (by decide +kernel) h_f
  obtain ⟨hl_sg, hu_sg⟩ := WT_int hσ0 (g := 18) ha (by decide +kernel) (l := (-1)) (u := 4) (by decide +kernel) h_sg
  have hF0 : Fr [(3, 1), (3, 2), (3, 3), (3, 4), (3, 5), (3, 6), (18, 11), (25, 0)] σ0 σ0 := Fr_rfl
  have h1 := CT_k hC h_f
  obtain ⟨z3, h2, h4, h5⟩ := WT_peekI hσ0 ha (by decide +kernel : FT 18 11 = (0, 0, 6)) (by decide +kernel)
  have h6 : Sp.2.2.2 5 = z3.toInt := KN_v hK (Or.inl (by decide)) (by decide) (by decide) (by rw [lcO_lt (by decide) (by decide), Nat.add_zero]) rfl h2
  refine En_Ps 1 (pc' := 1) (lv' := [(0, .ref 3), (1, .ref a)]) (st' := [.ref a]) rfl ?_
  refine En_getK (j := 11) h2 rfl rfl rfl ha (by decide +kernel) ?_
  refine En_Ps 1 (pc' := 6) (lv' := [(0, .ref 3), (1, .ref a)]) (st' := [.int (((Int8.ofInt 6).toInt32)), .int z3]) rfl ?_
  refine En_icLt _ rfl (by decide : ((Int8.ofInt 6).toInt32).toInt = 6) rfl (fun h7 => ?_) (fun h7 => ?_)
  · refine En_Ps 1 (pc' := 16) (lv' := [(0, .ref 3), (1, .ref a)]) (st' := [.ref 3]) rfl ?_
    obtain ⟨z9, h8, h10, h11⟩ := WT_peekI hσ0 tgz_3 (by decide +kernel : FT 3 3 = (0, 0, 1600)) (by decide +kernel)
    refine En_callV rfl rfl rfl rfl rfl rfl rfl rfl tgz_3 (by decide +kernel) rfl (c_72x σ0 hσ0 z9 h8 hC.1 (CT_at hC (by (first | exact q_d2dcd30e56 hg | omega)) h8)) (by decide) (by decide) (fun v13 σ14 h12 => ?_)
    obtain ⟨h15, h16, rfl, h17⟩ := h12
    have h18 := h17
    have h19 := Fr_trans hF0 h16 (by decide +kernel)
    obtain ⟨S20, h21⟩ : ∃ q : PS, q = adv By Nb Sp := ⟨_, rfl⟩
    have h22 : CT By Nb σ14 S20 := by rw [h21]; exact (CT_adv hC (by (first | exact q_d2dcd30e56 hg | omega)) h8 h16 (by decide +kernel) h18.2)
    have h23 := CT_k h22 ((h16 _ _ (inW tgz_3 (by decide +kernel))).trans h_f)
    have h24 : S20.2.2.2 = Sp.2.2.2 := by rw [h21]; exact adv_w
    have h25 : S20.1 = Sp.1 := by rw [h21]; exact adv_1
    have h26 := KN_fr hP hK h16 (by decide +kernel)
    have h27 : S20.2.2.2 = Sp.2.2.2 := h24.trans (rfl : Sp.2.2.2 = Sp.2.2.2)
    have o28 : OUT σ0 σ14 a := OUT_fr OUT_0 h16 (by decide +kernel)
    refine En_Ps 2 (pc' := 21) (lv' := [(0, .ref 3), (1, .ref a)]) (st' := [.ref 3, .ref 3]) rfl ?_
    refine En_ldcS (i := 15) rfl rfl rfl ?_
    refine En_callV rfl rfl rfl rfl rfl rfl rfl rfl tgz_3 (by decide +kernel) rfl (c_71s15x σ14 h15 h22) (by decide) (by decide) (fun v30 σ31 h29 => ?_)
    obtain ⟨h32, h33, z35, rfl, h34⟩ := h29
    have h36 := h34.2.2
    obtain rfl : σ14 = σ31 := Fr_nil h33
    have h37 := h36
    refine En_callV rfl rfl rfl rfl rfl rfl rfl rfl tgz_3 (by decide +kernel) rfl (c_59x σ14 h15 z35 (geI rfl (by first | exact q_ef1e8e38bf h34.1 | omega)) (leI rfl (by first | exact q_733c8bfbae h34.2.1 | omega)) f ((h16 _ _ (inW tgz_3 (by decide +kernel))).trans h_f) h22) (by decide) (by decide) (fun v39 σ40 h38 => ?_)
    obtain ⟨h41, h42, z44, h45, rfl, h43⟩ := h38
    have h46 := h43.2.2.2.2.2.2
    have h47 := Fr_trans h19 h42 (by decide +kernel)
    have h48 : pss By Nb z35.toInt S20 = pss By Nb (iW By Nb 15 S20) S20 := pss_cg2 (fun zz => by (try have i0 := Imp_m h37 (by (first | exact q_d2dcd30e56 zz | omega))); (first | exact q_b1495600e7 i0 | omega))
    obtain ⟨S49, h50⟩ : ∃ q : PS, q = pss By Nb (iW By Nb 15 S20) S20 := ⟨_, rfl⟩
    have h51 : CT By Nb σ40 S49 := by rw [h50]; exact (CT_eq h46 h48)
    have h52 := CT_k h51 h45
    have h53 : S49.2.2.2 = S20.2.2.2 := by rw [h50]; exact pss_w
    have h54 : Imp (S49.1 = 0) (S20.1 = 0) := fun z => (pss_g (by rw [h48, ← h50]; exact z)).1
    have h55 : Imp (S49.1 = 0) (z35.toInt = 1) := fun z => (pss_g (by rw [h48, ← h50]; exact z)).2.1
    have h56 := KN_fr hP h26 h42 (by decide +kernel)
    have h57 : S49.2.2.2 = Sp.2.2.2 := h53.trans h27
    have o58 : OUT σ0 σ40 a := OUT_fr o28 h42 (by decide +kernel)
    refine En_Ps 3 (pc' := 33) (lv' := [(0, .ref 3), (1, .ref a)]) (st' := [.int (((Int8.ofInt 9).toInt32)), .int ((Int32.ofInt 1)), .ref 3]) rfl ?_
    have := (by decide : ((Int32.ofInt 1)).toInt = 1)
    have := (by decide : (((Int8.ofInt 9).toInt32)).toInt = 9)
    refine En_callV rfl rfl rfl rfl rfl rfl rfl rfl tgz_3 (by decide +kernel) rfl (c_73x σ40 h41 ((Int32.ofInt 1)) (((Int8.ofInt 9).toInt32)) z44 h45 h51) (by decide) (by decide) (fun v60 σ61 h59 => ?_)
    obtain ⟨h62, h63, z65, h66, z67, rfl, h64⟩ := h59
    have h68 := h64.2.2.2.2.2.2.2.2.2
    have h69 := Fr_trans h47 h63 (by decide +kernel)
    have h70 : tN By Nb ((Int32.ofInt 1)).toInt (((Int8.ofInt 9).toInt32)).toInt S49 = tN By Nb (1) (9) S49 := tN_cg2 (fun zz => by (first | exact q_0bfa10f27c (by decide) | omega)) (fun zz => by (first | exact q_d0d469a1ce this | omega))
    obtain ⟨S71, h72⟩ : ∃ q : PS, q = tN By Nb (1) (9) S49 := ⟨_, rfl⟩
    have h73 : CT By Nb σ61 S71 := by rw [h72]; exact (CT_eq h68.1 h70)
    have h74 := CT_k h73 h66
    have h75 : Imp (S71.1 = 0) (z67.toInt = tV By Nb S49.2.2.1) := fun z => Imp_m h68.2 (by rw [h70, ← h72]; exact z)
    have h76 : Imp (S71.1 = 0) (S49.1 = 0 ∧ tK By Nb S49.2.2.1 = 2 ∧ 1 ≤ tV By Nb S49.2.2.1 ∧ tV By Nb S49.2.2.1 ≤ 9) := fun z => tN_gg (by rw [← h72]; exact z)
    have h77 : S71.2.2.2 = S49.2.2.2 := by rw [h72]; exact tN_w
    have h78 := KN_fr hP h56 h63 (by decide +kernel)
    have h79 : S71.2.2.2 = Sp.2.2.2 := h77.trans h57
    have o80 : OUT σ0 σ61 a := OUT_fr o58 h63 (by decide +kernel)
    have h81 := Imp_m h64.2.2.2.2.2.2.2.1 (by (first | exact q_a033c897bc this | omega))
    have h82 := Imp_m h64.2.2.2.2.2.2.2.2.1 (by (first | exact q_4dd9459605 (by decide) | omega))
    refine En_Ps 2 (pc' := 38) (lv' := [(2, .int z67), (0, .ref 3), (1, .ref a)]) (st' := [.ref 3]) rfl ?_
    refine En_getK (j := 5) h66 rfl rfl rfl tgz_3 (by decide +kernel) ?_
    refine En_iNe _ rfl rfl (fun h83 => ?_) (fun h83 => ?_)
    · have h84 := Imp_m h64.2.2.2.2.2.2.1 (by first | exact q_e3350da514 h83 h64.2.1 | omega)
      have h85 : fCourse By Nb Sp = S71 := by unfold fCourse; (try dsimp only); first | (rw [← h21, ← h50, ← h72]; first | done | rfl) | (rw [← h21, ← h50, ← h72]; rw [if_pos (by omega)]; first | done | rfl) | (rw [← h21, ← h50, ← h72]; rw [if_neg (by (first | exact q_3e755454b3 h6 h7 | omega))]; first | done | rfl) | (rw [← h21, ← h50, ← h72]; rw [if_neg (by (first | exact q_3e755454b3 h6 h7 | omega)), if_pos (by omega)]; first | done | rfl) | (rw [← h21, ← h50, ← h72]; rw [if_neg (by (first | exact q_3e755454b3 h6 h7 | omega)), if_neg (by (first | exact q_57b55acfde h83 h64.2.1 h74 | omega))]; first | done | rfl) | (rw [← h21, ← h50, ← h72]; rw [if_neg (by omega), if_neg (by omega), if_neg (by omega)]; first | done | rfl)
      exact En_ret (v := none) rfl rfl rfl ⟨h62, h69, z65, h66, rfl, ⟨o80, by first | exact q_bc42505ae9 h83 h64.2.1 | omega, by first | exact q_c733b715bf h64.2.2.1 | omega, by first | exact q_ccc3bb8fc9 h43.2.2.1 h64.2.2.2.1 | omega, by first | exact q_28bfca2c13 h43.2.2.1 h64.2.2.2.1 | omega, (by rw [h85]; exact ⟨h73, fun z => absurd z (by (first | exact q_ae2d14d533 h83 h64.2.1 h74 z | omega))⟩)⟩⟩
    · have h86 := Imp_m h64.2.2.2.2.2.1 (by first | exact q_c5d285f1b9 h83 | omega)
      try have h87 := Imp_m h76 (by (first | exact q_ca23768860 h74 h83 | omega))
      try have h88 := Imp_m h75 (by (first | exact q_ca23768860 h74 h83 | omega))
      try have h89 := Imp_m h55 (by (first | exact q_d2dcd30e56 h87.1 | omega))
      try have h90 := Imp_m h54 (by (first | exact q_d2dcd30e56 h87.1 | omega))
      try have h91 := Imp_m h37 (by (first | exact q_d2dcd30e56 h90 | omega))
      refine En_Ps 1 (pc' := 45) (lv' := [(2, .int z67), (0, .ref 3), (1, .ref a)]) (st' := [.ref a]) rfl ?_
      refine En_getR (j := 12) (g' := 25) (u := 0) rfl rfl rfl ha (by decide +kernel) h62 (by decide +kernel) (fun a93 h92 ha93 => ?_)
      refine En_Ps 1 (pc' := 49) (lv' := [(2, .int z67), (0, .ref 3), (1, .ref a)]) (st' := [.ref a, .ref a93]) rfl ?_
      refine En_getK (j := 11) ((h63 _ _ (inW ha (by decide +kernel))).trans ((h42 _ _ (inW ha (by decide +kernel))).trans ((h16 _ _ (inW ha (by decide +kernel))).trans h2))) rfl rfl rfl ha (by decide +kernel) ?_
      refine En_Ps 1 (pc' := 53) (lv' := [(2, .int z67), (0, .ref 3), (1, .ref a)]) (st' := [.int z67, .int z3, .ref a93]) rfl ?_
      refine En_iast (l := 0) (u := 9) rfl rfl ha93 (by decide +kernel) (by first | exact q_58e6e51dcc h4 | omega) (lnI (by decide +kernel : LN _ = 6) (by first | exact q_ab9991d2ad h7 | omega)) (FTsgl (by decide +kernel)) (rngI rfl (by (first | exact q_db9a0aaa67 h86.1 (by decide) | omega)) (by (first | exact q_a3d6a97b4a h86.2 this | omega))) h62 h69 (by decide +kernel) (fun σ94 h95 h96 h97 h98 => ?_)
      have h99 : a93 = a + 7 := ref_uniq ((h98 _ _ (Or.inl (neTG ha ha93 (by decide)))).trans h92) (FXP_fr hP hX h96 (by decide +kernel)).2.2.2.2.1
      have h100 := lc_c (m := Sp.2.2.2 5) (by (first | exact q_2d21ab1e6c h6 h4 | omega)) (by (first | exact q_a10108efbd h6 h7 | omega))
      obtain ⟨S101, h102⟩ : ∃ q : PS, q = wst S71 (154 + 2 * Sp.2.2.2 5) ((tV By Nb S49.2.2.1)) := ⟨_, rfl⟩
      have h103 : CT By Nb σ94 S101 := by rw [h102]; exact CT_wst (CT_ne h73 h98 (by have := hP; unfold PLA at this; omega))
      have h104 : KN σ94 a (uPd Sp.2.2.2 (154 + 2 * Sp.2.2.2 5) ((tV By Nb S49.2.2.1))) (fun t => (act Sp.2.2.2 t ∨ t = 154 + 2 * Sp.2.2.2 5)) := KN_st h78 h97 h98 (by (first | exact q_1da383befe h6 h4 | omega)) (by (first | exact q_6af91e7cb1 h6 h7 | omega)) (by omega) (by (first | exact q_c54adee5ad h4 h100.2.2.1 h6 | omega)) (by (try have i0 := Imp_m h76 (by (first | exact q_ca23768860 h74 h83 | omega))); (try have i1 := Imp_m h75 (by (first | exact q_ca23768860 h74 h83 | omega))); (try have i2 := Imp_m h55 (by (first | exact q_d2dcd30e56 i0.1 | omega))); (try have i3 := Imp_m h54 (by (first | exact q_d2dcd30e56 i0.1 | omega))); (try have i4 := Imp_m h37 (by (first | exact q_d2dcd30e56 i3 | omega))); (try have i5 := Imp_m h43.2.2.2.1 (by (first | exact q_a439be255a i2 | omega))); (try have i6 := Imp_m h43.2.2.2.2.2.1 (by omega)); (try have i7 := Imp_m h64.2.2.2.2.2.2.1 (by (first | exact q_c15b962208 h83 h64.2.2.2.1 i6 | omega))); (first | exact q_a8fb2024c1 i1 | omega))
      have h105 : S101.2.2.2 = (uPd Sp.2.2.2 (154 + 2 * Sp.2.2.2 5) ((tV By Nb S49.2.2.1))) := by rw [h102]; show uPd S71.2.2.2 _ _ = _; rw [h79]
      have h106 : S101.1 = S71.1 := by rw [h102]; rfl
      have h107 := CT_k h103 ((h98 _ _ (Or.inl (neTG tgz_3 ha93 (by decide)))).trans h66)
      have o108 : OUT σ0 σ94 a := OUT_st o80 h98 (by omega)
      refine En_Ps 2 (pc' := 56) (lv' := [(2, .int z67), (0, .ref 3), (1, .ref a)]) (st' := [.ref a, .ref a]) rfl ?_
      refine En_getK (j := 11) ((h98 _ _ (Or.inl (neTG ha ha93 (by decide)))).trans ((h63 _ _ (inW ha (by decide +kernel))).trans ((h42 _ _ (inW ha (by decide +kernel))).trans ((h16 _ _ (inW ha (by decide +kernel))).trans h2)))) rfl rfl rfl ha (by decide +kernel) ?_
      refine En_Ps 2 (pc' := 61) (lv' := [(2, .int z67), (0, .ref 3), (1, .ref a)]) (st' := [.int ((z3 + ((Int32.ofInt 1)))), .ref a]) rfl ?_
      refine En_top (addI rfl (by decide : (Int32.ofInt 1).toInt = 1) (by first | exact q_465ab79ac1 h4 | omega) (by first | exact q_2918abfa70 h7 | omega)) (fun z109 h110 => ?_)
      refine En_put (j := 11) rfl rfl rfl ha (by decide +kernel) rfl (vI (l := 0) (u := 6) (by decide +kernel) rfl (by first | exact q_35104ce9d3 h110 h4 | omega) (by first | exact q_13d1e79bb8 h110 h7 | omega)) h95 h96 (by decide +kernel) (fun σ111 h112 h113 h114 h115 => ?_)
      obtain ⟨S116, h117⟩ : ∃ q : PS, q = wst S101 (5) (Sp.2.2.2 5 + 1) := ⟨_, rfl⟩
      have h118 : CT By Nb σ111 S116 := by rw [h117]; exact CT_wst (CT_ne h103 h115 (by have := hP; unfold PLA at this; omega))
      have h119 : KN σ111 a (uPd (uPd Sp.2.2.2 (154 + 2 * Sp.2.2.2 5) ((tV By Nb S49.2.2.1))) (5) (Sp.2.2.2 5 + 1)) (fun t => ((act Sp.2.2.2 t ∨ t = 154 + 2 * Sp.2.2.2 5) ∨ t = 5)) := KN_st h104 h114 h115 (by (first | decide | omega)) (by (first | decide | omega)) (by rw [lcO_lt (by decide) (by decide), Nat.add_zero]) (by decide) (by (try have i0 := Imp_m h76 (by (first | exact q_ca23768860 h74 h83 | omega))); (try have i1 := Imp_m h75 (by (first | exact q_ca23768860 h74 h83 | omega))); (try have i2 := Imp_m h55 (by (first | exact q_d2dcd30e56 i0.1 | omega))); (try have i3 := Imp_m h54 (by (first | exact q_d2dcd30e56 i0.1 | omega))); (try have i4 := Imp_m h37 (by (first | exact q_d2dcd30e56 i3 | omega))); (try have i5 := Imp_m h43.2.2.2.1 (by (first | exact q_a439be255a i2 | omega))); (try have i6 := Imp_m h43.2.2.2.2.2.1 (by omega)); (try have i7 := Imp_m h64.2.2.2.2.2.2.1 (by (first | exact q_c1d968cc7e h52 i6 i0.1 | omega))); (first | exact q_c264f2cea9 h110 h6 | omega))
      have h120 : S116.2.2.2 = (uPd (uPd Sp.2.2.2 (154 + 2 * Sp.2.2.2 5) ((tV By Nb S49.2.2.1))) (5) (Sp.2.2.2 5 + 1)) := by rw [h117]; show uPd S101.2.2.2 _ _ = _; rw [h105]
      have h121 : S116.1 = S101.1 := by rw [h117]; rfl
      have h122 := CT_k h118 ((h115 _ _ (Or.inr (by decide))).trans ((h98 _ _ (Or.inl (neTG tgz_3 ha93 (by decide)))).trans h66))
      have o123 : OUT σ0 σ111 a := OUT_st o108 h115 (by omega)
      have h124 : fCourse By Nb Sp = S116 := by unfold fCourse; (try dsimp only); first | (rw [← h21, ← h50, ← h72, ← h102, ← h117]; first | done | rfl) | (rw [← h21, ← h50, ← h72, ← h102, ← h117]; rw [if_pos (by omega)]; first | done | rfl) | (rw [← h21, ← h50, ← h72, ← h102, ← h117]; rw [if_neg (by (first | exact q_3e755454b3 h6 h7 | omega))]; first | done | rfl) | (rw [← h21, ← h50, ← h72, ← h102, ← h117]; rw [if_neg (by (first | exact q_3e755454b3 h6 h7 | omega)), if_pos (by (first | exact q_ca23768860 h74 h83 | omega))]; first | done | rfl) | (rw [← h21, ← h50, ← h72, ← h102, ← h117]; rw [if_neg (by omega), if_neg (by omega)]; first | done | rfl) | (rw [← h21, ← h50, ← h72, ← h102, ← h117]; rw [if_neg (by omega), if_neg (by omega), if_neg (by omega)]; first | done | rfl)
      exact En_ret (v := none) rfl rfl rfl ⟨h112, h113, z65, ((h115 _ _ (Or.inr (by decide))).trans ((h98 _ _ (Or.inl (neTG tgz_3 ha93 (by decide)))).trans h66)), rfl, ⟨o123, by first | exact q_a555021d16 h64.2.1 | omega, by first | exact q_bd3fa30443 h83 | omega, by first | exact q_ccc3bb8fc9 h43.2.2.1 h64.2.2.2.1 | omega, by first | exact q_28bfca2c13 h43.2.2.1 h64.2.2.2.1 | omega, (by rw [h124]; exact ⟨h118, fun zz => by rw [h120]; exact KN_sub h119 (fun t t0 t1 y => ACs (by (first | exact q_2d21ab1e6c h6 h4 | omega)) y)⟩)⟩⟩
  · refine En_Ps 2 (pc' := 11) (lv' := [(0, .ref 3), (1, .ref a)]) (st' := [.int ((Int32.ofInt 3)), .ref 3]) rfl ?_
    have := (by decide : ((Int32.ofInt 3)).toInt = 3)
    refine En_callV rfl rfl rfl rfl rfl rfl rfl rfl tgz_3 (by decide +kernel) rfl (c_54x σ0 hσ0 ((Int32.ofInt 3)) (geI (by decide : (Int32.ofInt 3).toInt = 3) (by decide)) (leI (by decide : (Int32.ofInt 3).toInt = 3) (by decide)) f h_f hC) (by decide) (by decide) (fun v126 σ127 h125 => ?_)
    obtain ⟨h128, h129, z131, h132, rfl, h130⟩ := h125
    have h133 := h130.2.2.2.2.2
    have h134 := Fr_trans hF0 h129 (by decide +kernel)
    obtain ⟨S135, h136⟩ : ∃ q : PS, q = err By Nb 3 Sp := ⟨_, rfl⟩
    have h137 : CT By Nb σ127 S135 := by rw [h136]; exact (CT_eq h133 (err_cg (by (first | exact q_5736040b52 this | omega))))
    have h138 := CT_k h137 h132
    have h139 : S135.2.2.2 = Sp.2.2.2 := by rw [h136]; exact err_w
    have h140 := KN_fr hP hK h129 (by decide +kernel)
    have h141 : S135.2.2.2 = Sp.2.2.2 := h139.trans (rfl : Sp.2.2.2 = Sp.2.2.2)
    have o142 : OUT σ0 σ127 a := OUT_fr OUT_0 h129 (by decide +kernel)
    have h143 : fCourse By Nb Sp = S135 := by unfold fCourse; (try dsimp only); first | (rw [← h136]; first | done | rfl) | (rw [← h136]; rw [if_pos (by (first | exact q_f399ef5c04 h6 h7 | omega))]; first | done | rfl) | (rw [← h136]; rw [if_neg (by omega)]; first | done | rfl) | (rw [← h136]; rw [if_neg (by omega), if_pos (by omega)]; first | done | rfl) | (rw [← h136]; rw [if_neg (by omega), if_neg (by omega)]; first | done | rfl) | (rw [← h136]; rw [if_neg (by omega), if_neg (by omega), if_neg (by omega)]; first | done | rfl)
    exact En_ret (v := none) rfl rfl rfl ⟨h128, h134, z131, h132, rfl, ⟨o142, by first | exact q_1a6ee862c1 h130.1 | omega, by first | exact q_c733b715bf h130.2.1 | omega, by first | exact q_d22b102a8e h130.2.2.1 | omega, by first | exact q_83f4b1e050 h130.2.2.1 | omega, (by rw [h143]; exact ⟨h137, fun z => absurd z (by (first | exact q_78d9c54eee z h138 h130.1 | omega))⟩)⟩⟩
/-- DoorSchool$Reader.readAhead(LDoorSchool$Plan;)V -/
abbrev P_61x (σ0 : SG) (By : Int → Int) (Nb : Int) (Sp : PS) (a : Nat) (f : Int32) (sg : Int32) : PO := fun v σ => WT σ ∧ Fr [(3, 1), (3, 2), (3, 3), (3, 4), (3, 5), (3, 6), (26, 0)] σ0 σ ∧ ∃ f1 : Int32, (σ 3)[5]? = some (Value.int f1) ∧ v = none ∧ OUT σ0 σ a ∧ -f1.toInt ≤ 0 ∧ f1.toInt - 3 ≤ 0 ∧ -f1.toInt + f.toInt ≤ 0 ∧ f.toInt - f1.toInt ≤ 0 ∧ (CT By Nb σ (fAhead By Nb Sp) ∧ ((fAhead By Nb Sp).1 = 0 → KN σ a (fAhead By Nb Sp).2.2.2 (act (fAhead By Nb Sp).2.2.2)))
set_option maxRecDepth 10000 in
set_option maxHeartbeats 4000000 in
theorem c_61x {By : Int → Int} {Nb : Int} {Sp : PS} (σ0 : SG) (hσ0 : WT σ0) (a : Nat) (ha : TG a = 18) (f : Int32) (h_f : (σ0 3)[5]? = some (Value.int f)) (sg : Int32) (h_sg : (σ0 a)[1]? = some (Value.int sg)) (hp0 : -sg.toInt ≤ 0) (hC : CT By Nb σ0 Sp) (hg : Sp.1 = 0) (hP : PLA a) (hX : FXP σ0 a) (hK : KN σ0 a Sp.2.2.2 (act Sp.2.2.2)) : En 3 66 none mr_61 (P_61x σ0 By Nb Sp a f sg) 0 [(0, .ref 3), (1, .ref a)] [] σ0 := by
  obtain ⟨hl_f, hu_f⟩ := WT_int hσ0 (g := 3) (by decide +kernel) (by decide +kernel) (l := 0) (u := 3) (by decide +kernel) h_f
  obtain ⟨hl_sg, hu_sg⟩ := WT_int hσ0 (g := 18) ha (by decide +kernel) (l := (-1)) (u := 4) (by decide +kernel) h_sg
  have hF0 : Fr [(3, 1), (3, 2), (3, 3), (3, 4), (3, 5), (3, 6), (26, 0)] σ0 σ0 := Fr_rfl
  have h1 := CT_k hC h_f
  obtain ⟨z3, h2, h4, h5⟩ := WT_peekI hσ0 ha (by decide +kernel : FT 18 11 = (0, 0, 6)) (by decide +kernel)
  have h6 : Sp.2.2.2 5 = z3.toInt := KN_v hK (Or.inl (by decide)) (by decide) (by decide) (by rw [lcO_lt (by decide) (by decide), Nat.add_zero]) rfl h2
  refine En_Ps 1 (pc' := 1) (lv' := [(0, .ref 3), (1, .ref a)]) (st' := [.ref 3]) rfl ?_
  obtain ⟨z8, h7, h9, h10⟩ := WT_peekI hσ0 tgz_3 (by decide +kernel : FT 3 3 = (0, 0, 1600)) (by decide +kernel)
  refine En_callV rfl rfl rfl rfl rfl rfl rfl rfl tgz_3 (by decide +kernel) rfl (c_72x σ0 hσ0 z8 h7 hC.1 (CT_at hC (by (first | exact q_d2dcd30e56 hg | omega)) h7)) (by decide) (by decide) (fun v12 σ13 h11 => ?_)
  obtain ⟨h14, h15, rfl, h16⟩ := h11
  have h17 := h16
  have h18 := Fr_trans hF0 h15 (by decide +kernel)
  obtain ⟨S19, h20⟩ : ∃ q : PS, q = adv By Nb Sp := ⟨_, rfl⟩
  have h21 : CT By Nb σ13 S19 := by rw [h20]; exact (CT_adv hC (by (first | exact q_d2dcd30e56 hg | omega)) h7 h15 (by decide +kernel) h17.2)
  have h22 := CT_k h21 ((h15 _ _ (inW tgz_3 (by decide +kernel))).trans h_f)
  have h23 : S19.2.2.2 = Sp.2.2.2 := by rw [h20]; exact adv_w
  have h24 : S19.1 = Sp.1 := by rw [h20]; exact adv_1
  have h25 := KN_fr hP hK h15 (by decide +kernel)
  have h26 : S19.2.2.2 = Sp.2.2.2 := h23.trans (rfl : Sp.2.2.2 = Sp.2.2.2)
  have o27 : OUT σ0 σ13 a := OUT_fr OUT_0 h15 (by decide +kernel)
  refine En_Ps 3 (pc' := 7) (lv' := [(0, .ref 3), (1, .ref a)]) (st' := [.ref a, .int ((Int32.ofInt 0)), .ref 3]) rfl ?_
  refine En_getK (j := 11) ((h15 _ _ (inW ha (by decide +kernel))).trans h2) rfl rfl rfl ha (by decide +kernel) ?_
  refine En_Ps 2 (pc' := 12) (lv' := [(0, .ref 3), (1, .ref a)]) (st' := [.int ((z3 - ((Int32.ofInt 1)))), .int ((Int32.ofInt 0)), .ref 3]) rfl ?_
  refine En_top (subI rfl (by decide : (Int32.ofInt 1).toInt = 1) (by first | exact q_93f9478bef h4 | omega) (by first | exact q_9320ba2c05 h5 | omega)) (fun z28 h29 => ?_)
  have := (by decide : ((Int32.ofInt 0)).toInt = 0)
  refine En_callV rfl rfl rfl rfl rfl rfl rfl rfl tgz_3 (by decide +kernel) rfl (c_73x σ13 h14 ((Int32.ofInt 0)) z28 f ((h15 _ _ (inW tgz_3 (by decide +kernel))).trans h_f) h21) (by decide) (by decide) (fun v31 σ32 h30 => ?_)
  obtain ⟨h33, h34, z36, h37, z38, rfl, h35⟩ := h30
  have h39 := h35.2.2.2.2.2.2.2.2.2
  have h40 := Fr_trans h18 h34 (by decide +kernel)
  have h41 : tN By Nb ((Int32.ofInt 0)).toInt z28.toInt S19 = tN By Nb (0) (Sp.2.2.2 5 - 1) S19 := tN_cg2 (fun zz => by (first | exact q_d2dcd30e56 this | omega)) (fun zz => by (first | exact q_171d7b85d9 h29 h6 | omega))
  obtain ⟨S42, h43⟩ : ∃ q : PS, q = tN By Nb (0) (Sp.2.2.2 5 - 1) S19 := ⟨_, rfl⟩
  have h44 : CT By Nb σ32 S42 := by rw [h43]; exact (CT_eq h39.1 h41)
  have h45 := CT_k h44 h37
  have h46 : Imp (S42.1 = 0) (z38.toInt = tV By Nb S19.2.2.1) := fun z => Imp_m h39.2 (by rw [h41, ← h43]; exact z)
  have h47 : Imp (S42.1 = 0) (S19.1 = 0 ∧ tK By Nb S19.2.2.1 = 2 ∧ 0 ≤ tV By Nb S19.2.2.1 ∧ tV By Nb S19.2.2.1 ≤ Sp.2.2.2 5 - 1) := fun z => tN_gg (by rw [← h43]; exact z)
  have h48 : S42.2.2.2 = S19.2.2.2 := by rw [h43]; exact tN_w
  have h49 := KN_fr hP h25 h34 (by decide +kernel)
  have h50 : S42.2.2.2 = Sp.2.2.2 := h48.trans h26
  have o51 : OUT σ0 σ32 a := OUT_fr o27 h34 (by decide +kernel)
  have h52 := Imp_m h35.2.2.2.2.2.2.2.1 (by first | exact q_7d8964ea46 h29 h4 | omega)
  have h53 := Imp_m h35.2.2.2.2.2.2.2.2.1 (by (first | exact q_83da3d7e14 this | omega))
  refine En_Ps 5 (pc' := 20) (lv' := [(2, .int z38), (0, .ref 3), (1, .ref a)]) (st' := [.int ((z38 + ((Int32.ofInt 1)))), .ref 3]) rfl ?_
  refine En_top (addI rfl (by decide : (Int32.ofInt 1).toInt = 1) (by first | exact q_01db6a173f h53 | omega) (by first | exact q_d957616b8b h35.1 | omega)) (fun z54 h55 => ?_)
  refine En_Ps 1 (pc' := 21) (lv' := [(2, .int z38), (0, .ref 3), (1, .ref a)]) (st' := [.ref a, .int z54, .ref 3]) rfl ?_
  refine En_getK (j := 11) ((h34 _ _ (inW ha (by decide +kernel))).trans ((h15 _ _ (inW ha (by decide +kernel))).trans h2)) rfl rfl rfl ha (by decide +kernel) ?_
  refine En_Ps 2 (pc' := 26) (lv' := [(2, .int z38), (0, .ref 3), (1, .ref a)]) (st' := [.int ((z3 - ((Int32.ofInt 1)))), .int z54, .ref 3]) rfl ?_
  refine En_top (subI rfl (by decide : (Int32.ofInt 1).toInt = 1) (by first | exact q_93f9478bef h4 | omega) (by first | exact q_9320ba2c05 h5 | omega)) (fun z56 h57 => ?_)
  refine En_callV rfl rfl rfl rfl rfl rfl rfl rfl tgz_3 (by decide +kernel) rfl (c_73x σ32 h33 z54 z56 z36 h37 h44) (by decide) (by decide) (fun v59 σ60 h58 => ?_)
  obtain ⟨h61, h62, z64, h65, z66, rfl, h63⟩ := h58
  have h67 := h63.2.2.2.2.2.2.2.2.2
  have h68 := Fr_trans h40 h62 (by decide +kernel)
  have h69 : tN By Nb z54.toInt z56.toInt S42 = tN By Nb ((tV By Nb S19.2.2.1) + 1) (Sp.2.2.2 5 - 1) S42 := tN_cg2 (fun zz => by (try have i0 := Imp_m h47 (by (first | exact q_d2dcd30e56 zz | omega))); (try have i1 := Imp_m h46 (by (first | exact q_d2dcd30e56 zz | omega))); (try have i2 := Imp_m h35.2.2.2.2.2.1 (by (first | exact q_d8d8e6600d h45 zz | omega))); (try have i3 := Imp_m h35.2.2.2.2.2.2.1 (by omega)); (first | exact q_a789fa27b0 i3.1 i2.1 this i0.2.2.1 h55 | omega)) (fun zz => by (try have i0 := Imp_m h47 (by (first | exact q_d2dcd30e56 zz | omega))); (try have i1 := Imp_m h46 (by (first | exact q_d2dcd30e56 zz | omega))); (try have i2 := Imp_m h35.2.2.2.2.2.1 (by (first | exact q_d8d8e6600d h45 zz | omega))); (try have i3 := Imp_m h35.2.2.2.2.2.2.1 (by omega)); (first | exact q_295c0de65a h57 h6 i3.1 i2.1 this | omega))
  obtain ⟨S70, h71⟩ : ∃ q : PS, q = tN By Nb ((tV By Nb S19.2.2.1) + 1) (Sp.2.2.2 5 - 1) S42 := ⟨_, rfl⟩
  have h72 : CT By Nb σ60 S70 := by rw [h71]; exact (CT_eq h67.1 h69)
  have h73 := CT_k h72 h65
  have h74 : Imp (S70.1 = 0) (z66.toInt = tV By Nb S42.2.2.1) := fun z => Imp_m h67.2 (by rw [h69, ← h71]; exact z)
  have h75 : Imp (S70.1 = 0) (S42.1 = 0 ∧ tK By Nb S42.2.2.1 = 2 ∧ (tV By Nb S19.2.2.1) + 1 ≤ tV By Nb S42.2.2.1 ∧ tV By Nb S42.2.2.1 ≤ Sp.2.2.2 5 - 1) := fun z => tN_gg (by rw [← h71]; exact z)
  have h76 : S70.2.2.2 = S42.2.2.2 := by rw [h71]; exact tN_w
  have h77 := KN_fr hP h49 h62 (by decide +kernel)
  have h78 : S70.2.2.2 = Sp.2.2.2 := h76.trans h50
  have o79 : OUT σ0 σ60 a := OUT_fr o51 h62 (by decide +kernel)
  have h80 := Imp_m h63.2.2.2.2.2.2.2.1 (by first | exact q_7d8964ea46 h57 h4 | omega)
  have h81 := Imp_m h63.2.2.2.2.2.2.2.2.1 (by first | exact q_c17a431393 h55 h53 | omega)
  refine En_Ps 2 (pc' := 31) (lv' := [(3, .int z66), (2, .int z38), (0, .ref 3), (1, .ref a)]) (st' := [.ref 3]) rfl ?_
  refine En_getK (j := 5) h65 rfl rfl rfl tgz_3 (by decide +kernel) ?_
  refine En_iNe _ rfl rfl (fun h82 => ?_) (fun h82 => ?_)
  · have h83 := Imp_m h63.2.2.2.2.2.2.1 (by first | exact q_e3350da514 h82 h63.2.1 | omega)
    have h84 : fAhead By Nb Sp = S70 := by unfold fAhead; (try dsimp only); first | (rw [← h20, ← h43, ← h71]; first | done | rfl) | (rw [← h20, ← h43, ← h71]; rw [if_pos (by omega)]; first | done | rfl) | (rw [← h20, ← h43, ← h71]; rw [if_neg (by (first | exact q_57b55acfde h82 h63.2.1 h73 | omega))]; first | done | rfl) | (rw [← h20, ← h43, ← h71]; rw [if_neg (by omega), if_pos (by omega)]; first | done | rfl) | (rw [← h20, ← h43, ← h71]; rw [if_neg (by omega), if_neg (by omega)]; first | done | rfl) | (rw [← h20, ← h43, ← h71]; rw [if_neg (by omega), if_neg (by omega), if_neg (by omega)]; first | done | rfl)
    exact En_ret (v := none) rfl rfl rfl ⟨h61, h68, z64, h65, rfl, ⟨o79, by first | exact q_bc42505ae9 h82 h63.2.1 | omega, by first | exact q_c733b715bf h63.2.2.1 | omega, by first | exact q_ccc3bb8fc9 h35.2.2.2.1 h63.2.2.2.1 | omega, by first | exact q_28bfca2c13 h35.2.2.2.1 h63.2.2.2.1 | omega, (by rw [h84]; exact ⟨h72, fun z => absurd z (by (first | exact q_ae2d14d533 h82 h63.2.1 h73 z | omega))⟩)⟩⟩
  · have h85 := Imp_m h35.2.2.2.2.2.1 (by first | exact q_31d5f588b1 h63.2.2.2.1 h82 | omega)
    have h86 := Imp_m h63.2.2.2.2.2.1 (by first | exact q_c5d285f1b9 h82 | omega)
    try have h87 := Imp_m h75 (by (first | exact q_ca23768860 h73 h82 | omega))
    try have h88 := Imp_m h74 (by (first | exact q_ca23768860 h73 h82 | omega))
    try have h89 := Imp_m h47 (by (first | exact q_d2dcd30e56 h87.1 | omega))
    try have h90 := Imp_m h46 (by (first | exact q_d2dcd30e56 h87.1 | omega))
    refine En_Ps 1 (pc' := 38) (lv' := [(3, .int z66), (2, .int z38), (0, .ref 3), (1, .ref a)]) (st' := [.ref a]) rfl ?_
    refine En_getR (j := 13) (g' := 26) (u := 0) rfl rfl rfl ha (by decide +kernel) h61 (by decide +kernel) (fun a92 h91 ha92 => ?_)
    refine En_Ps 2 (pc' := 43) (lv' := [(3, .int z66), (2, .int z38), (0, .ref 3), (1, .ref a)]) (st' := [.int z66, .ref a92, .int z66, .ref a92]) rfl ?_
    refine En_iald (l := 0) (u := 63) rfl rfl ha92 (by decide +kernel) h61 (by first | exact q_8411496380 h86.1 h55 h53 | omega) (lnI (by decide +kernel : LN _ = 6) (by first | exact q_6c4e5973a4 h80 h57 h5 | omega)) (FTsgl (by decide +kernel)) (fun z94 h93 h95 h96 => ?_)
    have h99 : a92 = a + 8 := ref_uniq h91 (FXP_fr hP hX h68 (by decide +kernel)).2.2.2.2.2.1
    have h98 := lc_c (m := (tV By Nb S42.2.2.1)) (by (first | exact q_9201ded2ec h87.2.2.1 h89.2.2.1 | omega)) (by (first | exact q_98659d5ae9 h87.2.2.2 h6 h5 | omega))
    have h97 : Sp.2.2.2 (155 + 2 * (tV By Nb S42.2.2.1)) = z94.toInt := KN_v h77 (Or.inr (Or.inr (Or.inr (Or.inr (Or.inr (Or.inl ⟨by (first | exact q_150b0faa5e h87.2.2.1 h89.2.2.1 | omega), by (first | exact q_6f25589a1b h87.2.2.2 h6 h5 | omega), Or.inl (by omega)⟩)))))) (by (first | exact q_3bde8bfdec h87.2.2.1 h89.2.2.1 | omega)) (by (first | exact q_f10000d037 h87.2.2.2 h6 h5 | omega)) (by omega) (by (first | exact q_46d7cae196 h88 h98.2.2.2 h87.2.2.1 h89.2.2.1 | omega)) h93
    refine En_Ps 4 (pc' := 48) (lv' := [(3, .int z66), (2, .int z38), (0, .ref 3), (1, .ref a)]) (st' := [.int ((z94 ||| ((Int32.ofInt 1) <<< (z38 &&& 31)))), .int z66, .ref a92]) rfl ?_
    refine En_nam (fun z100 h101 => ?_)
    have h102 := orP_v (x := z94) (y := z38) h101 rfl rfl (by (first | exact q_58e6e51dcc h95 | omega)) (by (first | exact q_8bf848900a h96 | omega)) (by (first | exact q_39e281d0cf h85.1 this | omega)) (by (first | exact q_455a230cc9 h55 h5 h86.1 h86.2 h57 | omega))
    have h103 : z100.toInt = orP (Sp.2.2.2 (155 + 2 * (tV By Nb S42.2.2.1))) (tV By Nb S19.2.2.1) := by rw [h102.1]; exact orP_cg (by (first | exact q_a8fb2024c1 h97 | omega)) (by (first | exact q_b1495600e7 h90 | omega))
    refine En_iast (l := 0) (u := 63) rfl rfl ha92 (by decide +kernel) (by first | exact q_8411496380 h86.1 h55 h53 | omega) (lnI (by decide +kernel : LN _ = 6) (by first | exact q_6c4e5973a4 h80 h57 h5 | omega)) (FTsgl (by decide +kernel)) (rngI rfl (by (first | exact q_58e6e51dcc h102.2.1 | omega)) (by (first | exact q_8bf848900a h102.2.2 | omega))) h61 h68 (by decide +kernel) (fun σ104 h105 h106 h107 h108 => ?_)
    have h109 : a92 = a + 8 := ref_uniq ((h108 _ _ (Or.inl (neTG ha ha92 (by decide)))).trans h91) (FXP_fr hP hX h106 (by decide +kernel)).2.2.2.2.2.1
    have h110 := lc_c (m := (tV By Nb S42.2.2.1)) (by (first | exact q_9201ded2ec h87.2.2.1 h89.2.2.1 | omega)) (by (first | exact q_98659d5ae9 h87.2.2.2 h6 h5 | omega))
    obtain ⟨S111, h112⟩ : ∃ q : PS, q = wst S70 (155 + 2 * (tV By Nb S42.2.2.1)) (orP (Sp.2.2.2 (155 + 2 * (tV By Nb S42.2.2.1))) (tV By Nb S19.2.2.1)) := ⟨_, rfl⟩
    have h113 : CT By Nb σ104 S111 := by rw [h112]; exact CT_wst (CT_ne h72 h108 (by have := hP; unfold PLA at this; omega))
    have h114 : KN σ104 a (uPd Sp.2.2.2 (155 + 2 * (tV By Nb S42.2.2.1)) (orP (Sp.2.2.2 (155 + 2 * (tV By Nb S42.2.2.1))) (tV By Nb S19.2.2.1))) (fun t => (act Sp.2.2.2 t ∨ t = 155 + 2 * (tV By Nb S42.2.2.1))) := KN_st h77 h107 h108 (by (first | exact q_3bde8bfdec h87.2.2.1 h89.2.2.1 | omega)) (by (first | exact q_f10000d037 h87.2.2.2 h6 h5 | omega)) (by omega) (by (first | exact q_46d7cae196 h88 h110.2.2.2 h87.2.2.1 h89.2.2.1 | omega)) (by (try have i0 := Imp_m h75 (by (first | exact q_ca23768860 h73 h82 | omega))); (try have i1 := Imp_m h74 (by (first | exact q_ca23768860 h73 h82 | omega))); (try have i2 := Imp_m h47 (by (first | exact q_d2dcd30e56 i0.1 | omega))); (try have i3 := Imp_m h46 (by (first | exact q_d2dcd30e56 i0.1 | omega))); (try have i4 := Imp_m h35.2.2.2.2.2.2.1 (by omega)); (try have i5 := Imp_m h63.2.2.2.2.2.2.1 (by (first | exact q_4722d6bc15 i4.1 h85.1 this | omega))); (first | exact q_a8fb2024c1 h103 | omega))
    have h115 : S111.2.2.2 = (uPd Sp.2.2.2 (155 + 2 * (tV By Nb S42.2.2.1)) (orP (Sp.2.2.2 (155 + 2 * (tV By Nb S42.2.2.1))) (tV By Nb S19.2.2.1))) := by rw [h112]; show uPd S70.2.2.2 _ _ = _; rw [h78]
    have h116 : S111.1 = S70.1 := by rw [h112]; rfl
    have h117 := CT_k h113 ((h108 _ _ (Or.inl (neTG tgz_3 ha92 (by decide)))).trans h65)
    have o118 : OUT σ0 σ104 a := OUT_st o79 h108 (by omega)
    have h119 : fAhead By Nb Sp = S111 := by unfold fAhead; (try dsimp only); first | (rw [← h20, ← h43, ← h71, ← h112]; first | done | rfl) | (rw [← h20, ← h43, ← h71, ← h112]; rw [if_pos (by (first | exact q_ca23768860 h73 h82 | omega))]; first | done | rfl) | (rw [← h20, ← h43, ← h71, ← h112]; rw [if_neg (by omega)]; first | done | rfl) | (rw [← h20, ← h43, ← h71, ← h112]; rw [if_neg (by omega), if_pos (by omega)]; first | done | rfl) | (rw [← h20, ← h43, ← h71, ← h112]; rw [if_neg (by omega), if_neg (by omega)]; first | done | rfl) | (rw [← h20, ← h43, ← h71, ← h112]; rw [if_neg (by omega), if_neg (by omega), if_neg (by omega)]; first | done | rfl)
    exact En_ret (v := none) rfl rfl rfl ⟨h105, h106, z64, ((h108 _ _ (Or.inl (neTG tgz_3 ha92 (by decide)))).trans h65), rfl, ⟨o118, by first | exact q_a555021d16 h63.2.1 | omega, by first | exact q_bd3fa30443 h82 | omega, by first | exact q_ccc3bb8fc9 h35.2.2.2.1 h63.2.2.2.1 | omega, by first | exact q_28bfca2c13 h35.2.2.2.1 h63.2.2.2.1 | omega, (by rw [h119]; exact ⟨h113, fun zz => by rw [h115]; exact KN_sub h114 (fun t t0 t1 y => Or.inl (act_in (by (first | exact q_aa523e793f h87.2.2.1 h89.2.2.1 | omega)) (by omega) y))⟩)⟩⟩
/-- DoorSchool$Reader.read(LDoorSchool$Plan;)V -/
abbrev P_60x (σ0 : SG) (By : Int → Int) (Nb : Int) (a : Nat) : PO := fun v σ => WT σ ∧ Fr [(3, 1), (3, 2), (3, 3), (3, 4), (3, 5), (3, 6), (18, 0), (18, 1), (18, 2), (18, 3), (18, 6), (18, 7), (18, 8), (18, 11), (18, 14), (20, 2), (21, 0), (22, 0), (23, 0), (24, 0), (25, 0), (26, 0), (28, 1), (28, 2), (28, 3)] σ0 σ ∧ ∃ f1 : Int32, (σ 3)[5]? = some (Value.int f1) ∧ ∃ sg1 : Int32, (σ a)[1]? = some (Value.int sg1) ∧ v = none ∧ OUT σ0 σ a ∧ -f1.toInt ≤ 0 ∧ f1.toInt - 3 ≤ 0 ∧ -sg1.toInt - 1 ≤ 0 ∧ sg1.toInt - 4 ≤ 0 ∧ -sg1.toInt - f1.toInt ≤ 0 ∧ (OTH a σ0 σ ∧ RDC By Nb a σ)
set_option maxRecDepth 10000 in
set_option maxHeartbeats 4000000 in
theorem c_60x {By : Int → Int} {Nb : Int} (σ0 : SG) (hσ0 : WT σ0) (a : Nat) (ha : TG a = 18) (hB : TPc By Nb σ0) (hP : PLA a) (hX : FXP σ0 a) : En 7 159 none mr_60 (P_60x σ0 By Nb a) 0 [(0, .ref 3), (1, .ref a)] [] σ0 := by
  have hF0 : Fr [(3, 1), (3, 2), (3, 3), (3, 4), (3, 5), (3, 6), (18, 0), (18, 1), (18, 2), (18, 3), (18, 6), (18, 7), (18, 8), (18, 11), (18, 14), (20, 2), (21, 0), (22, 0), (23, 0), (24, 0), (25, 0), (26, 0), (28, 1), (28, 2), (28, 3)] σ0 σ0 := Fr_rfl
  refine En_Ps 2 (pc' := 2) (lv' := [(0, .ref 3), (1, .ref a)]) (st' := [.int ((Int32.ofInt 0)), .ref 3]) rfl ?_
  refine En_put (j := 5) rfl rfl rfl tgz_3 (by decide +kernel) rfl (vI (l := 0) (u := 3) (by decide +kernel) (by decide : (Int32.ofInt 0).toInt = 0) (by decide) (by decide)) hσ0 hF0 (by decide +kernel) (fun σ1 h2 h3 h4 h5 => ?_)
  have h6 := OTH_pn (OTH_0 (a := a) (σ := σ0)) h5 tgz_3 (by decide)
  have o7 : OUT σ0 σ1 a := OUT_pn OUT_0 h5 tgz_3 (by decide)
  refine En_Ps 2 (pc' := 7) (lv' := [(0, .ref 3), (1, .ref a)]) (st' := [.int ((Int32.ofInt (-1))), .ref 3]) rfl ?_
  refine En_put (j := 6) rfl rfl rfl tgz_3 (by decide +kernel) rfl (vI (l := (-1)) (u := 1600) (by decide +kernel) (by decide : (Int32.ofInt (-1)).toInt = -1) (by decide) (by decide)) h2 h3 (by decide +kernel) (fun σ8 h9 h10 h11 h12 => ?_)
  have h13 := OTH_pn h6 h12 tgz_3 (by decide)
  have o14 : OUT σ0 σ8 a := OUT_pn o7 h12 tgz_3 (by decide)
  refine En_Ps 2 (pc' := 12) (lv' := [(0, .ref 3), (1, .ref a)]) (st' := [.int ((Int32.ofInt 0)), .ref 3]) rfl ?_
  refine En_put (j := 3) rfl rfl rfl tgz_3 (by decide +kernel) rfl (vI (l := 0) (u := 1600) (by decide +kernel) (by decide : (Int32.ofInt 0).toInt = 0) (by decide) (by decide)) h9 h10 (by decide +kernel) (fun σ15 h16 h17 h18 h19 => ?_)
  have h20 := OTH_pn h13 h19 tgz_3 (by decide)
  have o21 : OUT σ0 σ15 a := OUT_pn o14 h19 tgz_3 (by decide)
  refine En_Ps 1 (pc' := 16) (lv' := [(0, .ref 3), (1, .ref a)]) (st' := [.ref a]) rfl ?_
  refine En_callV rfl rfl rfl rfl rfl rfl rfl rfl ha (by decide +kernel) rfl (c_42x σ15 h16 a ha hP (FXP_fr hP hX h17 (by decide +kernel))) (by decide) (by decide) (fun v23 σ24 h22 => ?_)
  obtain ⟨h25, h26, z28, h29, z30, h31, rfl, h27⟩ := h22
  have h32 := h27.2.2.2.2.2.2.2.2.2
  have h33 := Fr_trans h17 h26 (by decide +kernel)
  have h34 := OTH_tr h20 h32.1
  have o35 : OUT σ0 σ24 a := OUT_tr o21 h27.1
  refine En_Ps 1 (pc' := 20) (lv' := [(0, .ref 3), (1, .ref a)]) (st' := [.ref 3]) rfl ?_
  refine En_callV rfl rfl rfl rfl rfl rfl rfl rfl tgz_3 (by decide +kernel) rfl (c_72x σ24 h25 ((Int32.ofInt 0)) ((h26 _ _ (inW tgz_3 (by decide +kernel))).trans h18) (TPc_fr hB h33 (by decide +kernel)) (by have := (by decide : (Int32.ofInt 0).toInt = 0); have := hB.1; (first | exact q_cd53164edb this (by decide) | omega))) (by decide) (by decide) (fun v37 σ38 h36 => ?_)
  obtain ⟨h39, h40, rfl, h41⟩ := h36
  have h42 := h41
  have h43 := Fr_trans h33 h40 (by decide +kernel)
  have h44 := OTH_fr h34 h40 (by decide +kernel)
  have h45 := KN_fr hP h32.2 h40 (by decide +kernel)
  have o46 : OUT σ0 σ38 a := OUT_fr o35 h40 (by decide +kernel)
  refine En_Ps 2 (pc' := 25) (lv' := [(2, .int ((Int32.ofInt 0))), (0, .ref 3), (1, .ref a)]) (st' := []) rfl ?_
  have key25 : ∀ (n25 : Nat) (σ195 : SG) (y47 : Int32) (y48 : Int32) (y49 : Int32) (y50 : Int32), WT σ195 → Fr [(3, 1), (3, 2), (3, 3), (3, 4), (3, 5), (3, 6), (18, 0), (18, 1), (18, 2), (18, 3), (18, 6), (18, 7), (18, 8), (18, 11), (18, 14), (20, 2), (21, 0), (22, 0), (23, 0), (24, 0), (25, 0), (26, 0), (28, 1), (28, 2), (28, 3)] σ0 σ195 → (σ195 3)[5]? = some (Value.int y48) → (σ195 a)[0]? = some (Value.int y49) → (σ195 a)[1]? = some (Value.int y50) → 0 ≤ y47.toInt → y47.toInt ≤ 1601 → 0 ≤ y48.toInt → y48.toInt ≤ 3 → 0 ≤ y49.toInt → y49.toInt ≤ 1601 → (-1) ≤ y50.toInt → y50.toInt ≤ 4 → -y50.toInt - y48.toInt ≤ 0 → -y50.toInt - y49.toInt ≤ 0 → y47.toInt - y49.toInt + z28.toInt ≤ 0 → -z28.toInt - y47.toInt + y49.toInt ≤ 0 → -y47.toInt + 1601 < (n25 : Int) → OTH a σ0 σ195 → RLI By Nb a σ195 y47.toInt → OUT σ0 σ195 a → En 7 159 none mr_60 (P_60x σ0 By Nb a) 25 [(0, .ref 3), (1, .ref a), (2, .int y47)] [] σ195 := by
    intro n25
    induction n25 with
    | zero =>
      intro σ195 y47 y48 y49 y50 h196 h197 h198 h199 h200 h201 h202 h203 h204 h205 h206 h207 h208 h209 h210 h211 h212 h213 h214 h215 h216
      obtain ⟨S217, f218, h219, h220, h221, h222⟩ := h215
      first | exact (q_313acc1a51 h213 h202).elim | (exfalso; omega)
    | succ n25 ih25 =>
      intro σ195 y47 y48 y49 y50 h196 h197 h198 h199 h200 h201 h202 h203 h204 h205 h206 h207 h208 h209 h210 h211 h212 h213 h214 h215 h216
      obtain ⟨S241, f242, h243, h244, h245, h246⟩ := h215
      refine En_Ps 2 (pc' := 29) (lv' := [(0, .ref 3), (1, .ref a), (2, .int y47)]) (st' := [.int (((Int16.ofInt 1600).toInt32)), .int y47]) rfl ?_
      refine En_icGt _ rfl (by decide : ((Int16.ofInt 1600).toInt32).toInt = 1600) rfl (fun h247 => ?_) (fun h247 => ?_)
      · exact En_ret (v := none) rfl rfl rfl ⟨h196, h197, y48, h198, y50, h200, rfl, ⟨h216, by first | exact q_c803b490ef h203 | omega, by first | exact q_e9a8eec0c4 h204 | omega, by first | exact q_909eef6c0e h207 | omega, by first | exact q_3919a0a4ce h208 | omega, by first | exact q_aa456fd6fe h209 | omega, ⟨h214, RLI_x h243 h244 h245 (fun zz => by omega)⟩⟩⟩
      · refine En_Ps 1 (pc' := 33) (lv' := [(0, .ref 3), (1, .ref a), (2, .int y47)]) (st' := [.ref 3]) rfl ?_
        refine En_getI (j := 1) (l := 0) (u := 4) rfl rfl rfl tgz_3 (by decide +kernel) h196 (by decide +kernel) (fun z249 h248 h250 h251 => ?_)
        have h252 := CT_k h243 h198
        have h253 : Imp (S241.1 = 0) (tK By Nb S241.2.2.1 = z249.toInt) := CT_t h243 h248
        refine En_iEq _ rfl rfl (fun h254 => ?_) (fun h254 => ?_)
        · exact En_ret (v := none) rfl rfl rfl ⟨h196, h197, y48, h198, y50, h200, rfl, ⟨h216, by first | exact q_c803b490ef h203 | omega, by first | exact q_e9a8eec0c4 h204 | omega, by first | exact q_909eef6c0e h207 | omega, by first | exact q_3919a0a4ce h208 | omega, by first | exact q_aa456fd6fe h209 | omega, ⟨h214, RLI_x h243 h244 h245 (fun zz => by (try have i0 := Imp_m h253 (by (first | exact q_d2dcd30e56 zz | omega))); omega)⟩⟩⟩
        · refine En_Ps 1 (pc' := 40) (lv' := [(0, .ref 3), (1, .ref a), (2, .int y47)]) (st' := [.ref 3]) rfl ?_
          refine En_getK (j := 5) h198 rfl rfl rfl tgz_3 (by decide +kernel) ?_
          have h255 := CT_k h243 h198
          refine En_iNe _ rfl rfl (fun h256 => ?_) (fun h256 => ?_)
          · exact En_ret (v := none) rfl rfl rfl ⟨h196, h197, y48, h198, y50, h200, rfl, ⟨h216, by first | exact q_787f1164f6 h256 h203 | omega, by first | exact q_e9a8eec0c4 h204 | omega, by first | exact q_909eef6c0e h207 | omega, by first | exact q_3919a0a4ce h208 | omega, by first | exact q_aa456fd6fe h209 | omega, ⟨h214, RLI_x h243 h244 h245 (fun zz => by (try have i0 := Imp_m h253 (by (first | exact q_d2dcd30e56 zz | omega))); omega)⟩⟩⟩
          · have h257 : S241.1 = 0 := by (first | exact q_ca23768860 h255 h256 | omega)
            try have h261 := Imp_m h253 (by (first | exact q_d2dcd30e56 h257 | omega))
            obtain ⟨h258, h259⟩ := h244 h257
            have h260 : S241.2.2.2 7 = y49.toInt := KN_v h258 (Or.inl (by decide)) (by decide) (by decide) (by rw [lcO_lt (by decide) (by decide), Nat.add_zero]) (by decide) h199
            have keyj199 : ∀ (σ262 : SG) (y265 : Int32) (y269 : Int32) (y273 : Int32), WT σ262 → Fr [(3, 1), (3, 2), (3, 3), (3, 4), (3, 5), (3, 6), (18, 0), (18, 1), (18, 2), (18, 3), (18, 6), (18, 7), (18, 8), (18, 11), (18, 14), (20, 2), (21, 0), (22, 0), (23, 0), (24, 0), (25, 0), (26, 0), (28, 1), (28, 2), (28, 3)] σ0 σ262 → (σ262 3)[5]? = some (Value.int y265) → 0 ≤ y265.toInt → y265.toInt ≤ 3 → (σ262 a)[1]? = some (Value.int y269) → (-1) ≤ y269.toInt → y269.toInt ≤ 4 → (σ262 a)[0]? = some (Value.int y273) → 0 ≤ y273.toInt → y273.toInt ≤ 1601 → -y269.toInt - y265.toInt ≤ 0 → y273.toInt - y49.toInt ≤ 0 ∧ -y273.toInt + y49.toInt ≤ 0 → OTH a σ0 σ262 → CT By Nb σ262 (fL1 By Nb S241) → Imp ((fL1 By Nb S241).1 = 0) (KN σ262 a (fL1 By Nb S241).2.2.2 (act (fL1 By Nb S241).2.2.2)) → OUT σ0 σ262 a → En 7 159 none mr_60 (P_60x σ0 By Nb a) 199 [(0, .ref 3), (1, .ref a), (2, .int y47)] [] σ262 := by
              intro σ262 y265 y269 y273 h263 h264 h266 h267 h268 h270 h271 h272 h274 h275 h276 h277 h278 h279 h280 h281 h282
              refine En_Ps 2 (pc' := 201) (lv' := [(0, .ref 3), (1, .ref a), (2, .int y47)]) (st' := [.ref 3, .ref 3]) rfl ?_
              refine En_getI (j := 1) (l := 0) (u := 4) rfl rfl rfl tgz_3 (by decide +kernel) h263 (by decide +kernel) (fun z284 h283 h285 h286 => ?_)
              have h287 := CT_k h280 h266
              have h288 : Imp ((fL1 By Nb S241).1 = 0) (tK By Nb (fL1 By Nb S241).2.2.1 = z284.toInt) := CT_t h280 h283
              refine En_Ps 1 (pc' := 205) (lv' := [(0, .ref 3), (1, .ref a), (2, .int y47)]) (st' := [.int ((Int32.ofInt 3)), .int z284, .ref 3]) rfl ?_
              refine En_icNe _ rfl (by decide : (Int32.ofInt 3).toInt = 3) rfl (fun h289 => ?_) (fun h289 => ?_)
              · refine En_Ps 1 (pc' := 213) (lv' := [(0, .ref 3), (1, .ref a), (2, .int y47)]) (st' := [.int ((Int32.ofInt 0)), .ref 3]) rfl ?_
                have := (by decide : ((Int32.ofInt 0)).toInt = 0)
                refine En_callV rfl rfl rfl rfl rfl rfl rfl rfl tgz_3 (by decide +kernel) rfl (c_59x σ262 h263 ((Int32.ofInt 0)) (geI (by decide : (Int32.ofInt 0).toInt = 0) (by decide)) (leI (by decide : (Int32.ofInt 0).toInt = 0) (by decide)) y265 h266 h280) (by decide) (by decide) (fun v291 σ292 h290 => ?_)
                obtain ⟨h293, h294, z296, h297, rfl, h295⟩ := h290
                have h298 := h295.2.2.2.2.2.2
                have h299 := Fr_trans h264 h294 (by decide +kernel)
                have h300 := OTH_fr h279 h294 (by decide +kernel)
                have h301 : pss By Nb ((Int32.ofInt 0)).toInt (fL1 By Nb S241) = pss By Nb (if tK By Nb (fL1 By Nb S241).2.2.1 = 3 then 1 else 0) (fL1 By Nb S241) := pss_cg2 (fun zz => by (try have i0 := Imp_m h288 (by (first | exact q_d2dcd30e56 zz | omega))); first | (rw [if_pos (by omega)]; omega) | (rw [if_neg (by omega)]; omega))
                obtain ⟨S302, h303⟩ : ∃ q : PS, q = pss By Nb (if tK By Nb (fL1 By Nb S241).2.2.1 = 3 then 1 else 0) (fL1 By Nb S241) := ⟨_, rfl⟩
                have h304 : CT By Nb σ292 S302 := by rw [h303]; exact (CT_eq h298 h301)
                have h305 := CT_k h304 h297
                have h306 : S302.2.2.2 = (fL1 By Nb S241).2.2.2 := by rw [h303]; exact pss_w
                have h307 : Imp (S302.1 = 0) ((fL1 By Nb S241).1 = 0) := fun z => (pss_g (by rw [h301, ← h303]; exact z)).1
                have h308 : Imp (S302.1 = 0) (((Int32.ofInt 0)).toInt = 1) := fun z => (pss_g (by rw [h301, ← h303]; exact z)).2.1
                have h309 : Imp (S302.1 = 0) (KN σ292 a S302.2.2.2 (act S302.2.2.2)) := fun z => by (try have i0 := Imp_m h308 (by (first | exact q_d2dcd30e56 z | omega))); (try have i1 := Imp_m h307 (by (first | exact q_2527cbf79f i0 this | omega))); (try have i2 := Imp_m h288 (by (first | exact q_d2dcd30e56 i1 | omega))); rw [h306]; exact KN_fr hP (Imp_m h281 (by (first | exact q_d2dcd30e56 i1 | omega))) h294 (by decide +kernel)
                have o310 : OUT σ0 σ292 a := OUT_fr h282 h294 (by decide +kernel)
                have h311 := Imp_m h295.2.2.2.2.2.1 (by (first | exact q_c5d285f1b9 this | omega))
                refine En_Ps 2 (pc' := 218) (lv' := [(0, .ref 3), (1, .ref a), (2, .int y47)]) (st' := [.ref a, .ref a]) rfl ?_
                refine En_getK (j := 0) ((h294 _ _ (inW ha (by decide +kernel))).trans h274) rfl rfl rfl ha (by decide +kernel) ?_
                refine En_Ps 2 (pc' := 223) (lv' := [(0, .ref 3), (1, .ref a), (2, .int y47)]) (st' := [.int ((y273 + ((Int32.ofInt 1)))), .ref a]) rfl ?_
                refine En_top (addI rfl (by decide : (Int32.ofInt 1).toInt = 1) (by first | exact q_465ab79ac1 h275 | omega) (by first | exact q_3f2a934ec4 h276 | omega)) (fun z312 h313 => ?_)
                refine En_put (j := 0) rfl rfl rfl ha (by decide +kernel) rfl (vI (l := 0) (u := 1601) (by decide +kernel) rfl (by first | exact q_35104ce9d3 h313 h275 | omega) (by (first | exact q_46219f8613 h313 h278.1 h260 h259 h247 | omega))) h293 h299 (by decide +kernel) (fun σ314 h315 h316 h317 h318 => ?_)
                have h319 := OTH_pj h300 h318 (by decide)
                obtain ⟨S320, h321⟩ : ∃ q : PS, q = wst S302 7 (S241.2.2.2 7 + 1) := ⟨_, rfl⟩
                have h322 : CT By Nb σ314 S320 := by rw [h321]; exact CT_wst (CT_ne h304 h318 (by have := hP; unfold PLA at this; omega))
                have h323 : Imp (S320.1 = 0) (KN σ314 a S320.2.2.2 (act S320.2.2.2)) := fun zz => by rw [h321] at zz ⊢; exact KN_sub (KN_st (j := 7) (v := S241.2.2.2 7 + 1) (Imp_m h309 zz) h317 h318 (by decide) (by decide) (by rw [lcO_lt (by decide) (by decide), Nat.add_zero]) (by decide) (by (first | exact q_22845dd982 h313 h278.1 h260 h278.2 | omega))) (fun t t0 t1 y => Or.inl (act_low (by decide) y))
                have h324 : fLine By Nb S241 = S320 := fL_line h303 h321
                have h325 : S320.2.2.2 7 = S241.2.2.2 7 + 1 := by rw [h321]; show (if (7 : Int) = 7 then S241.2.2.2 7 + 1 else S302.2.2.2 7) = S241.2.2.2 7 + 1; exact if_pos rfl
                have o326 : OUT σ0 σ314 a := OUT_st o310 h318 (by omega)
                refine En_Ps 1 (pc' := 229) (lv' := [(2, .int ((y47 + Int32.ofInt 1))), (0, .ref 3), (1, .ref a)]) (st' := []) rfl ?_
                refine En_lv1 (addI rfl (by decide : (Int32.ofInt 1).toInt = 1) (by first | exact q_465ab79ac1 h201 | omega) (by first | exact q_1c9c6c18a7 h247 | omega)) (fun z327 h328 => ?_)
                refine En_Ps 1 (pc' := 25) (lv' := [(2, .int z327), (0, .ref 3), (1, .ref a)]) (st' := []) rfl ?_
                refine En_lv (lv := [(0, .ref 3), (1, .ref a), (2, .int z327)]) ⟨rfl, rfl, rfl, trivial⟩ ?_
                exact ih25 σ314 z327 z296 z312 y269 h315 h316 ((h318 _ _ (Or.inr (by decide))).trans h297) h317 ((h318 _ _ (Or.inr (by decide))).trans ((h294 _ _ (inW ha (by decide +kernel))).trans h270)) (by first | exact q_35104ce9d3 h328 h201 | omega) (by first | exact q_cac708c19b h328 h247 | omega) (by first | exact q_996aa4c518 h311 | omega) (by first | exact q_87d9217d84 h295.2.1 | omega) (by first | exact q_35104ce9d3 h313 h275 | omega) (by (first | exact q_46219f8613 h313 h278.1 h260 h259 h247 | omega)) (by first | exact q_77b189e83d h271 | omega) (by first | exact q_c82ed93a8c h272 | omega) (by first | exact q_021a34f81f h271 h311 | omega) (by first | exact q_438bc66a3b h271 h313 h275 | omega) (by (first | exact q_9a57a185f3 h328 h313 h278.2 h211 | omega)) (by (first | exact q_0ac7bd1cd9 h328 h313 h278.1 h212 | omega)) (by first | exact q_1df1dba3ad h328 h213 | omega) (h319) (RLI_s h245 h246 (by (first | exact q_246f9048f8 h247 | omega)) h257 (by (first | exact q_957696b956 h254 h250 h261 | omega)) h324 h322 h323 h325 (by (first | exact q_9ddf9968de h328 h259 | omega))) (o326)
              · refine En_Ps 2 (pc' := 213) (lv' := [(0, .ref 3), (1, .ref a), (2, .int y47)]) (st' := [.int ((Int32.ofInt 1)), .ref 3]) rfl ?_
                have := (by decide : ((Int32.ofInt 1)).toInt = 1)
                refine En_callV rfl rfl rfl rfl rfl rfl rfl rfl tgz_3 (by decide +kernel) rfl (c_59x σ262 h263 ((Int32.ofInt 1)) (geI (by decide : (Int32.ofInt 1).toInt = 1) (by decide)) (leI (by decide : (Int32.ofInt 1).toInt = 1) (by decide)) y265 h266 h280) (by decide) (by decide) (fun v330 σ331 h329 => ?_)
                obtain ⟨h332, h333, z335, h336, rfl, h334⟩ := h329
                have h337 := h334.2.2.2.2.2.2
                have h338 := Fr_trans h264 h333 (by decide +kernel)
                have h339 := OTH_fr h279 h333 (by decide +kernel)
                have h340 : pss By Nb ((Int32.ofInt 1)).toInt (fL1 By Nb S241) = pss By Nb (if tK By Nb (fL1 By Nb S241).2.2.1 = 3 then 1 else 0) (fL1 By Nb S241) := pss_cg2 (fun zz => by (try have i0 := Imp_m h288 (by (first | exact q_d2dcd30e56 zz | omega))); first | (rw [if_pos (by (first | exact q_fd6720277d i0 h289 | omega))]; (first | exact q_0bfa10f27c this | omega)) | (rw [if_neg (by omega)]; omega))
                obtain ⟨S341, h342⟩ : ∃ q : PS, q = pss By Nb (if tK By Nb (fL1 By Nb S241).2.2.1 = 3 then 1 else 0) (fL1 By Nb S241) := ⟨_, rfl⟩
                have h343 : CT By Nb σ331 S341 := by rw [h342]; exact (CT_eq h337 h340)
                have h344 := CT_k h343 h336
                have h345 : S341.2.2.2 = (fL1 By Nb S241).2.2.2 := by rw [h342]; exact pss_w
                have h346 : Imp (S341.1 = 0) ((fL1 By Nb S241).1 = 0) := fun z => (pss_g (by rw [h340, ← h342]; exact z)).1
                have h347 : Imp (S341.1 = 0) (((Int32.ofInt 1)).toInt = 1) := fun z => (pss_g (by rw [h340, ← h342]; exact z)).2.1
                have h348 : Imp (S341.1 = 0) (KN σ331 a S341.2.2.2 (act S341.2.2.2)) := fun z => by (try have i0 := Imp_m h347 (by (first | exact q_d2dcd30e56 z | omega))); (try have i1 := Imp_m h346 (by (first | exact q_d2dcd30e56 z | omega))); (try have i2 := Imp_m h288 (by (first | exact q_d2dcd30e56 i1 | omega))); rw [h345]; exact KN_fr hP (Imp_m h281 (by (first | exact q_d2dcd30e56 i1 | omega))) h333 (by decide +kernel)
                have o349 : OUT σ0 σ331 a := OUT_fr h282 h333 (by decide +kernel)
                have h350 := Imp_m h334.2.2.2.1 (by (first | exact q_a439be255a this | omega))
                refine En_Ps 2 (pc' := 218) (lv' := [(0, .ref 3), (1, .ref a), (2, .int y47)]) (st' := [.ref a, .ref a]) rfl ?_
                refine En_getK (j := 0) ((h333 _ _ (inW ha (by decide +kernel))).trans h274) rfl rfl rfl ha (by decide +kernel) ?_
                refine En_Ps 2 (pc' := 223) (lv' := [(0, .ref 3), (1, .ref a), (2, .int y47)]) (st' := [.int ((y273 + ((Int32.ofInt 1)))), .ref a]) rfl ?_
                refine En_top (addI rfl (by decide : (Int32.ofInt 1).toInt = 1) (by first | exact q_465ab79ac1 h275 | omega) (by first | exact q_3f2a934ec4 h276 | omega)) (fun z351 h352 => ?_)
                refine En_put (j := 0) rfl rfl rfl ha (by decide +kernel) rfl (vI (l := 0) (u := 1601) (by decide +kernel) rfl (by first | exact q_35104ce9d3 h352 h275 | omega) (by (first | exact q_46219f8613 h352 h278.1 h260 h259 h247 | omega))) h332 h338 (by decide +kernel) (fun σ353 h354 h355 h356 h357 => ?_)
                have h358 := OTH_pj h339 h357 (by decide)
                obtain ⟨S359, h360⟩ : ∃ q : PS, q = wst S341 7 (S241.2.2.2 7 + 1) := ⟨_, rfl⟩
                have h361 : CT By Nb σ353 S359 := by rw [h360]; exact CT_wst (CT_ne h343 h357 (by have := hP; unfold PLA at this; omega))
                have h362 : Imp (S359.1 = 0) (KN σ353 a S359.2.2.2 (act S359.2.2.2)) := fun zz => by rw [h360] at zz ⊢; exact KN_sub (KN_st (j := 7) (v := S241.2.2.2 7 + 1) (Imp_m h348 zz) h356 h357 (by decide) (by decide) (by rw [lcO_lt (by decide) (by decide), Nat.add_zero]) (by decide) (by (first | exact q_22845dd982 h352 h278.1 h260 h278.2 | omega))) (fun t t0 t1 y => Or.inl (act_low (by decide) y))
                have h363 : fLine By Nb S241 = S359 := fL_line h342 h360
                have h364 : S359.2.2.2 7 = S241.2.2.2 7 + 1 := by rw [h360]; show (if (7 : Int) = 7 then S241.2.2.2 7 + 1 else S341.2.2.2 7) = S241.2.2.2 7 + 1; exact if_pos rfl
                have o365 : OUT σ0 σ353 a := OUT_st o349 h357 (by omega)
                refine En_Ps 1 (pc' := 229) (lv' := [(2, .int ((y47 + Int32.ofInt 1))), (0, .ref 3), (1, .ref a)]) (st' := []) rfl ?_
                refine En_lv1 (addI rfl (by decide : (Int32.ofInt 1).toInt = 1) (by first | exact q_465ab79ac1 h201 | omega) (by first | exact q_1c9c6c18a7 h247 | omega)) (fun z366 h367 => ?_)
                refine En_Ps 1 (pc' := 25) (lv' := [(2, .int z366), (0, .ref 3), (1, .ref a)]) (st' := []) rfl ?_
                refine En_lv (lv := [(0, .ref 3), (1, .ref a), (2, .int z366)]) ⟨rfl, rfl, rfl, trivial⟩ ?_
                exact ih25 σ353 z366 z335 z351 y269 h354 h355 ((h357 _ _ (Or.inr (by decide))).trans h336) h356 ((h357 _ _ (Or.inr (by decide))).trans ((h333 _ _ (inW ha (by decide +kernel))).trans h270)) (by first | exact q_35104ce9d3 h367 h201 | omega) (by first | exact q_cac708c19b h367 h247 | omega) (by first | exact q_ef1e8e38bf h334.1 | omega) (by first | exact q_87d9217d84 h334.2.1 | omega) (by first | exact q_35104ce9d3 h352 h275 | omega) (by (first | exact q_46219f8613 h352 h278.1 h260 h259 h247 | omega)) (by first | exact q_77b189e83d h271 | omega) (by first | exact q_c82ed93a8c h272 | omega) (by (first | exact q_9bb24b9614 h350.2 h277 | omega)) (by first | exact q_438bc66a3b h271 h352 h275 | omega) (by (first | exact q_9a57a185f3 h367 h352 h278.2 h211 | omega)) (by (first | exact q_0ac7bd1cd9 h367 h352 h278.1 h212 | omega)) (by first | exact q_1df1dba3ad h367 h213 | omega) (h358) (RLI_s h245 h246 (by (first | exact q_246f9048f8 h247 | omega)) h257 (by (first | exact q_957696b956 h254 h250 h261 | omega)) h363 h361 h362 h364 (by (first | exact q_9ddf9968de h367 h259 | omega))) (o365)
            refine En_Ps 1 (pc' := 47) (lv' := [(0, .ref 3), (1, .ref a), (2, .int y47)]) (st' := [.int y47]) rfl ?_
            refine En_iNe _ rfl rfl (fun h368 => ?_) (fun h368 => ?_)
            · refine En_Ps 1 (pc' := 59) (lv' := [(0, .ref 3), (1, .ref a), (2, .int y47)]) (st' := [.ref 3]) rfl ?_
              refine En_ldcS (i := 2) rfl rfl rfl ?_
              refine En_callV rfl rfl rfl rfl rfl rfl rfl rfl tgz_3 (by decide +kernel) rfl (c_71s2x σ195 h196 h243) (by decide) (by decide) (fun v370 σ371 h369 => ?_)
              obtain ⟨h372, h373, z375, rfl, h374⟩ := h369
              have h376 := h374.2.2
              obtain rfl : σ195 = σ371 := Fr_nil h373
              have h377 := h376
              try have h378 := Imp_m h377 (by (first | exact q_d2dcd30e56 h257 | omega))
              try have h379 := Imp_m h253 (by (first | exact q_d2dcd30e56 h257 | omega))
              refine En_iEq _ rfl rfl (fun h380 => ?_) (fun h380 => ?_)
              · refine En_Ps 1 (pc' := 76) (lv' := [(0, .ref 3), (1, .ref a), (2, .int y47)]) (st' := [.ref 3]) rfl ?_
                refine En_ldcS (i := 6) rfl rfl rfl ?_
                refine En_callV rfl rfl rfl rfl rfl rfl rfl rfl tgz_3 (by decide +kernel) rfl (c_71s6x σ195 h196 h243) (by decide) (by decide) (fun v382 σ383 h381 => ?_)
                obtain ⟨h384, h385, z387, rfl, h386⟩ := h381
                have h388 := h386.2.2
                obtain rfl : σ195 = σ383 := Fr_nil h385
                have h389 := h388
                try have h390 := Imp_m h389 (by (first | exact q_d2dcd30e56 h257 | omega))
                try have h391 := Imp_m h377 (by (first | exact q_d2dcd30e56 h257 | omega))
                try have h392 := Imp_m h253 (by (first | exact q_d2dcd30e56 h257 | omega))
                refine En_iEq _ rfl rfl (fun h393 => ?_) (fun h393 => ?_)
                · refine En_Ps 1 (pc' := 93) (lv' := [(0, .ref 3), (1, .ref a), (2, .int y47)]) (st' := [.ref 3]) rfl ?_
                  refine En_ldcS (i := 3) rfl rfl rfl ?_
                  refine En_callV rfl rfl rfl rfl rfl rfl rfl rfl tgz_3 (by decide +kernel) rfl (c_71s3x σ195 h196 h243) (by decide) (by decide) (fun v395 σ396 h394 => ?_)
                  obtain ⟨h397, h398, z400, rfl, h399⟩ := h394
                  have h401 := h399.2.2
                  obtain rfl : σ195 = σ396 := Fr_nil h398
                  have h402 := h401
                  try have h403 := Imp_m h402 (by (first | exact q_d2dcd30e56 h257 | omega))
                  try have h404 := Imp_m h389 (by (first | exact q_d2dcd30e56 h257 | omega))
                  try have h405 := Imp_m h377 (by (first | exact q_d2dcd30e56 h257 | omega))
                  try have h406 := Imp_m h253 (by (first | exact q_d2dcd30e56 h257 | omega))
                  refine En_iEq _ rfl rfl (fun h407 => ?_) (fun h407 => ?_)
                  · refine En_Ps 1 (pc' := 110) (lv' := [(0, .ref 3), (1, .ref a), (2, .int y47)]) (st' := [.ref 3]) rfl ?_
                    refine En_ldcS (i := 17) rfl rfl rfl ?_
                    refine En_callV rfl rfl rfl rfl rfl rfl rfl rfl tgz_3 (by decide +kernel) rfl (c_71s17x σ195 h196 h243) (by decide) (by decide) (fun v409 σ410 h408 => ?_)
                    obtain ⟨h411, h412, z414, rfl, h413⟩ := h408
                    have h415 := h413.2.2
                    obtain rfl : σ195 = σ410 := Fr_nil h412
                    have h416 := h415
                    try have h417 := Imp_m h416 (by (first | exact q_d2dcd30e56 h257 | omega))
                    try have h418 := Imp_m h402 (by (first | exact q_d2dcd30e56 h257 | omega))
                    try have h419 := Imp_m h389 (by (first | exact q_d2dcd30e56 h257 | omega))
                    try have h420 := Imp_m h377 (by (first | exact q_d2dcd30e56 h257 | omega))
                    try have h421 := Imp_m h253 (by (first | exact q_d2dcd30e56 h257 | omega))
                    refine En_iEq _ rfl rfl (fun h422 => ?_) (fun h422 => ?_)
                    · refine En_Ps 1 (pc' := 127) (lv' := [(0, .ref 3), (1, .ref a), (2, .int y47)]) (st' := [.ref 3]) rfl ?_
                      refine En_ldcS (i := 9) rfl rfl rfl ?_
                      refine En_callV rfl rfl rfl rfl rfl rfl rfl rfl tgz_3 (by decide +kernel) rfl (c_71s9x σ195 h196 h243) (by decide) (by decide) (fun v424 σ425 h423 => ?_)
                      obtain ⟨h426, h427, z429, rfl, h428⟩ := h423
                      have h430 := h428.2.2
                      obtain rfl : σ195 = σ425 := Fr_nil h427
                      have h431 := h430
                      try have h432 := Imp_m h431 (by (first | exact q_d2dcd30e56 h257 | omega))
                      try have h433 := Imp_m h416 (by (first | exact q_d2dcd30e56 h257 | omega))
                      try have h434 := Imp_m h402 (by (first | exact q_d2dcd30e56 h257 | omega))
                      try have h435 := Imp_m h389 (by (first | exact q_d2dcd30e56 h257 | omega))
                      try have h436 := Imp_m h377 (by (first | exact q_d2dcd30e56 h257 | omega))
                      try have h437 := Imp_m h253 (by (first | exact q_d2dcd30e56 h257 | omega))
                      refine En_iEq _ rfl rfl (fun h438 => ?_) (fun h438 => ?_)
                      · refine En_Ps 1 (pc' := 144) (lv' := [(0, .ref 3), (1, .ref a), (2, .int y47)]) (st' := [.ref 3]) rfl ?_
                        refine En_ldcS (i := 5) rfl rfl rfl ?_
                        refine En_callV rfl rfl rfl rfl rfl rfl rfl rfl tgz_3 (by decide +kernel) rfl (c_71s5x σ195 h196 h243) (by decide) (by decide) (fun v440 σ441 h439 => ?_)
                        obtain ⟨h442, h443, z445, rfl, h444⟩ := h439
                        have h446 := h444.2.2
                        obtain rfl : σ195 = σ441 := Fr_nil h443
                        have h447 := h446
                        try have h448 := Imp_m h447 (by (first | exact q_d2dcd30e56 h257 | omega))
                        try have h449 := Imp_m h431 (by (first | exact q_d2dcd30e56 h257 | omega))
                        try have h450 := Imp_m h416 (by (first | exact q_d2dcd30e56 h257 | omega))
                        try have h451 := Imp_m h402 (by (first | exact q_d2dcd30e56 h257 | omega))
                        try have h452 := Imp_m h389 (by (first | exact q_d2dcd30e56 h257 | omega))
                        try have h453 := Imp_m h377 (by (first | exact q_d2dcd30e56 h257 | omega))
                        try have h454 := Imp_m h253 (by (first | exact q_d2dcd30e56 h257 | omega))
                        refine En_iEq _ rfl rfl (fun h455 => ?_) (fun h455 => ?_)
                        · refine En_Ps 1 (pc' := 161) (lv' := [(0, .ref 3), (1, .ref a), (2, .int y47)]) (st' := [.ref 3]) rfl ?_
                          refine En_ldcS (i := 1) rfl rfl rfl ?_
                          refine En_callV rfl rfl rfl rfl rfl rfl rfl rfl tgz_3 (by decide +kernel) rfl (c_71s1x σ195 h196 h243) (by decide) (by decide) (fun v457 σ458 h456 => ?_)
                          obtain ⟨h459, h460, z462, rfl, h461⟩ := h456
                          have h463 := h461.2.2
                          obtain rfl : σ195 = σ458 := Fr_nil h460
                          have h464 := h463
                          try have h465 := Imp_m h464 (by (first | exact q_d2dcd30e56 h257 | omega))
                          try have h466 := Imp_m h447 (by (first | exact q_d2dcd30e56 h257 | omega))
                          try have h467 := Imp_m h431 (by (first | exact q_d2dcd30e56 h257 | omega))
                          try have h468 := Imp_m h416 (by (first | exact q_d2dcd30e56 h257 | omega))
                          try have h469 := Imp_m h402 (by (first | exact q_d2dcd30e56 h257 | omega))
                          try have h470 := Imp_m h389 (by (first | exact q_d2dcd30e56 h257 | omega))
                          try have h471 := Imp_m h377 (by (first | exact q_d2dcd30e56 h257 | omega))
                          try have h472 := Imp_m h253 (by (first | exact q_d2dcd30e56 h257 | omega))
                          refine En_iEq _ rfl rfl (fun h473 => ?_) (fun h473 => ?_)
                          · refine En_Ps 1 (pc' := 178) (lv' := [(0, .ref 3), (1, .ref a), (2, .int y47)]) (st' := [.ref 3]) rfl ?_
                            refine En_ldcS (i := 0) rfl rfl rfl ?_
                            refine En_callV rfl rfl rfl rfl rfl rfl rfl rfl tgz_3 (by decide +kernel) rfl (c_71s0x σ195 h196 h243) (by decide) (by decide) (fun v475 σ476 h474 => ?_)
                            obtain ⟨h477, h478, z480, rfl, h479⟩ := h474
                            have h481 := h479.2.2
                            obtain rfl : σ195 = σ476 := Fr_nil h478
                            have h482 := h481
                            try have h483 := Imp_m h482 (by (first | exact q_d2dcd30e56 h257 | omega))
                            try have h484 := Imp_m h464 (by (first | exact q_d2dcd30e56 h257 | omega))
                            try have h485 := Imp_m h447 (by (first | exact q_d2dcd30e56 h257 | omega))
                            try have h486 := Imp_m h431 (by (first | exact q_d2dcd30e56 h257 | omega))
                            try have h487 := Imp_m h416 (by (first | exact q_d2dcd30e56 h257 | omega))
                            try have h488 := Imp_m h402 (by (first | exact q_d2dcd30e56 h257 | omega))
                            try have h489 := Imp_m h389 (by (first | exact q_d2dcd30e56 h257 | omega))
                            try have h490 := Imp_m h377 (by (first | exact q_d2dcd30e56 h257 | omega))
                            try have h491 := Imp_m h253 (by (first | exact q_d2dcd30e56 h257 | omega))
                            refine En_iEq _ rfl rfl (fun h492 => ?_) (fun h492 => ?_)
                            · refine En_Ps 2 (pc' := 196) (lv' := [(0, .ref 3), (1, .ref a), (2, .int y47)]) (st' := [.int ((Int32.ofInt 1)), .ref 3]) rfl ?_
                              have := (by decide : ((Int32.ofInt 1)).toInt = 1)
                              refine En_callV rfl rfl rfl rfl rfl rfl rfl rfl tgz_3 (by decide +kernel) rfl (c_54x σ195 h196 ((Int32.ofInt 1)) (geI (by decide : (Int32.ofInt 1).toInt = 1) (by decide)) (leI (by decide : (Int32.ofInt 1).toInt = 1) (by decide)) y48 h198 h243) (by decide) (by decide) (fun v494 σ495 h493 => ?_)
                              obtain ⟨h496, h497, z499, h500, rfl, h498⟩ := h493
                              have h501 := h498.2.2.2.2.2
                              have h502 := Fr_trans h197 h497 (by decide +kernel)
                              have h503 := OTH_fr h214 h497 (by decide +kernel)
                              obtain ⟨S504, h505⟩ : ∃ q : PS, q = err By Nb 1 S241 := ⟨_, rfl⟩
                              have h506 : CT By Nb σ495 S504 := by rw [h505]; exact (CT_eq h501 (err_cg (by (first | exact q_0bfa10f27c this | omega))))
                              have h507 := CT_k h506 h500
                              have h508 : Imp (S504.1 = 0) (tK By Nb S504.2.2.1 = z249.toInt) := CT_t h506 ((h497 _ _ (inW tgz_3 (by decide +kernel))).trans h248)
                              have h509 : Imp (S504.1 = 0) (KN σ495 a S504.2.2.2 (act S504.2.2.2)) := fun z => by rw [h505] at z; exact absurd z (err_ne (by decide))
                              have o510 : OUT σ0 σ495 a := OUT_fr h216 h497 (by decide +kernel)
                              have h511 := Imp_m h498.2.2.2.1 (by first | exact q_c5d285f1b9 h256 | omega)
                              have h512 : fL1 By Nb S241 = S504 := by rw [h505]; exact (fL1_1 (by (first | exact q_957696b956 h368 h201 h259 | omega))).trans (fNx_n (by (first | exact q_7ed2936742 h490 h380 | omega)) (by (first | exact q_7ed2936742 h489 h393 | omega)) (by (first | exact q_7ed2936742 h488 h407 | omega)) (by (first | exact q_7ed2936742 h487 h422 | omega)) (by (first | exact q_7ed2936742 h486 h438 | omega)) (by (first | exact q_7ed2936742 h485 h455 | omega)) (by (first | exact q_7ed2936742 h484 h473 | omega)) (by (first | exact q_7ed2936742 h483 h492 | omega)))
                              exact keyj199 σ495 z499 y50 y49 h496 h502 h500 (by first | exact q_996aa4c518 h498.1 | omega) (by first | exact q_87d9217d84 h498.2.1 | omega) ((h497 _ _ (inW ha (by decide +kernel))).trans h200) (by first | exact q_77b189e83d h207 | omega) (by first | exact q_c82ed93a8c h208 | omega) ((h497 _ _ (inW ha (by decide +kernel))).trans h199) (by first | exact q_58e6e51dcc h205 | omega) (by first | exact q_3232882bcd h206 | omega) (by (first | exact q_f752096d76 h498.1 h256 h209 | omega)) (by (first | exact q_68b4389ff1 | omega)) (h503) (CT_eq h506 h512.symm) (by rw [h512]; exact h509) (o510)
                            · refine En_Ps 2 (pc' := 188) (lv' := [(0, .ref 3), (1, .ref a), (2, .int y47)]) (st' := [.ref a, .ref 3]) rfl ?_
                              refine En_callV rfl rfl rfl rfl rfl rfl rfl rfl tgz_3 (by decide +kernel) rfl (c_61x σ195 h196 a ha y48 h198 y50 h200 (by first | exact q_8ecf8a2bf8 h209 h256 | omega) h243 (by (first | exact q_d2dcd30e56 h257 | omega)) hP (FXP_fr hP hX h197 (by decide +kernel)) h258) (by decide) (by decide) (fun v514 σ515 h513 => ?_)
                              obtain ⟨h516, h517, z519, h520, rfl, h518⟩ := h513
                              have h521 := h518.2.2.2.2.2
                              have h522 := Fr_trans h197 h517 (by decide +kernel)
                              have h523 := OTH_fr h214 h517 (by decide +kernel)
                              obtain ⟨S524, h525⟩ : ∃ q : PS, q = fAhead By Nb S241 := ⟨_, rfl⟩
                              have h526 : CT By Nb σ515 S524 := by rw [h525]; exact h521.1
                              have h527 := CT_k h526 h520
                              have h528 : Imp (S524.1 = 0) (KN σ515 a S524.2.2.2 (act S524.2.2.2)) := fun z => by rw [h525] at z ⊢; exact h521.2 z
                              have o529 : OUT σ0 σ515 a := OUT_tr h216 h518.1
                              refine En_Ps 1 (pc' := 199) (lv' := [(0, .ref 3), (1, .ref a), (2, .int y47)]) (st' := []) rfl ?_
                              have h530 : fL1 By Nb S241 = S524 := by rw [h525]; exact (fL1_1 (by (first | exact q_957696b956 h368 h201 h259 | omega))).trans (fNx_0 (by (first | exact q_7ed2936742 h490 h380 | omega)) (by (first | exact q_7ed2936742 h489 h393 | omega)) (by (first | exact q_7ed2936742 h488 h407 | omega)) (by (first | exact q_7ed2936742 h487 h422 | omega)) (by (first | exact q_7ed2936742 h486 h438 | omega)) (by (first | exact q_7ed2936742 h485 h455 | omega)) (by (first | exact q_7ed2936742 h484 h473 | omega)) (by (first | exact q_8c31a76373 h492 h479.1 h483 h479.2.1 | omega)))
                              exact keyj199 σ515 z519 y50 y49 h516 h522 h520 (by first | exact q_ef1e8e38bf h518.2.1 | omega) (by first | exact q_87d9217d84 h518.2.2.1 | omega) ((h517 _ _ (inW ha (by decide +kernel))).trans h200) (by first | exact q_77b189e83d h207 | omega) (by first | exact q_c82ed93a8c h208 | omega) ((h517 _ _ (inW ha (by decide +kernel))).trans h199) (by first | exact q_58e6e51dcc h205 | omega) (by first | exact q_3232882bcd h206 | omega) (by (first | exact q_9bb24b9614 h518.2.2.2.1 h209 | omega)) (by (first | exact q_68b4389ff1 | omega)) (h523) (CT_eq h526 h530.symm) (by rw [h530]; exact h528) (o529)
                          · refine En_Ps 2 (pc' := 171) (lv' := [(0, .ref 3), (1, .ref a), (2, .int y47)]) (st' := [.ref a, .ref 3]) rfl ?_
                            refine En_callV rfl rfl rfl rfl rfl rfl rfl rfl tgz_3 (by decide +kernel) rfl (c_62x σ195 h196 a ha y48 h198 y50 h200 (by first | exact q_8ecf8a2bf8 h209 h256 | omega) h243 (by (first | exact q_d2dcd30e56 h257 | omega)) hP (FXP_fr hP hX h197 (by decide +kernel)) h258) (by decide) (by decide) (fun v532 σ533 h531 => ?_)
                            obtain ⟨h534, h535, z537, h538, rfl, h536⟩ := h531
                            have h539 := h536.2.2.2.2.2
                            have h540 := Fr_trans h197 h535 (by decide +kernel)
                            have h541 := OTH_fr h214 h535 (by decide +kernel)
                            obtain ⟨S542, h543⟩ : ∃ q : PS, q = fCourse By Nb S241 := ⟨_, rfl⟩
                            have h544 : CT By Nb σ533 S542 := by rw [h543]; exact h539.1
                            have h545 := CT_k h544 h538
                            have h546 : Imp (S542.1 = 0) (KN σ533 a S542.2.2.2 (act S542.2.2.2)) := fun z => by rw [h543] at z ⊢; exact h539.2 z
                            have o547 : OUT σ0 σ533 a := OUT_tr h216 h536.1
                            refine En_Ps 1 (pc' := 199) (lv' := [(0, .ref 3), (1, .ref a), (2, .int y47)]) (st' := []) rfl ?_
                            have h548 : fL1 By Nb S241 = S542 := by rw [h543]; exact (fL1_1 (by (first | exact q_957696b956 h368 h201 h259 | omega))).trans (fNx_1 (by (first | exact q_7ed2936742 h471 h380 | omega)) (by (first | exact q_7ed2936742 h470 h393 | omega)) (by (first | exact q_7ed2936742 h469 h407 | omega)) (by (first | exact q_7ed2936742 h468 h422 | omega)) (by (first | exact q_7ed2936742 h467 h438 | omega)) (by (first | exact q_7ed2936742 h466 h455 | omega)) (by (first | exact q_8c31a76373 h473 h461.1 h465 h461.2.1 | omega)))
                            exact keyj199 σ533 z537 y50 y49 h534 h540 h538 (by first | exact q_ef1e8e38bf h536.2.1 | omega) (by first | exact q_87d9217d84 h536.2.2.1 | omega) ((h535 _ _ (inW ha (by decide +kernel))).trans h200) (by first | exact q_77b189e83d h207 | omega) (by first | exact q_c82ed93a8c h208 | omega) ((h535 _ _ (inW ha (by decide +kernel))).trans h199) (by first | exact q_58e6e51dcc h205 | omega) (by first | exact q_3232882bcd h206 | omega) (by (first | exact q_9bb24b9614 h536.2.2.2.1 h209 | omega)) (by (first | exact q_68b4389ff1 | omega)) (h541) (CT_eq h544 h548.symm) (by rw [h548]; exact h546) (o547)
                        · refine En_Ps 2 (pc' := 154) (lv' := [(0, .ref 3), (1, .ref a), (2, .int y47)]) (st' := [.ref a, .ref 3]) rfl ?_
                          refine En_callV rfl rfl rfl rfl rfl rfl rfl rfl tgz_3 (by decide +kernel) rfl (c_66x σ195 h196 a ha y48 h198 y50 h200 (by first | exact q_8ecf8a2bf8 h209 h256 | omega) h243 (by (first | exact q_d2dcd30e56 h257 | omega)) hP (FXP_fr hP hX h197 (by decide +kernel)) h258) (by decide) (by decide) (fun v550 σ551 h549 => ?_)
                          obtain ⟨h552, h553, z555, h556, rfl, h554⟩ := h549
                          have h557 := h554.2.2.2.2.2
                          have h558 := Fr_trans h197 h553 (by decide +kernel)
                          have h559 := OTH_fr h214 h553 (by decide +kernel)
                          obtain ⟨S560, h561⟩ : ∃ q : PS, q = fHouse By Nb S241 := ⟨_, rfl⟩
                          have h562 : CT By Nb σ551 S560 := by rw [h561]; exact h557.1
                          have h563 := CT_k h562 h556
                          have h564 : Imp (S560.1 = 0) (KN σ551 a S560.2.2.2 (act S560.2.2.2)) := fun z => by rw [h561] at z ⊢; exact h557.2 z
                          have o565 : OUT σ0 σ551 a := OUT_tr h216 h554.1
                          refine En_Ps 1 (pc' := 199) (lv' := [(0, .ref 3), (1, .ref a), (2, .int y47)]) (st' := []) rfl ?_
                          have h566 : fL1 By Nb S241 = S560 := by rw [h561]; exact (fL1_1 (by (first | exact q_957696b956 h368 h201 h259 | omega))).trans (fNx_5 (by (first | exact q_7ed2936742 h453 h380 | omega)) (by (first | exact q_7ed2936742 h452 h393 | omega)) (by (first | exact q_7ed2936742 h451 h407 | omega)) (by (first | exact q_7ed2936742 h450 h422 | omega)) (by (first | exact q_7ed2936742 h449 h438 | omega)) (by (first | exact q_8c31a76373 h455 h444.1 h448 h444.2.1 | omega)))
                          exact keyj199 σ551 z555 y50 y49 h552 h558 h556 (by first | exact q_ef1e8e38bf h554.2.1 | omega) (by first | exact q_87d9217d84 h554.2.2.1 | omega) ((h553 _ _ (inW ha (by decide +kernel))).trans h200) (by first | exact q_77b189e83d h207 | omega) (by first | exact q_c82ed93a8c h208 | omega) ((h553 _ _ (inW ha (by decide +kernel))).trans h199) (by first | exact q_58e6e51dcc h205 | omega) (by first | exact q_3232882bcd h206 | omega) (by (first | exact q_9bb24b9614 h554.2.2.2.1 h209 | omega)) (by (first | exact q_68b4389ff1 | omega)) (h559) (CT_eq h562 h566.symm) (by rw [h566]; exact h564) (o565)
                      · refine En_Ps 2 (pc' := 137) (lv' := [(0, .ref 3), (1, .ref a), (2, .int y47)]) (st' := [.ref a, .ref 3]) rfl ?_
                        refine En_callV rfl rfl rfl rfl rfl rfl rfl rfl tgz_3 (by decide +kernel) rfl (c_68x σ195 h196 a ha y48 h198 y50 h200 (by first | exact q_8ecf8a2bf8 h209 h256 | omega) h243 (by (first | exact q_d2dcd30e56 h257 | omega)) hP (FXP_fr hP hX h197 (by decide +kernel)) h258) (by decide) (by decide) (fun v568 σ569 h567 => ?_)
                        obtain ⟨h570, h571, z573, h574, rfl, h572⟩ := h567
                        have h575 := h572.2.2.2.2.2
                        have h576 := Fr_trans h197 h571 (by decide +kernel)
                        have h577 := OTH_fr h214 h571 (by decide +kernel)
                        obtain ⟨S578, h579⟩ : ∃ q : PS, q = fOwner By Nb S241 := ⟨_, rfl⟩
                        have h580 : CT By Nb σ569 S578 := by rw [h579]; exact h575.1
                        have h581 := CT_k h580 h574
                        have h582 : Imp (S578.1 = 0) (KN σ569 a S578.2.2.2 (act S578.2.2.2)) := fun z => by rw [h579] at z ⊢; exact h575.2 z
                        have o583 : OUT σ0 σ569 a := OUT_tr h216 h572.1
                        refine En_Ps 1 (pc' := 199) (lv' := [(0, .ref 3), (1, .ref a), (2, .int y47)]) (st' := []) rfl ?_
                        have h584 : fL1 By Nb S241 = S578 := by rw [h579]; exact (fL1_1 (by (first | exact q_957696b956 h368 h201 h259 | omega))).trans (fNx_9 (by (first | exact q_7ed2936742 h436 h380 | omega)) (by (first | exact q_7ed2936742 h435 h393 | omega)) (by (first | exact q_7ed2936742 h434 h407 | omega)) (by (first | exact q_7ed2936742 h433 h422 | omega)) (by (first | exact q_8c31a76373 h438 h428.1 h432 h428.2.1 | omega)))
                        exact keyj199 σ569 z573 y50 y49 h570 h576 h574 (by first | exact q_ef1e8e38bf h572.2.1 | omega) (by first | exact q_87d9217d84 h572.2.2.1 | omega) ((h571 _ _ (inW ha (by decide +kernel))).trans h200) (by first | exact q_77b189e83d h207 | omega) (by first | exact q_c82ed93a8c h208 | omega) ((h571 _ _ (inW ha (by decide +kernel))).trans h199) (by first | exact q_58e6e51dcc h205 | omega) (by first | exact q_3232882bcd h206 | omega) (by (first | exact q_9bb24b9614 h572.2.2.2.1 h209 | omega)) (by (first | exact q_68b4389ff1 | omega)) (h577) (CT_eq h580 h584.symm) (by rw [h584]; exact h582) (o583)
                    · refine En_Ps 2 (pc' := 120) (lv' := [(0, .ref 3), (1, .ref a), (2, .int y47)]) (st' := [.ref a, .ref 3]) rfl ?_
                      refine En_callV rfl rfl rfl rfl rfl rfl rfl rfl tgz_3 (by decide +kernel) rfl (c_70x σ195 h196 a ha y48 h198 y50 h200 (by first | exact q_8ecf8a2bf8 h209 h256 | omega) h243 (by (first | exact q_d2dcd30e56 h257 | omega)) hP (FXP_fr hP hX h197 (by decide +kernel)) h258) (by decide) (by decide) (fun v586 σ587 h585 => ?_)
                      obtain ⟨h588, h589, z591, h592, rfl, h590⟩ := h585
                      have h593 := h590.2.2.2.2.2
                      have h594 := Fr_trans h197 h589 (by decide +kernel)
                      have h595 := OTH_fr h214 h589 (by decide +kernel)
                      obtain ⟨S596, h597⟩ : ∃ q : PS, q = fTwin By Nb S241 := ⟨_, rfl⟩
                      have h598 : CT By Nb σ587 S596 := by rw [h597]; exact h593.1
                      have h599 := CT_k h598 h592
                      have h600 : Imp (S596.1 = 0) (KN σ587 a S596.2.2.2 (act S596.2.2.2)) := fun z => by rw [h597] at z ⊢; exact h593.2 z
                      have o601 : OUT σ0 σ587 a := OUT_tr h216 h590.1
                      refine En_Ps 1 (pc' := 199) (lv' := [(0, .ref 3), (1, .ref a), (2, .int y47)]) (st' := []) rfl ?_
                      have h602 : fL1 By Nb S241 = S596 := by rw [h597]; exact (fL1_1 (by (first | exact q_957696b956 h368 h201 h259 | omega))).trans (fNx_17 (by (first | exact q_7ed2936742 h420 h380 | omega)) (by (first | exact q_7ed2936742 h419 h393 | omega)) (by (first | exact q_7ed2936742 h418 h407 | omega)) (by (first | exact q_8c31a76373 h422 h413.1 h417 h413.2.1 | omega)))
                      exact keyj199 σ587 z591 y50 y49 h588 h594 h592 (by first | exact q_ef1e8e38bf h590.2.1 | omega) (by first | exact q_87d9217d84 h590.2.2.1 | omega) ((h589 _ _ (inW ha (by decide +kernel))).trans h200) (by first | exact q_77b189e83d h207 | omega) (by first | exact q_c82ed93a8c h208 | omega) ((h589 _ _ (inW ha (by decide +kernel))).trans h199) (by first | exact q_58e6e51dcc h205 | omega) (by first | exact q_3232882bcd h206 | omega) (by (first | exact q_9bb24b9614 h590.2.2.2.1 h209 | omega)) (by (first | exact q_68b4389ff1 | omega)) (h595) (CT_eq h598 h602.symm) (by rw [h602]; exact h600) (o601)
                  · refine En_Ps 2 (pc' := 103) (lv' := [(0, .ref 3), (1, .ref a), (2, .int y47)]) (st' := [.ref a, .ref 3]) rfl ?_
                    refine En_callV rfl rfl rfl rfl rfl rfl rfl rfl tgz_3 (by decide +kernel) rfl (c_64x σ195 h196 a ha y48 h198 y50 h200 (by first | exact q_8ecf8a2bf8 h209 h256 | omega) h243 (by (first | exact q_d2dcd30e56 h257 | omega)) hP (FXP_fr hP hX h197 (by decide +kernel)) h258) (by decide) (by decide) (fun v604 σ605 h603 => ?_)
                    obtain ⟨h606, h607, z609, h610, rfl, h608⟩ := h603
                    have h611 := h608.2.2.2.2.2
                    have h612 := Fr_trans h197 h607 (by decide +kernel)
                    have h613 := OTH_fr h214 h607 (by decide +kernel)
                    obtain ⟨S614, h615⟩ : ∃ q : PS, q = fExam By Nb S241 := ⟨_, rfl⟩
                    have h616 : CT By Nb σ605 S614 := by rw [h615]; exact h611.1
                    have h617 := CT_k h616 h610
                    have h618 : Imp (S614.1 = 0) (KN σ605 a S614.2.2.2 (act S614.2.2.2)) := fun z => by rw [h615] at z ⊢; exact h611.2 z
                    have o619 : OUT σ0 σ605 a := OUT_tr h216 h608.1
                    refine En_Ps 1 (pc' := 199) (lv' := [(0, .ref 3), (1, .ref a), (2, .int y47)]) (st' := []) rfl ?_
                    have h620 : fL1 By Nb S241 = S614 := by rw [h615]; exact (fL1_1 (by (first | exact q_957696b956 h368 h201 h259 | omega))).trans (fNx_3 (by (first | exact q_7ed2936742 h405 h380 | omega)) (by (first | exact q_7ed2936742 h404 h393 | omega)) (by (first | exact q_8c31a76373 h407 h399.1 h403 h399.2.1 | omega)))
                    exact keyj199 σ605 z609 y50 y49 h606 h612 h610 (by first | exact q_ef1e8e38bf h608.2.1 | omega) (by first | exact q_87d9217d84 h608.2.2.1 | omega) ((h607 _ _ (inW ha (by decide +kernel))).trans h200) (by first | exact q_77b189e83d h207 | omega) (by first | exact q_c82ed93a8c h208 | omega) ((h607 _ _ (inW ha (by decide +kernel))).trans h199) (by first | exact q_58e6e51dcc h205 | omega) (by first | exact q_3232882bcd h206 | omega) (by (first | exact q_9bb24b9614 h608.2.2.2.1 h209 | omega)) (by (first | exact q_68b4389ff1 | omega)) (h613) (CT_eq h616 h620.symm) (by rw [h620]; exact h618) (o619)
                · refine En_Ps 2 (pc' := 86) (lv' := [(0, .ref 3), (1, .ref a), (2, .int y47)]) (st' := [.ref a, .ref 3]) rfl ?_
                  refine En_callV rfl rfl rfl rfl rfl rfl rfl rfl tgz_3 (by decide +kernel) rfl (c_67x σ195 h196 a ha y48 h198 y50 h200 (by first | exact q_8ecf8a2bf8 h209 h256 | omega) h243 (by (first | exact q_d2dcd30e56 h257 | omega)) hP (FXP_fr hP hX h197 (by decide +kernel)) h258) (by decide) (by decide) (fun v622 σ623 h621 => ?_)
                  obtain ⟨h624, h625, z627, h628, rfl, h626⟩ := h621
                  have h629 := h626.2.2.2.2.2
                  have h630 := Fr_trans h197 h625 (by decide +kernel)
                  have h631 := OTH_fr h214 h625 (by decide +kernel)
                  obtain ⟨S632, h633⟩ : ∃ q : PS, q = fLesson By Nb S241 := ⟨_, rfl⟩
                  have h634 : CT By Nb σ623 S632 := by rw [h633]; exact h629.1
                  have h635 := CT_k h634 h628
                  have h636 : Imp (S632.1 = 0) (KN σ623 a S632.2.2.2 (act S632.2.2.2)) := fun z => by rw [h633] at z ⊢; exact h629.2 z
                  have o637 : OUT σ0 σ623 a := OUT_tr h216 h626.1
                  refine En_Ps 1 (pc' := 199) (lv' := [(0, .ref 3), (1, .ref a), (2, .int y47)]) (st' := []) rfl ?_
                  have h638 : fL1 By Nb S241 = S632 := by rw [h633]; exact (fL1_1 (by (first | exact q_957696b956 h368 h201 h259 | omega))).trans (fNx_6 (by (first | exact q_7ed2936742 h391 h380 | omega)) (by (first | exact q_8c31a76373 h393 h386.1 h390 h386.2.1 | omega)))
                  exact keyj199 σ623 z627 y50 y49 h624 h630 h628 (by first | exact q_ef1e8e38bf h626.2.1 | omega) (by first | exact q_87d9217d84 h626.2.2.1 | omega) ((h625 _ _ (inW ha (by decide +kernel))).trans h200) (by first | exact q_77b189e83d h207 | omega) (by first | exact q_c82ed93a8c h208 | omega) ((h625 _ _ (inW ha (by decide +kernel))).trans h199) (by first | exact q_58e6e51dcc h205 | omega) (by first | exact q_3232882bcd h206 | omega) (by (first | exact q_9bb24b9614 h626.2.2.2.1 h209 | omega)) (by (first | exact q_68b4389ff1 | omega)) (h631) (CT_eq h634 h638.symm) (by rw [h638]; exact h636) (o637)
              · refine En_Ps 2 (pc' := 69) (lv' := [(0, .ref 3), (1, .ref a), (2, .int y47)]) (st' := [.ref a, .ref 3]) rfl ?_
                refine En_callV rfl rfl rfl rfl rfl rfl rfl rfl tgz_3 (by decide +kernel) rfl (c_63x σ195 h196 a ha y48 h198 y50 h200 (by first | exact q_8ecf8a2bf8 h209 h256 | omega) h243 (by (first | exact q_d2dcd30e56 h257 | omega)) hP (FXP_fr hP hX h197 (by decide +kernel)) h258) (by decide) (by decide) (fun v640 σ641 h639 => ?_)
                obtain ⟨h642, h643, z645, h646, rfl, h644⟩ := h639
                have h647 := h644.2.2.2.2.2
                have h648 := Fr_trans h197 h643 (by decide +kernel)
                have h649 := OTH_fr h214 h643 (by decide +kernel)
                obtain ⟨S650, h651⟩ : ∃ q : PS, q = fDoor By Nb S241 := ⟨_, rfl⟩
                have h652 : CT By Nb σ641 S650 := by rw [h651]; exact h647.1
                have h653 := CT_k h652 h646
                have h654 : Imp (S650.1 = 0) (KN σ641 a S650.2.2.2 (act S650.2.2.2)) := fun z => by rw [h651] at z ⊢; exact h647.2 z
                have o655 : OUT σ0 σ641 a := OUT_tr h216 h644.1
                refine En_Ps 1 (pc' := 199) (lv' := [(0, .ref 3), (1, .ref a), (2, .int y47)]) (st' := []) rfl ?_
                have h656 : fL1 By Nb S241 = S650 := by rw [h651]; exact (fL1_1 (by (first | exact q_957696b956 h368 h201 h259 | omega))).trans (fNx_2 (by (first | exact q_8c31a76373 h380 h374.1 h378 h374.2.1 | omega)))
                exact keyj199 σ641 z645 y50 y49 h642 h648 h646 (by first | exact q_ef1e8e38bf h644.2.1 | omega) (by first | exact q_87d9217d84 h644.2.2.1 | omega) ((h643 _ _ (inW ha (by decide +kernel))).trans h200) (by first | exact q_77b189e83d h207 | omega) (by first | exact q_c82ed93a8c h208 | omega) ((h643 _ _ (inW ha (by decide +kernel))).trans h199) (by first | exact q_58e6e51dcc h205 | omega) (by first | exact q_3232882bcd h206 | omega) (by (first | exact q_9bb24b9614 h644.2.2.2.1 h209 | omega)) (by (first | exact q_68b4389ff1 | omega)) (h649) (CT_eq h652 h656.symm) (by rw [h656]; exact h654) (o655)
            · refine En_Ps 2 (pc' := 52) (lv' := [(0, .ref 3), (1, .ref a), (2, .int y47)]) (st' := [.ref a, .ref 3]) rfl ?_
              refine En_callV rfl rfl rfl rfl rfl rfl rfl rfl tgz_3 (by decide +kernel) rfl (c_65x σ195 h196 a ha y48 h198 h243 (by (first | exact q_d2dcd30e56 h257 | omega)) hP (FXP_fr hP hX h197 (by decide +kernel)) h258) (by decide) (by decide) (fun v658 σ659 h657 => ?_)
              obtain ⟨h660, h661, z663, h664, z665, h666, rfl, h662⟩ := h657
              have h667 := h662.2.2.2.2.2.2.2.2
              have h668 := Fr_trans h197 h661 (by decide +kernel)
              have h669 := OTH_tr h214 h667.1
              obtain ⟨S670, h671⟩ : ∃ q : PS, q = fFirst By Nb S241 := ⟨_, rfl⟩
              have h672 : CT By Nb σ659 S670 := by rw [h671]; exact h667.2.1
              have h673 := CT_k h672 h664
              have h674 : Imp (S670.1 = 0) (KN σ659 a S670.2.2.2 (act S670.2.2.2)) := fun z => by rw [h671] at z ⊢; exact h667.2.2 z
              have o675 : OUT σ0 σ659 a := OUT_tr h216 h662.1
              refine En_Ps 1 (pc' := 199) (lv' := [(0, .ref 3), (1, .ref a), (2, .int y47)]) (st' := []) rfl ?_
              have h676 : fL1 By Nb S241 = S670 := by rw [h671]; exact fL1_0 (by (first | exact q_e3c834491b h260 h205 h259 h368 | omega))
              exact keyj199 σ659 z663 z665 y49 h660 h668 h664 (by first | exact q_ef1e8e38bf h662.2.1 | omega) (by first | exact q_87d9217d84 h662.2.2.1 | omega) h666 (by first | exact q_ce01e7a6da h662.2.2.2.2.1 | omega) (by first | exact q_3b0dd79e8e h662.2.2.2.2.2.1 | omega) ((h661 _ _ (inW ha (by decide +kernel))).trans h199) (by first | exact q_58e6e51dcc h205 | omega) (by first | exact q_3232882bcd h206 | omega) (by (first | exact q_aa456fd6fe h662.2.2.2.2.2.2.2.1 | omega)) (by (first | exact q_68b4389ff1 | omega)) (h669) (CT_eq h672 h676.symm) (by rw [h676]; exact h674) (o675)
  have := (by decide : (Int32.ofInt 0).toInt = 0)
  have := (by decide : (Int32.ofInt 0).toInt = 0)
  refine En_lv (lv := [(0, .ref 3), (1, .ref a), (2, .int ((Int32.ofInt 0)))]) ⟨rfl, rfl, rfl, trivial⟩ ?_
  exact key25 (Int.toNat (1601) + 1) σ38 ((Int32.ofInt 0)) ((Int32.ofInt 0)) z28 z30 h39 h43 ((h40 _ _ (inW tgz_3 (by decide +kernel))).trans ((h26 _ _ (inW tgz_3 (by decide +kernel))).trans ((h19 _ _ (Or.inr (by decide))).trans ((h12 _ _ (Or.inr (by decide))).trans h4)))) ((h40 _ _ (inW ha (by decide +kernel))).trans h29) ((h40 _ _ (inW ha (by decide +kernel))).trans h31) (by decide) (by decide) (by decide) (by decide) (by first | exact q_ef1e8e38bf h27.2.1 | omega) (by first | exact q_319b9e2471 h27.2.2.1 | omega) (by first | exact q_1ab37740a2 h27.2.2.2.1 | omega) (by first | exact q_6b679f4e4f h27.2.2.2.2.1 | omega) (by (first | exact q_a9162359ad (by decide) h27.2.2.2.1 | omega)) (by first | exact q_af949619b4 h27.2.1 h27.2.2.2.1 | omega) (by (first | exact q_70193772ad (by decide) | omega)) (by (first | exact q_5abeeef05c (by decide) | omega)) (by first | exact toN_lt _ | omega) (h44) (RLI_0 h42 (by decide) ((h40 _ _ (inW tgz_3 (by decide +kernel))).trans ((h26 _ _ (inW tgz_3 (by decide +kernel))).trans ((h19 _ _ (Or.inr (by decide))).trans ((h12 _ _ (Or.inr (by decide))).trans h4)))) (by decide) ((h40 _ _ (inW tgz_3 (by decide +kernel))).trans ((h26 _ _ (inW tgz_3 (by decide +kernel))).trans ((h19 _ _ (Or.inr (by decide))).trans h11))) (by decide) h45 (by decide)) (o46)
end
/-! 32.n06 -/
section
/-- DoorSchool$Rules.deedsOf(II)I -/
abbrev P_77ax (σ0 : SG) (a : Int32) (b : Int32) (kk : Int32) : PO := fun v σ => WT σ ∧ Fr [] σ0 σ ∧ ∃ ret : Int32, v = some (Value.int ret) ∧ -ret.toInt ≤ 0 ∧ ret.toInt - 65535 ≤ 0 ∧ ret.toInt = DOf a.toInt b.toInt kk.toInt.toNat
set_option maxRecDepth 10000 in
set_option maxHeartbeats 4000000 in
theorem c_77ax (σ0 : SG) (hσ0 : WT σ0) (a : Int32) (b : Int32) (hl_a : 0 ≤ a.toInt) (hu_a : a.toInt ≤ 15) (kk : Int32) (h_kk : (σ0 4)[0]? = some (Value.int kk)) : En 0 0 none mr_77 (P_77ax σ0 a b kk) 0 [(0, .ref 4), (1, .int a), (2, .int b)] [] σ0 := by
  obtain ⟨hl_kk, hu_kk⟩ := WT_int hσ0 (g := 4) (by decide +kernel) (by decide +kernel) (l := 0) (u := 16) (by decide +kernel) h_kk
  have hF0 : Fr [] σ0 σ0 := Fr_rfl
  refine En_Ps 4 (pc' := 5) (lv' := [(4, .int ((Int32.ofInt 0))), (3, .int ((Int32.ofInt 0))), (0, .ref 4), (1, .int a), (2, .int b)]) (st' := []) rfl ?_
  have key5 : ∀ (n5 : Nat) (y1 : Int32) (y2 : Int32), 0 ≤ y1.toInt → y1.toInt ≤ 65535 → 0 ≤ y2.toInt → y2.toInt ≤ 16 → y2.toInt - kk.toInt ≤ 0 → kk.toInt - y2.toInt < (n5 : Int) → y1.toInt = DOf a.toInt b.toInt (y2.toInt).toNat → En 0 0 none mr_77 (P_77ax σ0 a b kk) 5 [(0, .ref 4), (1, .int a), (2, .int b), (3, .int y1), (4, .int y2)] [] σ0 := by
    intro n5
    induction n5 with
    | zero =>
      intro y1 y2 h6 h7 h8 h9 h10 h11 h12
      first | exact (q_14257feae7 h10 h11).elim | (exfalso; omega)
    | succ n5 ih5 =>
      intro y1 y2 h6 h7 h8 h9 h10 h11 h12
      refine En_Ps 2 (pc' := 8) (lv' := [(0, .ref 4), (1, .int a), (2, .int b), (3, .int y1), (4, .int y2)]) (st' := [.ref 4, .int y2]) rfl ?_
      refine En_getK (j := 0) h_kk rfl rfl rfl tgz_4 (by decide +kernel) ?_
      refine En_icGe _ rfl rfl rfl (fun h13 => ?_) (fun h13 => ?_)
      · refine En_Ps 1 (pc' := 36) (lv' := [(0, .ref 4), (1, .int a), (2, .int b), (3, .int y1), (4, .int y2)]) (st' := [.int y1]) rfl ?_
        exact En_ret (v := some (Value.int y1)) rfl rfl rfl ⟨hσ0, hF0, y1, rfl, ⟨by first | exact q_c803b490ef h6 | omega, by first | exact q_e7edf0f95a h7 | omega, DOf_e h12 (by (first | exact q_596e244303 h10 h13 | omega)) (by (first | exact q_61ddd2b576 | omega))⟩⟩
      · refine En_Ps 3 (pc' := 18) (lv' := [(0, .ref 4), (1, .int a), (2, .int b), (3, .int y1), (4, .int y2)]) (st' := [.int ((y2 &&& a))]) rfl ?_
        refine En_nam (fun z14 h15 => ?_)
        have h16 : z14.toInt = aN y2.toInt a.toInt := and_v h15 rfl rfl (by (first | exact q_58e6e51dcc h8 | omega)) (by (first | exact q_58e6e51dcc hl_a | omega))
        have := aN_le (X := y2.toInt) (Y := a.toInt) (by (first | exact q_58e6e51dcc h8 | omega)) (by (first | exact q_58e6e51dcc hl_a | omega))
        refine En_Ps 1 (pc' := 19) (lv' := [(0, .ref 4), (1, .int a), (2, .int b), (3, .int y1), (4, .int y2)]) (st' := [.int b, .int z14]) rfl ?_
        refine En_icNe _ rfl rfl rfl (fun h17 => ?_) (fun h17 => ?_)
        · refine En_Ps 1 (pc' := 32) (lv' := [(4, .int ((y2 + Int32.ofInt 1))), (0, .ref 4), (1, .int a), (2, .int b), (3, .int y1)]) (st' := []) rfl ?_
          refine En_lv1 (addI rfl (by decide : (Int32.ofInt 1).toInt = 1) (by first | exact q_465ab79ac1 h8 | omega) (by first | exact q_f3f8e04381 h9 | omega)) (fun z18 h19 => ?_)
          refine En_Ps 1 (pc' := 5) (lv' := [(4, .int z18), (0, .ref 4), (1, .int a), (2, .int b), (3, .int y1)]) (st' := []) rfl ?_
          refine En_lv (lv := [(0, .ref 4), (1, .int a), (2, .int b), (3, .int y1), (4, .int z18)]) ⟨rfl, rfl, rfl, rfl, rfl, trivial⟩ ?_
          exact ih5 y1 z18 (by first | exact q_58e6e51dcc h6 | omega) (by first | exact q_36eb0a70bf h7 | omega) (by first | exact q_35104ce9d3 h19 h8 | omega) (by first | exact q_eba8fd3b5f h19 h13 hu_kk | omega) (by first | exact q_ae2dbf4292 h13 h19 | omega) (by first | exact q_8d03a5a7cb h19 h11 | omega) (DOf_n (by (first | exact q_58e6e51dcc h8 | omega)) h12 (by (first | exact q_9ab7013364 h17 h16 | omega)) (by (first | exact q_61ddd2b576 | omega)) (by (first | exact q_ba1b2c713b h19 | omega)))
        · refine En_Ps 4 (pc' := 27) (lv' := [(0, .ref 4), (1, .int a), (2, .int b), (3, .int y1), (4, .int y2)]) (st' := [.int ((((Int32.ofInt 1)) <<< (y2 &&& 31))), .int y1]) rfl ?_
          refine En_nam (fun z20 h21 => ?_)
          have h22 : z20.toInt = pI y2.toInt := shl_v h21 rfl (by (first | exact q_58e6e51dcc h8 | omega)) (by (first | exact q_6aeb8f39ce h9 | omega))
          have := pI_pos y2.toInt
          have : pI y2.toInt ≤ 32768 := pI_mono (Y := 15) (by (first | exact q_3f0e495169 h13 hu_kk | omega))
          refine En_Ps 1 (pc' := 28) (lv' := [(0, .ref 4), (1, .int a), (2, .int b), (3, .int y1), (4, .int y2)]) (st' := [.int ((y1 ||| z20))]) rfl ?_
          refine En_nam (fun z23 h24 => ?_)
          have h25 : z23.toInt = oN y1.toInt z20.toInt := or_v h24 rfl rfl (by (first | exact q_58e6e51dcc h6 | omega)) (by omega)
          have := oN_lt (X := y1.toInt) (Y := z20.toInt) 16 (by (first | exact q_58e6e51dcc h6 | omega)) (by omega) (Int.lt_of_le_of_lt (by (first | exact q_36eb0a70bf h7 | omega) : _ ≤ (65535 : Int)) (by decide)) (Int.lt_of_le_of_lt (by (first | exact q_9f8ced71a0 h22 this | omega) : _ ≤ (65535 : Int)) (by decide))
          have two16 : ((2 ^ 16 : Nat) : Int) = 65536 := by decide
          refine En_Ps 2 (pc' := 32) (lv' := [(4, .int ((y2 + Int32.ofInt 1))), (3, .int z23), (0, .ref 4), (1, .int a), (2, .int b)]) (st' := []) rfl ?_
          refine En_lv1 (addI rfl (by decide : (Int32.ofInt 1).toInt = 1) (by first | exact q_465ab79ac1 h8 | omega) (by first | exact q_f3f8e04381 h9 | omega)) (fun z26 h27 => ?_)
          refine En_Ps 1 (pc' := 5) (lv' := [(4, .int z26), (3, .int z23), (0, .ref 4), (1, .int a), (2, .int b)]) (st' := []) rfl ?_
          refine En_lv (lv := [(0, .ref 4), (1, .int a), (2, .int b), (3, .int z23), (4, .int z26)]) ⟨rfl, rfl, rfl, rfl, rfl, trivial⟩ ?_
          exact ih5 z23 z26 (by (first | exact q_2d21ab1e6c h25 this.1 | omega)) (by (first | exact q_227fb2011d h25 this.2 two16 | omega)) (by first | exact q_35104ce9d3 h27 h8 | omega) (by first | exact q_eba8fd3b5f h27 h13 hu_kk | omega) (by first | exact q_ae2dbf4292 h13 h27 | omega) (by first | exact q_8d03a5a7cb h27 h11 | omega) ((by first | exact DOf_y (q := z20.toInt) (by (first | exact q_58e6e51dcc h8 | omega)) h12 (by (first | exact q_aeeede310e h17 h16 | omega)) (by (first | exact q_b1495600e7 h22 | omega)) (by (first | exact q_b1495600e7 h25 | omega)) (by (first | exact q_ba1b2c713b h27 | omega)) | exact DOf_z (q := z20.toInt) (by omega) h12 (by omega) (by omega) (by omega) (by omega) (by omega)))
  have := (by decide : (Int32.ofInt 0).toInt = 0)
  have := (by decide : (Int32.ofInt 0).toInt = 0)
  refine En_lv (lv := [(0, .ref 4), (1, .int a), (2, .int b), (3, .int ((Int32.ofInt 0))), (4, .int ((Int32.ofInt 0)))]) ⟨rfl, rfl, rfl, rfl, rfl, trivial⟩ ?_
  exact key5 (Int.toNat (kk.toInt) + 1) ((Int32.ofInt 0)) ((Int32.ofInt 0)) (by decide) (by decide) (by decide) (by decide) (by (first | exact q_d69f448e8e (by decide) hl_kk | omega)) (by first | exact toN_lt _ | omega) (DOf_0 (by (first | exact q_d2dcd30e56 (by decide) | omega)) (by (first | exact q_d2dcd30e56 (by decide) | omega)))
/-- DoorSchool$Rules.addAllOf(I)V -/
abbrev P_76x (σ0 : SG) (n : Int) (a : Int32) (kk : Int32) (sz : Int32) : PO := fun v σ => WT σ ∧ Fr [(4, 1), (5, 0), (6, 0), (7, 0)] σ0 σ ∧ ∃ sz1 : Int32, (σ 4)[1]? = some (Value.int sz1) ∧ v = none ∧ -sz1.toInt ≤ 0 ∧ sz1.toInt - 81 ≤ 0 ∧ sz1.toInt - sz.toInt - 16 ≤ 0 ∧ (RN kk.toInt n (a.toInt + 1) sz1.toInt ∧ TB σ 5 6 7 kk.toInt sz1.toInt)
set_option maxRecDepth 10000 in
set_option maxHeartbeats 4000000 in
theorem c_76x {n : Int} (σ0 : SG) (hσ0 : WT σ0) (a : Int32) (hl_a : 0 ≤ a.toInt) (hu_a : a.toInt ≤ 15) (kk : Int32) (h_kk : (σ0 4)[0]? = some (Value.int kk)) (sz : Int32) (h_sz : (σ0 4)[1]? = some (Value.int sz)) (hN : RN kk.toInt n a.toInt sz.toInt) (hm : a.toInt < kk.toInt) (hb : bcI a.toInt = n) (hT : TB σ0 5 6 7 kk.toInt sz.toInt) (hK : P2 kk.toInt) : En 1 24 none mr_76 (P_76x σ0 n a kk sz) 0 [(0, .ref 4), (1, .int a)] [] σ0 := by
  obtain ⟨hl_kk, hu_kk⟩ := WT_int hσ0 (g := 4) (by decide +kernel) (by decide +kernel) (l := 0) (u := 16) (by decide +kernel) h_kk
  obtain ⟨hl_sz, hu_sz⟩ := WT_int hσ0 (g := 4) (by decide +kernel) (by decide +kernel) (l := 0) (u := 81) (by decide +kernel) h_sz
  have hF0 : Fr [(4, 1), (5, 0), (6, 0), (7, 0)] σ0 σ0 := Fr_rfl
  refine En_Ps 2 (pc' := 2) (lv' := [(2, .int ((Int32.ofInt 0))), (0, .ref 4), (1, .int a)]) (st' := []) rfl ?_
  have key2 : ∀ (n2 : Nat) (σ3 : SG) (y1 : Int32) (y2 : Int32), WT σ3 → Fr [(4, 1), (5, 0), (6, 0), (7, 0)] σ0 σ3 → (σ3 4)[0]? = some (Value.int kk) → (σ3 4)[1]? = some (Value.int y2) → 0 ≤ y1.toInt → y1.toInt ≤ 16 → 0 ≤ y2.toInt → y2.toInt ≤ 81 → y1.toInt - a.toInt - 1 ≤ 0 → -sz.toInt - y1.toInt + y2.toInt ≤ 0 → -y1.toInt + 16 < (n2 : Int) → RV kk.toInt n a.toInt y1.toInt y2.toInt → TB σ3 5 6 7 kk.toInt y2.toInt → En 1 24 none mr_76 (P_76x σ0 n a kk sz) 2 [(0, .ref 4), (1, .int a), (2, .int y1)] [] σ3 := by
    intro n2
    induction n2 with
    | zero =>
      intro σ3 y1 y2 h4 h5 h6 h7 h8 h9 h10 h11 h12 h13 h14 h15 h16
      first | exact (q_511f6d33ac h14 h9).elim | (exfalso; omega)
    | succ n2 ih2 =>
      intro σ3 y1 y2 h4 h5 h6 h7 h8 h9 h10 h11 h12 h13 h14 h15 h16
      refine En_Ps 2 (pc' := 4) (lv' := [(0, .ref 4), (1, .int a), (2, .int y1)]) (st' := [.int a, .int y1]) rfl ?_
      refine En_icGt _ rfl rfl rfl (fun h17 => ?_) (fun h17 => ?_)
      · exact En_ret (v := none) rfl rfl rfl ⟨h4, h5, y2, h7, rfl, ⟨by first | exact q_c803b490ef h10 | omega, by first | exact q_96a57adcaf h11 | omega, by first | exact q_23c634d40a h13 h9 | omega, ⟨RN_x h15 (by (first | exact q_114b7bcb5b h17 | omega)) rfl rfl (by (first | exact q_61ddd2b576 | omega)), TB_eq h16 (by (first | exact q_61ddd2b576 | omega))⟩⟩⟩
      · refine En_Ps 1 (pc' := 8) (lv' := [(0, .ref 4), (1, .int a), (2, .int y1)]) (st' := [.ref 4]) rfl ?_
        refine En_getK (j := 1) h7 rfl rfl rfl tgz_4 (by decide +kernel) ?_
        have h18 := RV_le h15 (by (first | exact q_7b14c78c18 h17 | omega))
        refine En_Ps 1 (pc' := 13) (lv' := [(0, .ref 4), (1, .int a), (2, .int y1)]) (st' := [.int (((Int8.ofInt 81).toInt32)), .int y2]) rfl ?_
        refine En_icGe _ rfl (by decide : ((Int8.ofInt 81).toInt32).toInt = 81) rfl (fun hx => by exfalso; (first | exact q_92d0d2f668 h18.1 hx | omega)) (fun h19 => ?_)
        refine En_Ps 4 (pc' := 20) (lv' := [(0, .ref 4), (1, .int a), (2, .int y1)]) (st' := [.int ((a ^^^ ((Int32.ofInt (-1))))), .int y1]) rfl ?_
        refine En_nam (fun z20 h21 => ?_)
        refine En_Ps 1 (pc' := 21) (lv' := [(0, .ref 4), (1, .int a), (2, .int y1)]) (st' := [.int ((y1 &&& z20))]) rfl ?_
        refine En_nam (fun z22 h23 => ?_)
        obtain ⟨h24, h25⟩ := andn_rng h23 rfl (by (first | exact q_58e6e51dcc h8 | omega)) (by (first | exact q_c91fdb11f1 h17 hu_a | omega) : _ ≤ (15 : Int))
        refine En_iNe _ rfl rfl (fun h26 => ?_) (fun h26 => ?_)
        · have := sub_sb h23 h21 rfl rfl (by (first | exact q_58e6e51dcc h8 | omega)) (by (first | exact q_c91fdb11f1 h17 hu_a | omega)) (by (first | exact q_58e6e51dcc hl_a | omega)) (by (first | exact q_5a4d8a7e08 hu_a | omega))
          refine En_Ps 1 (pc' := 72) (lv' := [(2, .int ((y1 + Int32.ofInt 1))), (0, .ref 4), (1, .int a)]) (st' := []) rfl ?_
          refine En_lv1 (addI rfl (by decide : (Int32.ofInt 1).toInt = 1) (by first | exact q_465ab79ac1 h8 | omega) (by first | exact q_f3f8e04381 h9 | omega)) (fun z27 h28 => ?_)
          refine En_Ps 1 (pc' := 2) (lv' := [(2, .int z27), (0, .ref 4), (1, .int a)]) (st' := []) rfl ?_
          refine En_lv (lv := [(0, .ref 4), (1, .int a), (2, .int z27)]) ⟨rfl, rfl, rfl, trivial⟩ ?_
          exact ih2 σ3 z27 y2 h4 h5 h6 h7 (by first | exact q_35104ce9d3 h28 h8 | omega) (by first | exact q_3d3df992fe h28 h17 hu_a | omega) (by first | exact q_58e6e51dcc h10 | omega) (by first | exact q_8d9f3dc7f1 h19 | omega) (by first | exact q_521b808ea1 h17 h28 | omega) (by first | exact q_affce3384d h13 h28 | omega) (by first | exact q_c5d740bdff h28 h14 | omega) (RV_not h15 (by (first | exact q_7b14c78c18 h17 | omega)) (by (first | exact q_080070e6d5 this.2 this.1 h24 h26 | omega)) rfl rfl (by (first | exact q_ba1b2c713b h28 | omega)) (by (first | exact q_61ddd2b576 | omega))) (TB_eq h16 (by (first | exact q_61ddd2b576 | omega)))
        · obtain ⟨h29, h30⟩ := andn_zero h23 h21 h26 rfl rfl (by (first | exact q_58e6e51dcc hl_a | omega))
          have := sub_sb h23 h21 rfl rfl (by (first | exact q_58e6e51dcc h29 | omega)) (by (first | exact q_c91fdb11f1 h30 hu_a | omega)) (by (first | exact q_58e6e51dcc hl_a | omega)) (by (first | exact q_5a4d8a7e08 hu_a | omega))
          refine En_Ps 1 (pc' := 25) (lv' := [(0, .ref 4), (1, .int a), (2, .int y1)]) (st' := [.ref 4]) rfl ?_
          refine En_getU (j := 2) (u := 5) (g' := 5) (q := 0) rfl rfl rfl tgz_4 (by decide +kernel) h4 (by decide +kernel) un_5_5 (fun h31 => ?_)
          refine En_Ps 1 (pc' := 29) (lv' := [(0, .ref 4), (1, .int a), (2, .int y1)]) (st' := [.ref 4, .ref 5]) rfl ?_
          refine En_getK (j := 1) h7 rfl rfl rfl tgz_4 (by decide +kernel) ?_
          refine En_Ps 1 (pc' := 33) (lv' := [(0, .ref 4), (1, .int a), (2, .int y1)]) (st' := [.int a, .int y2, .ref 5]) rfl ?_
          refine En_iast (l := 0) (u := 15) rfl rfl tgz_5 (by decide +kernel) (by first | exact q_58e6e51dcc h10 | omega) (lnI (by decide +kernel : LN _ = 81) (by first | exact q_3c107d4d4e h19 | omega)) (FTsgl (by decide +kernel)) (rngI rfl (by first | exact q_58e6e51dcc hl_a | omega) (by first | exact q_5a4d8a7e08 hu_a | omega)) h4 h5 (by decide +kernel) (fun σ33 h34 h35 h36 h37 => ?_)
          refine En_Ps 1 (pc' := 35) (lv' := [(0, .ref 4), (1, .int a), (2, .int y1)]) (st' := [.ref 4]) rfl ?_
          refine En_getU (j := 3) (u := 6) (g' := 6) (q := 0) rfl rfl rfl tgz_4 (by decide +kernel) h34 (by decide +kernel) un_6_6 (fun h38 => ?_)
          refine En_Ps 1 (pc' := 39) (lv' := [(0, .ref 4), (1, .int a), (2, .int y1)]) (st' := [.ref 4, .ref 6]) rfl ?_
          refine En_getK (j := 1) ((h37 _ _ (Or.inl (neTG tgz_4 tgz_5 (by decide)))).trans h7) rfl rfl rfl tgz_4 (by decide +kernel) ?_
          refine En_Ps 1 (pc' := 43) (lv' := [(0, .ref 4), (1, .int a), (2, .int y1)]) (st' := [.int y1, .int y2, .ref 6]) rfl ?_
          refine En_iast (l := 0) (u := 15) rfl rfl tgz_6 (by decide +kernel) (by first | exact q_58e6e51dcc h10 | omega) (lnI (by decide +kernel : LN _ = 81) (by first | exact q_3c107d4d4e h19 | omega)) (FTsgl (by decide +kernel)) (rngI rfl (by first | exact q_58e6e51dcc h8 | omega) (by first | exact q_c91fdb11f1 h17 hu_a | omega)) h34 h35 (by decide +kernel) (fun σ40 h41 h42 h43 h44 => ?_)
          refine En_Ps 1 (pc' := 45) (lv' := [(0, .ref 4), (1, .int a), (2, .int y1)]) (st' := [.ref 4]) rfl ?_
          refine En_getU (j := 4) (u := 7) (g' := 7) (q := 0) rfl rfl rfl tgz_4 (by decide +kernel) h41 (by decide +kernel) un_7_7 (fun h45 => ?_)
          refine En_Ps 1 (pc' := 49) (lv' := [(0, .ref 4), (1, .int a), (2, .int y1)]) (st' := [.ref 4, .ref 7]) rfl ?_
          refine En_getK (j := 1) ((h44 _ _ (Or.inl (neTG tgz_4 tgz_6 (by decide)))).trans ((h37 _ _ (Or.inl (neTG tgz_4 tgz_5 (by decide)))).trans h7)) rfl rfl rfl tgz_4 (by decide +kernel) ?_
          refine En_Ps 3 (pc' := 55) (lv' := [(0, .ref 4), (1, .int a), (2, .int y1)]) (st' := [.int y1, .int a, .ref 4, .int y2, .ref 7]) rfl ?_
          refine En_callV rfl rfl rfl rfl rfl rfl rfl rfl tgz_4 (by decide +kernel) rfl (c_77ax σ40 h41 a y1 (geI rfl (by first | exact q_58e6e51dcc hl_a | omega)) (leI rfl (by first | exact q_5a4d8a7e08 hu_a | omega)) kk ((h44 _ _ (Or.inl (neTG tgz_4 tgz_6 (by decide)))).trans ((h37 _ _ (Or.inl (neTG tgz_4 tgz_5 (by decide)))).trans h6))) (by decide) (by decide) (fun v48 σ49 h47 => ?_)
          obtain ⟨h50, h51, z53, rfl, h52⟩ := h47
          have h54 := h52.2.2
          obtain rfl : σ40 = σ49 := Fr_nil h51
          refine En_iast (l := (-2147483648)) (u := 2147483647) rfl rfl tgz_7 (by decide +kernel) (by first | exact q_58e6e51dcc h10 | omega) (lnI (by decide +kernel : LN _ = 81) (by first | exact q_3c107d4d4e h19 | omega)) (FTsgl (by decide +kernel)) (fullI _) h41 h42 (by decide +kernel) (fun σ55 h56 h57 h58 h59 => ?_)
          refine En_Ps 2 (pc' := 61) (lv' := [(0, .ref 4), (1, .int a), (2, .int y1)]) (st' := [.ref 4, .ref 4]) rfl ?_
          refine En_getK (j := 1) ((h59 _ _ (Or.inl (neTG tgz_4 tgz_7 (by decide)))).trans ((h44 _ _ (Or.inl (neTG tgz_4 tgz_6 (by decide)))).trans ((h37 _ _ (Or.inl (neTG tgz_4 tgz_5 (by decide)))).trans h7))) rfl rfl rfl tgz_4 (by decide +kernel) ?_
          refine En_Ps 2 (pc' := 66) (lv' := [(0, .ref 4), (1, .int a), (2, .int y1)]) (st' := [.int ((y2 + ((Int32.ofInt 1)))), .ref 4]) rfl ?_
          refine En_top (addI rfl (by decide : (Int32.ofInt 1).toInt = 1) (by first | exact q_465ab79ac1 h10 | omega) (by first | exact q_3491810b60 h19 | omega)) (fun z60 h61 => ?_)
          refine En_put (j := 1) rfl rfl rfl tgz_4 (by decide +kernel) rfl (vI (l := 0) (u := 81) (by decide +kernel) rfl (by first | exact q_35104ce9d3 h61 h10 | omega) (by first | exact q_47b60a236e h61 h19 | omega)) h56 h57 (by decide +kernel) (fun σ62 h63 h64 h65 h66 => ?_)
          refine En_Ps 1 (pc' := 72) (lv' := [(2, .int ((y1 + Int32.ofInt 1))), (0, .ref 4), (1, .int a)]) (st' := []) rfl ?_
          refine En_lv1 (addI rfl (by decide : (Int32.ofInt 1).toInt = 1) (by first | exact q_465ab79ac1 h8 | omega) (by first | exact q_f3f8e04381 h9 | omega)) (fun z67 h68 => ?_)
          refine En_Ps 1 (pc' := 2) (lv' := [(2, .int z67), (0, .ref 4), (1, .int a)]) (st' := []) rfl ?_
          refine En_lv (lv := [(0, .ref 4), (1, .int a), (2, .int z67)]) ⟨rfl, rfl, rfl, trivial⟩ ?_
          exact ih2 σ62 z67 z60 h63 h64 ((h66 _ _ (Or.inr (by decide))).trans ((h59 _ _ (Or.inl (neTG tgz_4 tgz_7 (by decide)))).trans ((h44 _ _ (Or.inl (neTG tgz_4 tgz_6 (by decide)))).trans ((h37 _ _ (Or.inl (neTG tgz_4 tgz_5 (by decide)))).trans h6)))) h65 (by first | exact q_35104ce9d3 h68 h8 | omega) (by first | exact q_3d3df992fe h68 h17 hu_a | omega) (by first | exact q_35104ce9d3 h61 h10 | omega) (by first | exact q_47b60a236e h61 h19 | omega) (by first | exact q_521b808ea1 h17 h68 | omega) (by first | exact q_1ead1c75dd h13 h61 h68 | omega) (by first | exact q_c5d740bdff h68 h14 | omega) (RV_put h15 (by (first | exact q_7b14c78c18 h30 | omega)) (by (first | exact q_0fc2ad1196 this.1 h26 | omega)) rfl rfl (by (first | exact q_ba1b2c713b h68 | omega)) (by (first | exact q_ba1b2c713b h61 | omega))) (TB_ne (TB_put h16 hK h15 (by (first | exact q_7b14c78c18 h30 | omega)) (by (first | exact q_0fc2ad1196 this.1 h26 | omega)) h36 h37 h43 h44 h58 h59 (by decide) (by decide) (by decide) (by (first | exact q_58e6e51dcc h18.2 | omega)) (by (first | exact q_61ddd2b576 | omega)) (by (first | exact q_61ddd2b576 | omega)) (by (first | exact q_61ddd2b576 | omega)) (by (first | exact q_61ddd2b576 | omega)) (by (first | exact q_61ddd2b576 | omega)) (by (first | exact q_b1495600e7 h54 | omega)) (by (first | exact q_ba1b2c713b h61 | omega))) h66 (by decide) (by decide) (by decide))
  have := (by decide : (Int32.ofInt 0).toInt = 0)
  refine En_lv (lv := [(0, .ref 4), (1, .int a), (2, .int ((Int32.ofInt 0)))]) ⟨rfl, rfl, rfl, trivial⟩ ?_
  exact key2 (Int.toNat (16) + 1) σ0 ((Int32.ofInt 0)) sz hσ0 hF0 h_kk h_sz (by decide) (by decide) (by first | exact q_58e6e51dcc hl_sz | omega) (by first | exact q_938d18a0b8 hu_sz | omega) (by (first | exact q_3d03bff604 this hl_a | omega)) (by (first | exact q_5abeeef05c this | omega)) (by first | exact toN_lt _ | omega) (RV_in hN hm hb rfl rfl (by (first | exact q_d2dcd30e56 this | omega)) (by (first | exact q_61ddd2b576 | omega))) (hT)
/-- DoorSchool$Rules.prepare(I)V -/
abbrev P_82x (σ0 : SG) (a : Int32) : PO := fun v σ => WT σ ∧ Fr [(4, 0), (4, 1), (5, 0), (6, 0), (7, 0)] σ0 σ ∧ v = none ∧ RULx σ a.toInt
set_option maxRecDepth 10000 in
set_option maxHeartbeats 4000000 in
theorem c_82x (σ0 : SG) (hσ0 : WT σ0) (a : Int32) (hl_a : 0 ≤ a.toInt) (hu_a : a.toInt ≤ 4) : En 2 46 none mr_82 (P_82x σ0 a) 0 [(0, .ref 4), (1, .int a)] [] σ0 := by
  have hF0 : Fr [(4, 0), (4, 1), (5, 0), (6, 0), (7, 0)] σ0 σ0 := Fr_rfl
  refine En_Ps 4 (pc' := 4) (lv' := [(0, .ref 4), (1, .int a)]) (st' := [.int ((((Int32.ofInt 1)) <<< (a &&& 31))), .ref 4]) rfl ?_
  refine En_nam (fun z1 h2 => ?_)
  have h3 : z1.toInt = pI a.toInt := shl_v h2 rfl (by (first | exact q_58e6e51dcc hl_a | omega)) (by (first | exact q_92da5bf787 hu_a | omega))
  have := pI_pos a.toInt
  have : pI a.toInt ≤ 16 := pI_mono (Y := 4) (by (first | exact q_c82ed93a8c hu_a | omega))
  refine En_put (j := 0) rfl rfl rfl tgz_4 (by decide +kernel) rfl (vI (l := 0) (u := 16) (by decide +kernel) rfl (by omega) (by (first | exact q_1ef955e832 h3 this | omega))) hσ0 hF0 (by decide +kernel) (fun σ4 h5 h6 h7 h8 => ?_)
  refine En_Ps 2 (pc' := 9) (lv' := [(0, .ref 4), (1, .int a)]) (st' := [.int ((Int32.ofInt 0)), .ref 4]) rfl ?_
  refine En_put (j := 1) rfl rfl rfl tgz_4 (by decide +kernel) rfl (vI (l := 0) (u := 81) (by decide +kernel) (by decide : (Int32.ofInt 0).toInt = 0) (by decide) (by decide)) h5 h6 (by decide +kernel) (fun σ9 h10 h11 h12 h13 => ?_)
  refine En_Ps 2 (pc' := 14) (lv' := [(2, .int ((Int32.ofInt 0))), (0, .ref 4), (1, .int a)]) (st' := []) rfl ?_
  have key14 : ∀ (n14 : Nat) (σ16 : SG) (y14 : Int32) (y15 : Int32), WT σ16 → Fr [(4, 0), (4, 1), (5, 0), (6, 0), (7, 0)] σ0 σ16 → (σ16 4)[0]? = some (Value.int z1) → (σ16 4)[1]? = some (Value.int y15) → 0 ≤ y14.toInt → y14.toInt ≤ 5 → 0 ≤ y15.toInt → y15.toInt ≤ 81 → y14.toInt - a.toInt - 1 ≤ 0 → -y14.toInt + 5 < (n14 : Int) → RN z1.toInt y14.toInt 0 y15.toInt → TB σ16 5 6 7 z1.toInt y15.toInt → En 2 46 none mr_82 (P_82x σ0 a) 14 [(0, .ref 4), (1, .int a), (2, .int y14)] [] σ16 := by
    intro n14
    induction n14 with
    | zero =>
      intro σ16 y14 y15 h17 h18 h19 h20 h21 h22 h23 h24 h25 h26 h27 h28
      first | exact (q_94ef5d5129 h26 h22).elim | (exfalso; omega)
    | succ n14 ih14 =>
      intro σ16 y14 y15 h17 h18 h19 h20 h21 h22 h23 h24 h25 h26 h27 h28
      refine En_Ps 2 (pc' := 16) (lv' := [(0, .ref 4), (1, .int a), (2, .int y14)]) (st' := [.int a, .int y14]) rfl ?_
      refine En_icGt _ rfl rfl rfl (fun h29 => ?_) (fun h29 => ?_)
      · exact En_ret (v := none) rfl rfl rfl ⟨h17, h18, rfl, (by have ek : z1.toInt = pI a.toInt := (by (first | exact q_b1495600e7 h3 | omega)); have er := RN_end (s := a.toInt) (by (first | exact q_58e6e51dcc hl_a | omega)) (by (first | exact q_c82ed93a8c hu_a | omega)) ek h27 (by (first | exact q_3431e9be85 h29 h25 | omega)) rfl; exact ⟨(ci_at (j := 0) h19 rfl).trans ek, (ci_at (j := 1) h20 rfl).trans er, by rw [← ek, ← er]; exact h28⟩)⟩
      · refine En_Ps 2 (pc' := 21) (lv' := [(3, .int ((Int32.ofInt 0))), (0, .ref 4), (1, .int a), (2, .int y14)]) (st' := []) rfl ?_
        have key21 : ∀ (n21 : Nat) (σ32 : SG) (y30 : Int32) (y31 : Int32), WT σ32 → Fr [(4, 0), (4, 1), (5, 0), (6, 0), (7, 0)] σ0 σ32 → (σ32 4)[0]? = some (Value.int z1) → (σ32 4)[1]? = some (Value.int y31) → 0 ≤ y30.toInt → y30.toInt ≤ 16 → 0 ≤ y31.toInt → y31.toInt ≤ 81 → y30.toInt - z1.toInt ≤ 0 → z1.toInt - y30.toInt < (n21 : Int) → RN z1.toInt y14.toInt y30.toInt y31.toInt → TB σ32 5 6 7 z1.toInt y31.toInt → En 2 46 none mr_82 (P_82x σ0 a) 21 [(0, .ref 4), (1, .int a), (2, .int y14), (3, .int y30)] [] σ32 := by
          intro n21
          induction n21 with
          | zero =>
            intro σ32 y30 y31 h33 h34 h35 h36 h37 h38 h39 h40 h41 h42 h43 h44
            first | exact (q_14257feae7 h41 h42).elim | (exfalso; omega)
          | succ n21 ih21 =>
            intro σ32 y30 y31 h33 h34 h35 h36 h37 h38 h39 h40 h41 h42 h43 h44
            refine En_Ps 2 (pc' := 23) (lv' := [(0, .ref 4), (1, .int a), (2, .int y14), (3, .int y30)]) (st' := [.ref 4, .int y30]) rfl ?_
            refine En_getK (j := 0) h35 rfl rfl rfl tgz_4 (by decide +kernel) ?_
            refine En_icGe _ rfl rfl rfl (fun h45 => ?_) (fun h45 => ?_)
            · refine En_Ps 1 (pc' := 51) (lv' := [(2, .int ((y14 + Int32.ofInt 1))), (0, .ref 4), (1, .int a), (3, .int y30)]) (st' := []) rfl ?_
              refine En_lv1 (addI rfl (by decide : (Int32.ofInt 1).toInt = 1) (by first | exact q_465ab79ac1 h21 | omega) (by first | exact q_aeda34609f h22 | omega)) (fun z46 h47 => ?_)
              refine En_Ps 1 (pc' := 14) (lv' := [(2, .int z46), (0, .ref 4), (1, .int a), (3, .int y30)]) (st' := []) rfl ?_
              refine En_lv (lv := [(0, .ref 4), (1, .int a), (2, .int z46)]) ⟨rfl, rfl, rfl, trivial⟩ ?_
              exact ih14 σ32 z46 y31 h33 h34 h35 h36 (by first | exact q_35104ce9d3 h47 h21 | omega) (by first | exact q_45f670d5d5 h47 h29 hu_a | omega) (by first | exact q_58e6e51dcc h39 | omega) (by first | exact q_938d18a0b8 h40 | omega) (by first | exact q_521b808ea1 h29 h47 | omega) (by first | exact q_4f8c136792 h47 h26 | omega) (RN_n h43 (by (first | exact q_7b14c78c18 h45 | omega)) (by (first | exact q_d97751b118 h29 hu_a | omega)) (by (first | exact q_ba1b2c713b h47 | omega)) rfl (by (first | exact q_61ddd2b576 | omega))) (TB_eq h44 (by (first | exact q_61ddd2b576 | omega)))
            · refine En_Ps 1 (pc' := 30) (lv' := [(0, .ref 4), (1, .int a), (2, .int y14), (3, .int y30)]) (st' := [.int y30]) rfl ?_
              refine En_callS rfl rfl rfl rfl rfl rfl rfl rfl rfl (c_7ax σ32 h33 y30 (geI rfl (by first | exact q_58e6e51dcc h37 | omega)) (leI rfl (by (first | exact q_e17d4ea60b h45 h3 this | omega)))) (by decide) (by decide) (fun v49 σ50 h48 => ?_)
              obtain ⟨h51, h52, z54, rfl, h53⟩ := h48
              have h55 := h53.2.2
              obtain rfl : σ32 = σ50 := Fr_nil h52
              refine En_Ps 1 (pc' := 34) (lv' := [(0, .ref 4), (1, .int a), (2, .int y14), (3, .int y30)]) (st' := [.int y14, .int z54]) rfl ?_
              refine En_icNe _ rfl rfl rfl (fun h56 => ?_) (fun h56 => ?_)
              · refine En_Ps 1 (pc' := 45) (lv' := [(3, .int ((y30 + Int32.ofInt 1))), (0, .ref 4), (1, .int a), (2, .int y14)]) (st' := []) rfl ?_
                refine En_lv1 (addI rfl (by decide : (Int32.ofInt 1).toInt = 1) (by first | exact q_465ab79ac1 h37 | omega) (by first | exact q_f3f8e04381 h38 | omega)) (fun z57 h58 => ?_)
                refine En_Ps 1 (pc' := 21) (lv' := [(3, .int z57), (0, .ref 4), (1, .int a), (2, .int y14)]) (st' := []) rfl ?_
                refine En_lv (lv := [(0, .ref 4), (1, .int a), (2, .int y14), (3, .int z57)]) ⟨rfl, rfl, rfl, rfl, trivial⟩ ?_
                exact ih21 σ32 z57 y31 h33 h34 h35 h36 (by first | exact q_35104ce9d3 h58 h37 | omega) (by (first | exact q_de592af7ee h58 h45 h3 this | omega)) (by first | exact q_58e6e51dcc h39 | omega) (by first | exact q_938d18a0b8 h40 | omega) (by first | exact q_ae2dbf4292 h45 h58 | omega) (by first | exact q_8d03a5a7cb h58 h42 | omega) (RN_skip h43 (by (first | exact q_114b7bcb5b h45 | omega)) (by (first | exact q_9ab7013364 h56 h55 | omega)) (by (first | exact q_61ddd2b576 | omega)) (by (first | exact q_ba1b2c713b h58 | omega)) (by (first | exact q_61ddd2b576 | omega))) (TB_eq h44 (by (first | exact q_61ddd2b576 | omega)))
              · refine En_Ps 2 (pc' := 39) (lv' := [(0, .ref 4), (1, .int a), (2, .int y14), (3, .int y30)]) (st' := [.int y30, .ref 4]) rfl ?_
                refine En_callV rfl rfl rfl rfl rfl rfl rfl rfl tgz_4 (by decide +kernel) rfl (c_76x σ32 h33 y30 (geI rfl (by first | exact q_58e6e51dcc h37 | omega)) (leI rfl (by (first | exact q_e17d4ea60b h45 h3 this | omega))) z1 h35 y31 h36 h43 (by (first | exact q_114b7bcb5b h45 | omega)) (by (first | exact q_aeeede310e h56 h55 | omega)) h44 (by rw [show z1.toInt = pI a.toInt by (first | exact q_b1495600e7 h3 | omega)]; exact P2_pI (by (first | exact q_58e6e51dcc hl_a | omega)) (by (first | exact q_c82ed93a8c hu_a | omega)))) (by decide) (by decide) (fun v60 σ61 h59 => ?_)
                obtain ⟨h62, h63, z65, h66, rfl, h64⟩ := h59
                have h67 := h64.2.2.2
                have h68 := Fr_trans h34 h63 (by decide +kernel)
                refine En_Ps 1 (pc' := 45) (lv' := [(3, .int ((y30 + Int32.ofInt 1))), (0, .ref 4), (1, .int a), (2, .int y14)]) (st' := []) rfl ?_
                refine En_lv1 (addI rfl (by decide : (Int32.ofInt 1).toInt = 1) (by first | exact q_465ab79ac1 h37 | omega) (by first | exact q_f3f8e04381 h38 | omega)) (fun z69 h70 => ?_)
                refine En_Ps 1 (pc' := 21) (lv' := [(3, .int z69), (0, .ref 4), (1, .int a), (2, .int y14)]) (st' := []) rfl ?_
                refine En_lv (lv := [(0, .ref 4), (1, .int a), (2, .int y14), (3, .int z69)]) ⟨rfl, rfl, rfl, rfl, trivial⟩ ?_
                exact ih21 σ61 z69 z65 h62 h68 ((h63 _ _ (inW tgz_4 (by decide +kernel))).trans h35) h66 (by first | exact q_35104ce9d3 h70 h37 | omega) (by (first | exact q_de592af7ee h70 h45 h3 this | omega)) (by first | exact q_ef1e8e38bf h64.1 | omega) (by first | exact q_e0af57759e h64.2.1 | omega) (by first | exact q_ae2dbf4292 h45 h70 | omega) (by first | exact q_8d03a5a7cb h70 h42 | omega) (RN_eq h67.1 (by (first | exact q_61ddd2b576 | omega)) (by (first | exact q_ba1b2c713b h70 | omega)) (by (first | exact q_61ddd2b576 | omega))) (TB_eq h67.2 (by (first | exact q_61ddd2b576 | omega)))
        have := (by decide : (Int32.ofInt 0).toInt = 0)
        refine En_lv (lv := [(0, .ref 4), (1, .int a), (2, .int y14), (3, .int ((Int32.ofInt 0)))]) ⟨rfl, rfl, rfl, rfl, trivial⟩ ?_
        exact key21 (Int.toNat (z1.toInt) + 1) σ16 ((Int32.ofInt 0)) y15 h17 h18 h19 h20 (by decide) (by decide) (by first | exact q_58e6e51dcc h23 | omega) (by first | exact q_938d18a0b8 h24 | omega) (by omega) (by first | exact toN_lt _ | omega) (RN_eq h27 (by (first | exact q_61ddd2b576 | omega)) (by (first | exact q_d2dcd30e56 this | omega)) (by (first | exact q_61ddd2b576 | omega))) (TB_eq h28 (by (first | exact q_61ddd2b576 | omega)))
  have := (by decide : (Int32.ofInt 0).toInt = 0)
  have := (by decide : (Int32.ofInt 0).toInt = 0)
  refine En_lv (lv := [(0, .ref 4), (1, .int a), (2, .int ((Int32.ofInt 0)))]) ⟨rfl, rfl, rfl, trivial⟩ ?_
  exact key14 (Int.toNat (5) + 1) σ9 ((Int32.ofInt 0)) ((Int32.ofInt 0)) h10 h11 ((h13 _ _ (Or.inr (by decide))).trans h7) h12 (by decide) (by decide) (by decide) (by decide) (by (first | exact q_3d03bff604 (by decide) hl_a | omega)) (by first | exact toN_lt _ | omega) (RN_0 (by have := pI_rng (s := a.toInt) (by (first | exact q_58e6e51dcc hl_a | omega)) (by (first | exact q_c82ed93a8c hu_a | omega)); constructor <;> (first | exact q_ca2c16d1b2 h3 this.1 | exact q_1ef955e832 h3 this.2 | omega)) (by (first | exact q_d2dcd30e56 (by decide) | omega)) rfl (by (first | exact q_d2dcd30e56 (by decide) | omega))) (TB_0 (by (first | exact q_d2dcd30e56 (by decide) | omega)))
/-- DoorSchool$Tape.append(I)V -/
abbrev P_90x (σ0 : SG) (a : Int32) (m : Int32) : PO := fun v σ => WT σ ∧ Fr [(1, 1), (2, 0)] σ0 σ ∧ ∃ m1 : Int32, (σ 1)[1]? = some (Value.int m1) ∧ v = none ∧ -m1.toInt + 4 ≤ 0 ∧ m1.toInt - 1600 ≤ 0 ∧ -m1.toInt + m.toInt ≤ 0 ∧ m1.toInt - m.toInt - 4 ≤ 0 ∧ Imp (m.toInt - 1596 ≤ 0) (m1.toInt - m.toInt - 4 ≤ 0 ∧ -m1.toInt + m.toInt + 4 ≤ 0) ∧ APB σ0 σ 2 m.toInt (m1.toInt - m.toInt) a
set_option maxRecDepth 10000 in
set_option maxHeartbeats 4000000 in
theorem c_90x (σ0 : SG) (hσ0 : WT σ0) (a : Int32) (m : Int32) (h_m : (σ0 1)[1]? = some (Value.int m)) : En 0 0 none mr_90 (P_90x σ0 a m) 0 [(0, .ref 1), (1, .int a)] [] σ0 := by
  obtain ⟨hl_m, hu_m⟩ := WT_int hσ0 (g := 1) (by decide +kernel) (by decide +kernel) (l := 0) (u := 1600) (by decide +kernel) h_m
  have hF0 : Fr [(1, 1), (2, 0)] σ0 σ0 := Fr_rfl
  refine En_Ps 2 (pc' := 3) (lv' := [(2, .int (((Int8.ofInt 24).toInt32))), (0, .ref 1), (1, .int a)]) (st' := []) rfl ?_
  have key3 : ∀ (n3 : Nat) (σ3 : SG) (y1 : Int32) (y2 : Int32), WT σ3 → Fr [(1, 1), (2, 0)] σ0 σ3 → (σ3 1)[1]? = some (Value.int y2) → (-8) ≤ y1.toInt → y1.toInt ≤ 24 → 0 ≤ y2.toInt → y2.toInt ≤ 1600 → y1.toInt + 8 * y2.toInt - 8 * m.toInt - 24 ≤ 0 → 8 * m.toInt - y1.toInt - 8 * y2.toInt + 24 ≤ 0 → y1.toInt + 8 < (n3 : Int) → APB σ0 σ3 2 m.toInt (y2.toInt - m.toInt) a → En 0 0 none mr_90 (P_90x σ0 a m) 3 [(0, .ref 1), (1, .int a), (2, .int y1)] [] σ3 := by
    intro n3
    induction n3 with
    | zero =>
      intro σ3 y1 y2 h4 h5 h6 h7 h8 h9 h10 h11 h12 h13 h14
      first | exact (q_aaa8ec4ef7 h7 h13).elim | (exfalso; omega)
    | succ n3 ih3 =>
      intro σ3 y1 y2 h4 h5 h6 h7 h8 h9 h10 h11 h12 h13 h14
      refine En_Ps 1 (pc' := 4) (lv' := [(0, .ref 1), (1, .int a), (2, .int y1)]) (st' := [.int y1]) rfl ?_
      refine En_iLt _ rfl rfl (fun h15 => ?_) (fun h15 => ?_)
      · exact En_ret (v := none) rfl rfl rfl ⟨h4, h5, y2, h6, rfl, ⟨by first | exact q_8eb5dc48db h12 hl_m h15 | omega, by first | exact q_5a08281576 h10 | omega, by first | exact q_e38c9d072d h12 h15 | omega, by first | exact q_fff200e16d h11 h7 | omega, fun hh => by first | exact ⟨q_fff200e16d h11 h7, q_782153f87a h12 h15⟩ | omega, APB_c h14 (by (first | exact q_2301251086 | omega))⟩⟩
      · refine En_Ps 1 (pc' := 8) (lv' := [(0, .ref 1), (1, .int a), (2, .int y1)]) (st' := [.ref 1]) rfl ?_
        refine En_getK (j := 1) h6 rfl rfl rfl tgz_1 (by decide +kernel) ?_
        refine En_Ps 1 (pc' := 12) (lv' := [(0, .ref 1), (1, .int a), (2, .int y1)]) (st' := [.ref 1, .int y2]) rfl ?_
        refine En_getU (j := 0) (u := 2) (g' := 2) (q := 0) rfl rfl rfl tgz_1 (by decide +kernel) h4 (by decide +kernel) un_2_2 (fun h16 => ?_)
        refine En_alenN (n := 1600) rfl tgz_2 (by decide +kernel) (by decide +kernel) h4 ?_
        refine En_icGe _ rfl (by decide : (Int32.ofNat 1600).toInt = 1600) rfl (fun h18 => ?_) (fun h18 => ?_)
        · exact En_ret (v := none) rfl rfl rfl ⟨h4, h5, y2, h6, rfl, ⟨by first | exact q_11a59a8b8a h18 | omega, by first | exact q_5a08281576 h10 | omega, by first | exact q_b4fb6b5916 hu_m h18 | omega, by first | exact q_e822212b76 h11 h15 | omega, fun hh => by first | exact ⟨q_e822212b76 h11 h15, q_0ac42f1f87 hh h18⟩ | omega, APB_c h14 (by (first | exact q_2301251086 | omega))⟩⟩
        · refine En_Ps 1 (pc' := 20) (lv' := [(0, .ref 1), (1, .int a), (2, .int y1)]) (st' := [.ref 1]) rfl ?_
          refine En_getK (j := 0) h16 rfl rfl rfl tgz_1 (by decide +kernel) ?_
          refine En_Ps 1 (pc' := 24) (lv' := [(0, .ref 1), (1, .int a), (2, .int y1)]) (st' := [.ref 1, .ref 2]) rfl ?_
          refine En_getK (j := 1) h6 rfl rfl rfl tgz_1 (by decide +kernel) ?_
          refine En_Ps 4 (pc' := 31) (lv' := [(0, .ref 1), (1, .int a), (2, .int y1)]) (st' := [.int ((((a.toUInt32 >>> (y1.toUInt32 &&& Int32.toUInt32 31)).toInt32).toInt8.toInt32)), .int y2, .ref 2]) rfl ?_
          refine En_nam (fun z19 h20 => ?_)
          have h21 := b4_u (j := y2.toInt - m.toInt) h20 (by (first | exact q_805540dc3e h12 h11 | omega)) (by (first | exact q_9d81620b4b h12 h8 | omega)) (by (first | exact q_c49a9ec1a4 h11 h15 | omega))
          have h22 := b4_rng a (y2.toInt - m.toInt)
          refine En_bast (l := (-128)) (u := 127) rfl rfl tgz_2 (by decide +kernel) (narB rfl (by (first | exact q_a6dfc9308f h21 h22.1 | omega)) (by (first | exact q_f699f50254 h21 h22.2 | omega))) (by first | exact q_58e6e51dcc h9 | omega) (lnI (by decide +kernel : LN _ = 1600) (by first | exact q_91d929c3b7 h18 | omega)) (FTsgl (by decide +kernel)) (rngI rfl (by (first | exact q_a6dfc9308f h21 h22.1 | omega)) (by (first | exact q_f699f50254 h21 h22.2 | omega))) h4 h5 (by decide +kernel) (fun σ23 h24 h25 h26 h27 => ?_)
          have h28 := APB_s (J := y2.toInt) (y := y2.toInt - m.toInt) (y' := y2.toInt - m.toInt + 1) h14 h26 h27 (by (first | exact q_b9dc873e80 | omega)) (by (first | exact q_58e6e51dcc hl_m | omega)) (by (first | exact q_9d81620b4b h12 h8 | omega)) h21 rfl
          refine En_Ps 2 (pc' := 34) (lv' := [(0, .ref 1), (1, .int a), (2, .int y1)]) (st' := [.ref 1, .ref 1]) rfl ?_
          refine En_getK (j := 1) ((h27 _ _ (Or.inl (neTG tgz_1 tgz_2 (by decide)))).trans h6) rfl rfl rfl tgz_1 (by decide +kernel) ?_
          refine En_Ps 2 (pc' := 39) (lv' := [(0, .ref 1), (1, .int a), (2, .int y1)]) (st' := [.int ((y2 + ((Int32.ofInt 1)))), .ref 1]) rfl ?_
          refine En_top (addI rfl (by decide : (Int32.ofInt 1).toInt = 1) (by first | exact q_465ab79ac1 h9 | omega) (by first | exact q_65d0e719f1 h18 | omega)) (fun z29 h30 => ?_)
          refine En_put (j := 1) rfl rfl rfl tgz_1 (by decide +kernel) rfl (vI (l := 0) (u := 1600) (by decide +kernel) rfl (by first | exact q_35104ce9d3 h30 h9 | omega) (by first | exact q_bd0a0ef61b h30 h18 | omega)) h24 h25 (by decide +kernel) (fun σ31 h32 h33 h34 h35 => ?_)
          have h36 := APB_ne h28 h35 (by decide)
          refine En_Ps 1 (pc' := 45) (lv' := [(2, .int ((y1 + Int32.ofInt (-8)))), (0, .ref 1), (1, .int a)]) (st' := []) rfl ?_
          refine En_lv1 (addI rfl (by decide : (Int32.ofInt (-8)).toInt = -8) (by first | exact q_ec6288e748 h15 | omega) (by first | exact q_42504f709a h8 | omega)) (fun z37 h38 => ?_)
          refine En_Ps 1 (pc' := 3) (lv' := [(2, .int z37), (0, .ref 1), (1, .int a)]) (st' := []) rfl ?_
          refine En_lv (lv := [(0, .ref 1), (1, .int a), (2, .int z37)]) ⟨rfl, rfl, rfl, trivial⟩ ?_
          exact ih3 σ31 z37 z29 h32 h33 h34 (by first | exact q_f421fefebe h38 h15 | omega) (by first | exact q_23be4890e8 h38 h8 | omega) (by first | exact q_35104ce9d3 h30 h9 | omega) (by first | exact q_bd0a0ef61b h30 h18 | omega) (by first | exact q_afee5e327f h11 h30 h38 | omega) (by first | exact q_5330391d26 h12 h30 h38 | omega) (by first | exact q_c7d998f5aa h38 h13 | omega) (APB_c h36 (by (first | exact q_d565b18410 h30 | omega)))
  have := (by decide : ((Int8.ofInt 24).toInt32).toInt = 24)
  refine En_lv (lv := [(0, .ref 1), (1, .int a), (2, .int (((Int8.ofInt 24).toInt32)))]) ⟨rfl, rfl, rfl, trivial⟩ ?_
  exact key3 (Int.toNat (32) + 1) σ0 (((Int8.ofInt 24).toInt32)) m hσ0 hF0 h_m (by decide) (by decide) (by first | exact q_58e6e51dcc hl_m | omega) (by first | exact q_246f9048f8 hu_m | omega) (by (first | exact q_3d5cf09218 this | omega)) (by (first | exact q_d7b10a56d5 this | omega)) (by first | exact toN_lt _ | omega) (APB_0 (by (first | exact q_15757f85f8 | omega)))
/-- DoorSchool.doneBy(I)I -/
abbrev P_114ax (σ0 : SG) (Wv : Int → Int) (a : Int32) (p : Nat) (sg : Int32) : PO := fun v σ => WT σ ∧ Fr [] σ0 σ ∧ ∃ ret : Int32, v = some (Value.int ret) ∧ -ret.toInt ≤ 0 ∧ ret.toInt - 65535 ≤ 0 ∧ ret.toInt = DDw Wv a.toInt
set_option maxRecDepth 10000 in
set_option maxHeartbeats 4000000 in
theorem c_114ax {Wv : Int → Int} (σ0 : SG) (hσ0 : WT σ0) (a : Int32) (hl_a : 0 ≤ a.toInt) (hu_a : a.toInt ≤ 3) (p : Nat) (hp : TG p = 18) (h_p : (σ0 0)[9]? = some (Value.ref p)) (sg : Int32) (h_sg : (σ0 p)[1]? = some (Value.int sg)) (hp0 : -sg.toInt ≤ 0) (hP : PLA p) (hX : FXP σ0 p) (hK : KN σ0 p Wv (act Wv)) (hB : WFw Wv) (hT : TWN Wv) (hd : a.toInt < Wv 2) (hQ : RULx σ0 (Wv 0)) : En 3 70 none mr_114 (P_114ax σ0 Wv a p sg) 0 [(0, .ref 0), (1, .int a)] [] σ0 := by
  obtain ⟨hl_sg, hu_sg⟩ := WT_int hσ0 (g := 18) hp (by decide +kernel) (l := (-1)) (u := 4) (by decide +kernel) h_sg
  have hF0 : Fr [] σ0 σ0 := Fr_rfl
  have t1 : Wv (0) = sg.toInt := KN_v hK (Or.inl (by decide)) (by decide) (by decide) (by rw [lcO_lt (by decide) (by decide), Nat.add_zero]) rfl h_sg
  refine En_Ps 1 (pc' := 1) (lv' := [(0, .ref 0), (1, .int a)]) (st' := [.ref 0]) rfl ?_
  refine En_getK (j := 9) h_p rfl rfl rfl tgz_0 (by decide +kernel) ?_
  refine En_Ps 1 (pc' := 5) (lv' := [(0, .ref 0), (1, .int a)]) (st' := [.int a, .ref p]) rfl ?_
  refine En_callV rfl rfl rfl rfl rfl rfl rfl rfl hp (by decide +kernel) rfl (c_52x σ0 hσ0 p hp a (geI rfl (by first | exact q_58e6e51dcc hl_a | omega)) (leI rfl (by first | exact q_da5e9b976f hu_a | omega)) hP (FXP_fr hP hX hF0 (by decide +kernel)) (KN_aD (d := 4) hK) (by omega)) (by decide) (by decide) (fun v3 σ4 h2 => ?_)
  obtain ⟨h5, h6, a8, ha8, rfl, h7⟩ := h2
  have h9 := h7
  obtain rfl : σ0 = σ4 := Fr_nil h6
  have h10 := hB.2.2.1
  have h11 := rlW_rg hT (by omega) hd (by omega) h9.2
  have t12 := lc_d (d := rlW Wv a.toInt) (by omega) (by omega)
  have h13 := hB.2.2.2.2.2.2 (rlW Wv a.toInt) (by omega) (by omega)
  refine En_Ps 2 (pc' := 10) (lv' := [(2, .ref a8), (0, .ref 0), (1, .int a)]) (st' := [.ref 0]) rfl ?_
  refine En_getU (j := 3) (u := 8) (g' := 8) (q := 0) rfl rfl rfl tgz_0 (by decide +kernel) hσ0 (by decide +kernel) un_8_8 (fun h14 => ?_)
  refine En_Ps 1 (pc' := 14) (lv' := [(2, .ref a8), (0, .ref 0), (1, .int a)]) (st' := [.ref a8, .ref 8]) rfl ?_
  refine En_getI (j := 1) (l := 0) (u := 2) rfl rfl rfl ha8 (by decide +kernel) hσ0 (by decide +kernel) (fun z17 h16 h18 h19 => ?_)
  have t20 : Wv (10 + 4 * (rlW Wv a.toInt)) = z17.toInt := KN_v hK (Or.inr (Or.inl ⟨by omega, by omega, by omega⟩)) (by omega) (by omega) (by omega) (by omega) h16
  refine En_Ps 1 (pc' := 18) (lv' := [(2, .ref a8), (0, .ref 0), (1, .int a)]) (st' := [.ref a8, .int z17, .ref 8]) rfl ?_
  refine En_getR (j := 0) (g' := 20) (u := 0) rfl rfl rfl ha8 (by decide +kernel) hσ0 (by decide +kernel) (fun a22 h21 ha22 => ?_)
  have t23 : a22 = p + 11 + 4 * (rlW Wv a.toInt).toNat := DLc (d := rlW Wv a.toInt) (FXP_fr hP hX hF0 (by decide +kernel)) h9.1 h21 (by omega) (by omega)
  obtain ⟨z25, h24, h26, h27⟩ := WT_peekI hσ0 tgz_4 (by decide +kernel : FT 4 0 = (0, 0, 16)) (by decide +kernel)
  obtain ⟨z29, h28, h30, h31⟩ := WT_peekI hσ0 tgz_4 (by decide +kernel : FT 4 1 = (0, 0, 81)) (by decide +kernel)
  have h32 : z25.toInt = pI (Wv 0) := (ci_at (j := 0) h24 rfl).symm.trans hQ.1
  have h33 : z29.toInt = nR (Wv 0) := (ci_at (j := 1) h28 rfl).symm.trans hQ.2.1
  have h34 := pI_rng (s := Wv 0) (by omega) (by omega)
  have h35 := nR_rg (s := Wv 0) (by omega) (by omega)
  obtain ⟨a37, h36, ha37⟩ := WT_peekR (g := 20) (j := 0) (g' := 21) (u := 0) hσ0 ha22 (by decide +kernel) (by decide +kernel)
  have t38 : a37 = p + 12 + 4 * (rlW Wv a.toInt).toNat := DKk (d := rlW Wv a.toInt) (FXP_fr hP hX hF0 (by decide +kernel)) t23 h36 (by omega) (by omega)
  obtain ⟨a40, h39, ha40⟩ := WT_peekR (g := 20) (j := 1) (g' := 22) (u := 0) hσ0 ha22 (by decide +kernel) (by decide +kernel)
  have t41 : a40 = p + 13 + 4 * (rlW Wv a.toInt).toNat := DKo (d := rlW Wv a.toInt) (FXP_fr hP hX hF0 (by decide +kernel)) t23 h39 (by omega) (by omega)
  obtain ⟨z43, h42, h44, h45⟩ := WT_peekI hσ0 ha22 (by decide +kernel : FT 20 2 = (0, 0, 13)) (by decide +kernel)
  have t46 : Wv (12 + 4 * (rlW Wv a.toInt)) = z43.toInt := KN_v hK (Or.inr (Or.inl ⟨by omega, by omega, by omega⟩)) (by omega) (by omega) (by omega) (by omega) h42
  refine En_callV rfl rfl rfl rfl rfl rfl rfl rfl tgz_8 (by decide +kernel) rfl (c_22x σ0 hσ0 z17 a22 ha22 (geI rfl (by first | exact q_58e6e51dcc h18 | omega)) (leI rfl (by first | exact q_a85463bd0d h19 | omega)) a37 ha37 h36 a40 ha40 h39 z43 h42 z25 h24 z29 h28 (fun i i0 i1 => TB_rg hQ.2.2 (by omega) i i0 (by omega))) (by decide) (by decide) (fun v48 σ49 h47 => ?_)
  obtain ⟨h50, h51, z53, rfl, h52⟩ := h47
  have h54 := h52
  obtain rfl : σ0 = σ49 := Fr_nil h51
  have h55 : z53.toInt = DDw Wv a.toInt := DDw_of (r := rlW Wv a.toInt) rfl t20 t46 h32 h33 (by omega) (KN_lk hK (by omega) (by omega) (by omega) t46.symm (by omega) t38) (KN_lo hK (by omega) (by omega) (by omega) t46.symm (by omega) t41) (fun i i0 i1 => TB_D hQ.2.2 i i0 (by omega)) h54
  have h56 := DDw_rg (w := Wv) (d := a.toInt) (by omega) (by omega)
  exact En_ret (v := some (Value.int z53)) rfl rfl rfl ⟨hσ0, hF0, z53, rfl, ⟨by omega, by omega, h55⟩⟩
/-- DoorSchool.doneBy(I)I -/
abbrev P_114bx (σ0 : SG) (Wv : Int → Int) (gd : Int) (gn : Int) (gk : Int → Int) (go : Int → Int) (a : Int32) (p : Nat) (sg : Int32) : PO := fun v σ => WT σ ∧ Fr [] σ0 σ ∧ ∃ ret : Int32, v = some (Value.int ret) ∧ -ret.toInt ≤ 0 ∧ ret.toInt - 65535 ≤ 0 ∧ ret.toInt = DLN Wv gd gn gk go a.toInt
set_option maxRecDepth 10000 in
set_option maxHeartbeats 4000000 in
theorem c_114bx {Wv : Int → Int} {gd : Int} {gn : Int} {gk : Int → Int} {go : Int → Int} (σ0 : SG) (hσ0 : WT σ0) (a : Int32) (hl_a : 0 ≤ a.toInt) (hu_a : a.toInt ≤ 3) (p : Nat) (hp : TG p = 18) (h_p : (σ0 0)[9]? = some (Value.ref p)) (sg : Int32) (h_sg : (σ0 p)[1]? = some (Value.int sg)) (hp0 : -sg.toInt ≤ 0) (hP : PLA p) (hX : FXP σ0 p) (hG : DLS σ0 p Wv gd gn gk go) (hB : WFw Wv) (hT : TWN Wv) (hd : a.toInt < Wv 2) (hQ : RULx σ0 (Wv 0)) : En 3 70 none mr_114 (P_114bx σ0 Wv gd gn gk go a p sg) 0 [(0, .ref 0), (1, .int a)] [] σ0 := by
  obtain ⟨hl_sg, hu_sg⟩ := WT_int hσ0 (g := 18) hp (by decide +kernel) (l := (-1)) (u := 4) (by decide +kernel) h_sg
  have hF0 : Fr [] σ0 σ0 := Fr_rfl
  have t1 : Wv (0) = sg.toInt := KN_v hG.1 (Or.inl (by decide)) (by decide) (by decide) (by rw [lcO_lt (by decide) (by decide), Nat.add_zero]) rfl h_sg
  refine En_Ps 1 (pc' := 1) (lv' := [(0, .ref 0), (1, .int a)]) (st' := [.ref 0]) rfl ?_
  refine En_getK (j := 9) h_p rfl rfl rfl tgz_0 (by decide +kernel) ?_
  refine En_Ps 1 (pc' := 5) (lv' := [(0, .ref 0), (1, .int a)]) (st' := [.int a, .ref p]) rfl ?_
  refine En_callV rfl rfl rfl rfl rfl rfl rfl rfl hp (by decide +kernel) rfl (c_52x σ0 hσ0 p hp a (geI rfl (by first | exact q_58e6e51dcc hl_a | omega)) (leI rfl (by first | exact q_da5e9b976f hu_a | omega)) hP (FXP_fr hP hX hF0 (by decide +kernel)) hG.1 (by omega)) (by decide) (by decide) (fun v3 σ4 h2 => ?_)
  obtain ⟨h5, h6, a8, ha8, rfl, h7⟩ := h2
  have h9 := h7
  obtain rfl : σ0 = σ4 := Fr_nil h6
  have h10 := hB.2.2.1
  have h11 := rlW_rg hT (by omega) hd (by omega) h9.2
  have t12 := lc_d (d := rlW Wv a.toInt) (by omega) (by omega)
  have h13 := hB.2.2.2.2.2.2 (rlW Wv a.toInt) (by omega) (by omega)
  refine En_Ps 2 (pc' := 10) (lv' := [(2, .ref a8), (0, .ref 0), (1, .int a)]) (st' := [.ref 0]) rfl ?_
  refine En_getU (j := 3) (u := 8) (g' := 8) (q := 0) rfl rfl rfl tgz_0 (by decide +kernel) hσ0 (by decide +kernel) un_8_8 (fun h14 => ?_)
  refine En_Ps 1 (pc' := 14) (lv' := [(2, .ref a8), (0, .ref 0), (1, .int a)]) (st' := [.ref a8, .ref 8]) rfl ?_
  refine En_getI (j := 1) (l := 0) (u := 2) rfl rfl rfl ha8 (by decide +kernel) hσ0 (by decide +kernel) (fun z17 h16 h18 h19 => ?_)
  have t20 : Wv (10 + 4 * (rlW Wv a.toInt)) = z17.toInt := KN_v hG.1 (Or.inr (Or.inl ⟨by omega, by omega, by omega⟩)) (by omega) (by omega) (by omega) (by omega) h16
  refine En_Ps 1 (pc' := 18) (lv' := [(2, .ref a8), (0, .ref 0), (1, .int a)]) (st' := [.ref a8, .int z17, .ref 8]) rfl ?_
  refine En_getR (j := 0) (g' := 20) (u := 0) rfl rfl rfl ha8 (by decide +kernel) hσ0 (by decide +kernel) (fun a22 h21 ha22 => ?_)
  have t23 : a22 = p + 11 + 4 * (rlW Wv a.toInt).toNat := DLc (d := rlW Wv a.toInt) (FXP_fr hP hX hF0 (by decide +kernel)) h9.1 h21 (by omega) (by omega)
  obtain ⟨z25, h24, h26, h27⟩ := WT_peekI hσ0 tgz_4 (by decide +kernel : FT 4 0 = (0, 0, 16)) (by decide +kernel)
  obtain ⟨z29, h28, h30, h31⟩ := WT_peekI hσ0 tgz_4 (by decide +kernel : FT 4 1 = (0, 0, 81)) (by decide +kernel)
  have h32 : z25.toInt = pI (Wv 0) := (ci_at (j := 0) h24 rfl).symm.trans hQ.1
  have h33 : z29.toInt = nR (Wv 0) := (ci_at (j := 1) h28 rfl).symm.trans hQ.2.1
  have h34 := pI_rng (s := Wv 0) (by omega) (by omega)
  have h35 := nR_rg (s := Wv 0) (by omega) (by omega)
  obtain ⟨a37, h36, ha37⟩ := WT_peekR (g := 20) (j := 0) (g' := 21) (u := 0) hσ0 ha22 (by decide +kernel) (by decide +kernel)
  have t38 : a37 = p + 12 + 4 * (rlW Wv a.toInt).toNat := DKk (d := rlW Wv a.toInt) (FXP_fr hP hX hF0 (by decide +kernel)) t23 h36 (by omega) (by omega)
  obtain ⟨a40, h39, ha40⟩ := WT_peekR (g := 20) (j := 1) (g' := 22) (u := 0) hσ0 ha22 (by decide +kernel) (by decide +kernel)
  have t41 : a40 = p + 13 + 4 * (rlW Wv a.toInt).toNat := DKo (d := rlW Wv a.toInt) (FXP_fr hP hX hF0 (by decide +kernel)) t23 h39 (by omega) (by omega)
  obtain ⟨z43, h42, h44, h45⟩ := WT_peekI hσ0 ha22 (by decide +kernel : FT 20 2 = (0, 0, 13)) (by decide +kernel)
  refine En_callV rfl rfl rfl rfl rfl rfl rfl rfl tgz_8 (by decide +kernel) rfl (c_22x σ0 hσ0 z17 a22 ha22 (geI rfl (by first | exact q_58e6e51dcc h18 | omega)) (leI rfl (by first | exact q_a85463bd0d h19 | omega)) a37 ha37 h36 a40 ha40 h39 z43 h42 z25 h24 z29 h28 (fun i i0 i1 => TB_rg hQ.2.2 (by omega) i i0 (by omega))) (by decide) (by decide) (fun v47 σ48 h46 => ?_)
  obtain ⟨h49, h50, z52, rfl, h51⟩ := h46
  have h53 := h51
  obtain rfl : σ0 = σ48 := Fr_nil h50
  have h54 : z52.toInt = DLN Wv gd gn gk go a.toInt := DLN_of (r := rlW Wv a.toInt) (sz := z43.toInt) hG rfl t20 h32 h33 (by omega) (by omega) (by omega) t23 t38 t41 (ci_at (j := 2) h42 rfl) (by omega) (by omega) (fun i i0 i1 => TB_D hQ.2.2 i i0 (by omega)) h53
  have h55 := DLN_rg (w := Wv) (d := gd) (n := gn) (k := gk) (o := go) (a := a.toInt) (by omega) (by omega)
  exact En_ret (v := some (Value.int z52)) rfl rfl rfl ⟨hσ0, hF0, z52, rfl, ⟨by omega, by omega, h54⟩⟩
/-- DoorSchool.back(I)I -/
abbrev P_105x (σ0 : SG) (a : Int32) (p : Nat) (sg : Int32) (p2 : Nat) : PO := fun v σ => WT σ ∧ Fr [(4, 0), (4, 1), (5, 0), (6, 0), (7, 0), (18, 0), (18, 1), (18, 2), (18, 3), (18, 6), (18, 7), (18, 8), (18, 11), (18, 14), (20, 2), (21, 0), (22, 0), (23, 0), (24, 0), (25, 0), (26, 0), (27, 0), (28, 1), (28, 2), (28, 3)] σ0 σ ∧ ∃ ret : Int32, v = some (Value.int ret) ∧ -ret.toInt - 6 ≤ 0 ∧ ret.toInt ≤ 0 ∧ (INVc σ ∧ BCK (ci σ0 71 a.toInt) a.toInt ret.toInt ∧ BKC σ0 σ p a.toInt (ci σ0 71 a.toInt) ∧ RBK σ0 σ p a.toInt (ci σ0 71 a.toInt))
set_option maxRecDepth 10000 in
set_option maxHeartbeats 4000000 in
theorem c_105x (σ0 : SG) (hσ0 : WT σ0) (a : Int32) (p : Nat) (hp : TG p = 18) (h_p : (σ0 0)[9]? = some (Value.ref p)) (sg : Int32) (h_sg : (σ0 p)[1]? = some (Value.int sg)) (p2 : Nat) (hp2 : TG p2 = 18) (h_p2 : (σ0 0)[10]? = some (Value.ref p2)) (hp0 : -sg.toInt ≤ 0) (hne : p ≠ p2) (hP : PLA p) (hX : FXP σ0 p) (hM : IMX σ0) : En 4 124 none mr_105 (P_105x σ0 a p sg p2) 0 [(0, .ref 0), (1, .int a)] [] σ0 := by
  obtain ⟨hl_sg, hu_sg⟩ := WT_int hσ0 (g := 18) hp (by decide +kernel) (l := (-1)) (u := 4) (by decide +kernel) h_sg
  have hF0 : Fr [(4, 0), (4, 1), (5, 0), (6, 0), (7, 0), (18, 0), (18, 1), (18, 2), (18, 3), (18, 6), (18, 7), (18, 8), (18, 11), (18, 14), (20, 2), (21, 0), (22, 0), (23, 0), (24, 0), (25, 0), (26, 0), (27, 0), (28, 1), (28, 2), (28, 3)] σ0 σ0 := Fr_rfl
  refine En_Ps 1 (pc' := 1) (lv' := [(0, .ref 0), (1, .int a)]) (st' := [.int a]) rfl ?_
  refine En_iLt _ rfl rfl (fun h1 => ?_) (fun h1 => ?_)
  · refine En_Ps 1 (pc' := 11) (lv' := [(0, .ref 0), (1, .int a)]) (st' := [.int (((Int8.ofInt (-2)).toInt32))]) rfl ?_
    refine En_top (by decide : ((Int8.ofInt (-2)).toInt32).toInt = -2) (fun z2 h3 => ?_)
    exact En_ret (v := some (Value.int z2)) rfl rfl rfl ⟨hσ0, hF0, z2, rfl, ⟨by first | exact q_2583522324 h3 | omega, by first | exact q_bbb39ffa1e h3 | omega, ⟨⟨p, p2, sg, hp, hp2, h_p, h_p2, hne, h_sg, (by (first | exact q_ef1e8e38bf hp0 | omega))⟩, BCK_2 (by (first | exact q_6f61c1a31d h1 | omega)) (by (first | exact q_a664922815 h3 | omega)), BKC_no (by (first | exact q_abfa98c663 h1 | omega)), ⟨fun _ _ _ => by exfalso; omega, fun _ => RSAM_0⟩⟩⟩⟩
  · refine En_Ps 2 (pc' := 6) (lv' := [(0, .ref 0), (1, .int a)]) (st' := [.int ((Int32.ofInt 3)), .int a]) rfl ?_
    refine En_icLt _ rfl (by decide : (Int32.ofInt 3).toInt = 3) rfl (fun h4 => ?_) (fun h4 => ?_)
    · refine En_Ps 1 (pc' := 13) (lv' := [(0, .ref 0), (1, .int a)]) (st' := [.ref 0]) rfl ?_
      refine En_getU (j := 8) (u := 71) (g' := 30) (q := 0) rfl rfl rfl tgz_0 (by decide +kernel) hσ0 (by decide +kernel) un_30_71 (fun h5 => ?_)
      refine En_Ps 1 (pc' := 17) (lv' := [(0, .ref 0), (1, .int a)]) (st' := [.int a, .ref 71]) rfl ?_
      refine En_bald (l := 0) (u := 1) rfl rfl tgz_71 (by decide +kernel) hσ0 (by first | exact q_58e6e51dcc h1 | omega) (lnI (by decide +kernel : LN _ = 3) (by first | exact q_59613c85e7 h4 | omega)) (FTsgl (by decide +kernel)) (fun z8 h7 h9 h10 => ?_)
      have h11 := ci_at h7 (rfl : a.toInt = a.toInt)
      refine En_iNe _ rfl rfl (fun h12 => ?_) (fun h12 => ?_)
      · refine En_Ps 1 (pc' := 25) (lv' := [(0, .ref 0), (1, .int a)]) (st' := [.ref 0]) rfl ?_
        refine En_getK (j := 9) h_p rfl rfl rfl tgz_0 (by decide +kernel) ?_
        refine En_Ps 1 (pc' := 29) (lv' := [(0, .ref 0), (1, .int a)]) (st' := [.ref 0, .ref p]) rfl ?_
        refine En_getU (j := 7) (u := 70) (g' := 29) (q := 0) rfl rfl rfl tgz_0 (by decide +kernel) hσ0 (by decide +kernel) un_29_70 (fun h13 => ?_)
        refine En_Ps 1 (pc' := 33) (lv' := [(0, .ref 0), (1, .int a)]) (st' := [.int a, .ref 70, .ref p]) rfl ?_
        refine En_aald (g' := 31) (u := 0) rfl rfl tgz_70 (by decide +kernel) hσ0 (by first | exact q_58e6e51dcc h1 | omega) (lnI (by decide +kernel : LN _ = 3) (by first | exact q_59613c85e7 h4 | omega)) (FTsgl (by decide +kernel)) (fun a16 h15 ha16 => ?_)
        have h17 : a16 = 72 + 26 * (a.toInt).toNat := ref_uniq h15 (hM (a.toInt).toNat (by (first | exact q_e3cbcd8e5d h4 h1 | omega))).1
        refine En_callV rfl rfl rfl rfl rfl rfl rfl rfl hp (by decide +kernel) rfl (c_53bx σ0 hσ0 p hp a16 ha16 (by rw [h17]; exact (SEP_i (by (first | exact q_e3cbcd8e5d h4 h1 | omega)) hP).2) hX (by rw [h17]; exact (hM (a.toInt).toNat (by (first | exact q_e3cbcd8e5d h4 h1 | omega))).2)) (by decide) (by decide) (fun v19 σ20 h18 => ?_)
        obtain ⟨h21, h22, z24, h25, rfl, h23⟩ := h18
        have h26 := h23.2.2
        have h27 := Fr_trans hF0 h22 (by decide +kernel)
        refine En_Ps 1 (pc' := 38) (lv' := [(0, .ref 0), (1, .int a)]) (st' := [.ref 0]) rfl ?_
        refine En_getU (j := 2) (u := 4) (g' := 4) (q := 0) rfl rfl rfl tgz_0 (by decide +kernel) h21 (by decide +kernel) un_4_4 (fun h29 => ?_)
        refine En_Ps 1 (pc' := 42) (lv' := [(0, .ref 0), (1, .int a)]) (st' := [.ref 0, .ref 4]) rfl ?_
        refine En_getK (j := 9) ((h22 _ _ (inW tgz_0 (by decide +kernel))).trans h_p) rfl rfl rfl tgz_0 (by decide +kernel) ?_
        refine En_getK (j := 1) h25 rfl rfl rfl hp (by decide +kernel) ?_
        refine En_callV rfl rfl rfl rfl rfl rfl rfl rfl tgz_4 (by decide +kernel) rfl (c_82x σ20 h21 z24 (geI rfl (by first | exact q_ef1e8e38bf h23.1 | omega)) (leI rfl (by first | exact q_3b0dd79e8e h23.2.1 | omega))) (by decide) (by decide) (fun v32 σ33 h31 => ?_)
        obtain ⟨h34, h35, rfl, h36⟩ := h31
        have h37 := h36
        have h38 := Fr_trans h27 h35 (by decide +kernel)
        refine En_Ps 1 (pc' := 52) (lv' := [(0, .ref 0), (1, .int a)]) (st' := [.int ((Int32.ofInt 0))]) rfl ?_
        refine En_top (by decide : (Int32.ofInt 0).toInt = 0) (fun z39 h40 => ?_)
        exact En_ret (v := some (Value.int z39)) rfl rfl rfl ⟨h34, h38, z39, rfl, ⟨by first | exact q_49fb6350c2 h40 | omega, by first | exact q_c5d285f1b9 h40 | omega, ⟨⟨p, p2, z24, hp, hp2, ((h35 _ _ (inW tgz_0 (by decide +kernel))).trans ((h22 _ _ (inW tgz_0 (by decide +kernel))).trans h_p)), ((h35 _ _ (inW tgz_0 (by decide +kernel))).trans ((h22 _ _ (inW tgz_0 (by decide +kernel))).trans h_p2)), hne, ((h35 _ _ (inW hp (by decide +kernel))).trans h25), (by (first | exact q_ef1e8e38bf h23.1 | omega))⟩, BCK_0 (by (first | exact q_58e6e51dcc h1 | omega)) (by (first | exact q_f1519f12c0 h4 | omega)) (by (first | exact q_957696b956 h12 h9 h11 | omega)) (by (first | exact q_d2dcd30e56 h40 | omega)), BKC_ok (by (first | exact q_58e6e51dcc h1 | omega)) (by (first | exact q_be4f147e40 h4 | omega)) (by (first | exact q_957696b956 h12 h9 h11 | omega)) h26 h17 h35 (by decide +kernel) (PLA_B hP), ⟨fun _ _ _ => (RULx_eq h37 (ci_at (j := 1) ((h35 _ _ (inW hp (by decide +kernel))).trans h25) rfl)), fun _ => by exfalso; omega⟩⟩⟩⟩
      · refine En_Ps 1 (pc' := 23) (lv' := [(0, .ref 0), (1, .int a)]) (st' := [.int (((Int8.ofInt (-6)).toInt32))]) rfl ?_
        refine En_top (by decide : ((Int8.ofInt (-6)).toInt32).toInt = -6) (fun z41 h42 => ?_)
        exact En_ret (v := some (Value.int z41)) rfl rfl rfl ⟨hσ0, hF0, z41, rfl, ⟨by first | exact q_597c727cce h42 | omega, by first | exact q_9bcb887de1 h42 | omega, ⟨⟨p, p2, sg, hp, hp2, h_p, h_p2, hne, h_sg, (by (first | exact q_ef1e8e38bf hp0 | omega))⟩, BCK_6 (by (first | exact q_58e6e51dcc h1 | omega)) (by (first | exact q_f1519f12c0 h4 | omega)) (by (first | exact q_ca23768860 h11 h12 | omega)) (by (first | exact q_d14eb9a8ad h42 | omega)), BKC_no (by (first | exact q_7c49b01a76 h11 h12 | omega)), ⟨fun _ _ _ => by exfalso; omega, fun _ => RSAM_0⟩⟩⟩⟩
    · refine En_Ps 1 (pc' := 11) (lv' := [(0, .ref 0), (1, .int a)]) (st' := [.int (((Int8.ofInt (-2)).toInt32))]) rfl ?_
      refine En_top (by decide : ((Int8.ofInt (-2)).toInt32).toInt = -2) (fun z43 h44 => ?_)
      exact En_ret (v := some (Value.int z43)) rfl rfl rfl ⟨hσ0, hF0, z43, rfl, ⟨by first | exact q_2583522324 h44 | omega, by first | exact q_bbb39ffa1e h44 | omega, ⟨⟨p, p2, sg, hp, hp2, h_p, h_p2, hne, h_sg, (by (first | exact q_ef1e8e38bf hp0 | omega))⟩, BCK_2 (by (first | exact q_43beb155e0 h4 | omega)) (by (first | exact q_a664922815 h44 | omega)), BKC_no (by (first | exact q_a4f6c86315 h4 | omega)), ⟨fun _ _ _ => by exfalso; omega, fun _ => RSAM_0⟩⟩⟩⟩
/-- DoorSchool.marksFor(I)I -/
abbrev P_156x (σ0 : SG) (Wv : Int → Int) (gd : Int) (a : Int32) (p : Nat) (sg : Int32) : PO := fun v σ => WT σ ∧ Fr [] σ0 σ ∧ ∃ ret : Int32, v = some (Value.int ret) ∧ -ret.toInt ≤ 0 ∧ ret.toInt - 16 ≤ 0 ∧ ret.toInt = mkN Wv a.toInt
set_option maxRecDepth 10000 in
set_option maxHeartbeats 4000000 in
theorem c_156x {Wv : Int → Int} {gd : Int} (σ0 : SG) (hσ0 : WT σ0) (a : Int32) (hl_a : 0 ≤ a.toInt) (hu_a : a.toInt ≤ 65535) (p : Nat) (hp : TG p = 18) (h_p : (σ0 0)[9]? = some (Value.ref p)) (sg : Int32) (h_sg : (σ0 p)[1]? = some (Value.int sg)) (hp0 : -sg.toInt ≤ 0) (hP : PLA p) (hX : FXP σ0 p) (hKd : KN σ0 p Wv (actD Wv gd)) (hB : WFw Wv) : En 2 44 none mr_156 (P_156x σ0 Wv gd a p sg) 0 [(0, .ref 0), (1, .int a)] [] σ0 := by
  obtain ⟨hl_sg, hu_sg⟩ := WT_int hσ0 (g := 18) hp (by decide +kernel) (l := (-1)) (u := 4) (by decide +kernel) h_sg
  have hF0 : Fr [] σ0 σ0 := Fr_rfl
  have t1 : Wv (0) = sg.toInt := KN_v hKd (Or.inl (by decide)) (by decide) (by decide) (by rw [lcO_lt (by decide) (by decide), Nat.add_zero]) rfl h_sg
  obtain ⟨z3, h2, h4, h5⟩ := WT_peekI hσ0 hp (by decide +kernel : FT 18 3 = (0, 0, 4)) (by decide +kernel)
  have t6 : Wv (2) = z3.toInt := KN_v hKd (Or.inl (by decide)) (by decide) (by decide) (by rw [lcO_lt (by decide) (by decide), Nat.add_zero]) rfl h2
  have h7 := hB.2.2.1
  have h8 := hB.1
  have h9 := hB.2.1
  have h10 := hB.2.2.2.1
  refine En_Ps 1 (pc' := 1) (lv' := [(0, .ref 0), (1, .int a)]) (st' := [.ref 0]) rfl ?_
  refine En_getK (j := 9) h_p rfl rfl rfl tgz_0 (by decide +kernel) ?_
  refine En_getR (j := 5) (g' := 20) (u := 0) rfl rfl rfl hp (by decide +kernel) hσ0 (by decide +kernel) (fun a12 h11 ha12 => ?_)
  have t13 : a12 = p + 2 := ref_uniq h11 (FXP_fr hP hX hF0 (by decide +kernel)).2.1
  refine En_Ps 1 (pc' := 8) (lv' := [(0, .ref 0), (1, .int a)]) (st' := [.int a, .ref a12]) rfl ?_
  obtain ⟨a15, h14, ha15⟩ := WT_peekR (g := 20) (j := 0) (g' := 21) (u := 0) hσ0 ha12 (by decide +kernel) (by decide +kernel)
  have t16 : a15 = p + 3 := EKk (FXP_fr hP hX hF0 (by decide +kernel)) t13 h14
  obtain ⟨a18, h17, ha18⟩ := WT_peekR (g := 20) (j := 1) (g' := 22) (u := 0) hσ0 ha12 (by decide +kernel) (by decide +kernel)
  have t19 : a18 = p + 4 := EKo (FXP_fr hP hX hF0 (by decide +kernel)) t13 h17
  obtain ⟨z21, h20, h22, h23⟩ := WT_peekI hσ0 ha12 (by decide +kernel : FT 20 2 = (0, 0, 13)) (by decide +kernel)
  have t24 : Wv (3) = z21.toInt := KN_v hKd (Or.inl (by decide)) (by decide) (by decide) (by rw [lcO_3]; omega) (by decide) h20
  refine En_callV rfl rfl rfl rfl rfl rfl rfl rfl ha12 (by decide +kernel) rfl (c_32x σ0 hσ0 a12 ha12 a (geI rfl (by first | exact q_58e6e51dcc hl_a | omega)) (leI rfl (by first | exact q_36eb0a70bf hu_a | omega)) a15 ha15 h14 a18 ha18 h17 z21 h20) (by decide) (by decide) (fun v26 σ27 h25 => ?_)
  obtain ⟨h28, h29, z31, rfl, h30⟩ := h25
  have h32 := h30.2.2
  obtain rfl : σ0 = σ27 := Fr_nil h29
  refine En_callS rfl rfl rfl rfl rfl rfl rfl rfl rfl (c_7bx σ0 hσ0 z31 (geI rfl (by first | exact q_ef1e8e38bf h30.1 | omega)) (leI rfl (by first | exact q_62355f097f h30.2.1 | omega))) (by decide) (by decide) (fun v34 σ35 h33 => ?_)
  obtain ⟨h36, h37, z39, rfl, h38⟩ := h33
  have h40 := h38.2.2
  obtain rfl : σ0 = σ35 := Fr_nil h37
  exact En_ret (v := some (Value.int z39)) rfl rfl rfl ⟨hσ0, hF0, z39, rfl, ⟨by first | exact q_a555021d16 h38.1 | omega, by first | exact q_0e990c4066 h38.2.1 | omega, mkN_of t24.symm (by omega) (KN_ekD hKd t24.symm (by omega) t16) (KN_eoD hKd t24.symm (by omega) t19) h32 h40⟩⟩
/-- DoorSchool.copy(II)I -/
abbrev P_109x (σ0 : SG) (Wv : Int → Int) (a : Int32) (b : Int32) (p : Nat) (sg : Int32) : PO := fun v σ => WT σ ∧ Fr [(28, 3)] σ0 σ ∧ ∃ ret : Int32, v = some (Value.int ret) ∧ -ret.toInt - 5 ≤ 0 ∧ ret.toInt - 3 ≤ 0 ∧ (KN σ p (cyW Wv a.toInt b.toInt) (act (cyW Wv a.toInt b.toInt)) ∧ OUT σ0 σ p)
set_option maxRecDepth 10000 in
set_option maxHeartbeats 4000000 in
theorem c_109x {Wv : Int → Int} (σ0 : SG) (hσ0 : WT σ0) (a : Int32) (b : Int32) (p : Nat) (hp : TG p = 18) (h_p : (σ0 0)[9]? = some (Value.ref p)) (sg : Int32) (h_sg : (σ0 p)[1]? = some (Value.int sg)) (hp0 : -sg.toInt ≤ 0) (hP : PLA p) (hX : FXP σ0 p) (hK : KN σ0 p Wv (act Wv)) : En 1 22 none mr_109 (P_109x σ0 Wv a b p sg) 0 [(0, .ref 0), (1, .int a), (2, .int b)] [] σ0 := by
  obtain ⟨hl_sg, hu_sg⟩ := WT_int hσ0 (g := 18) hp (by decide +kernel) (l := (-1)) (u := 4) (by decide +kernel) h_sg
  have hF0 : Fr [(28, 3)] σ0 σ0 := Fr_rfl
  have t1 : Wv (0) = sg.toInt := KN_v hK (Or.inl (by decide)) (by decide) (by decide) (by rw [lcO_lt (by decide) (by decide), Nat.add_zero]) rfl h_sg
  obtain ⟨z3, h2, h4, h5⟩ := WT_peekI hσ0 hp (by decide +kernel : FT 18 3 = (0, 0, 4)) (by decide +kernel)
  have t6 : Wv (2) = z3.toInt := KN_v hK (Or.inl (by decide)) (by decide) (by decide) (by rw [lcO_lt (by decide) (by decide), Nat.add_zero]) rfl h2
  refine En_Ps 1 (pc' := 1) (lv' := [(0, .ref 0), (1, .int a), (2, .int b)]) (st' := [.ref 0]) rfl ?_
  refine En_getK (j := 9) h_p rfl rfl rfl tgz_0 (by decide +kernel) ?_
  refine En_Ps 1 (pc' := 5) (lv' := [(0, .ref 0), (1, .int a), (2, .int b)]) (st' := [.int a, .ref p]) rfl ?_
  refine En_callV rfl rfl rfl rfl rfl rfl rfl rfl hp (by decide +kernel) rfl (c_47x σ0 hσ0 p hp a z3 h2) (by decide) (by decide) (fun v8 σ9 h7 => ?_)
  obtain ⟨h10, h11, z13, rfl, h12⟩ := h7
  obtain rfl : σ0 = σ9 := Fr_nil h11
  have h14 := Imp_m h12.2.2.1
  have h15 := Imp_m h12.2.2.2.1
  have h16 := Imp_m h12.2.2.2.2.1
  have h17 := Imp_m h12.2.2.2.2.2
  refine En_iEq _ rfl rfl (fun h18 => ?_) (fun h18 => ?_)
  · have h19 := Imp_m h12.2.2.2.2.1 (by first | exact ⟨q_c5d285f1b9 h18, q_a555021d16 h12.1⟩ | omega)
    refine En_Ps 1 (pc' := 34) (lv' := [(0, .ref 0), (1, .int a), (2, .int b)]) (st' := [.int (((Int8.ofInt (-2)).toInt32))]) rfl ?_
    refine En_top (by decide : ((Int8.ofInt (-2)).toInt32).toInt = -2) (fun z20 h21 => ?_)
    exact En_ret (v := some (Value.int z20)) rfl rfl rfl ⟨hσ0, hF0, z20, rfl, ⟨by first | exact q_f1982a04c6 h21 | omega, by first | exact q_09eb541a79 h21 | omega, (by rw [cyW_n (by omega)]; exact ⟨hK, OUT_0⟩)⟩⟩
  · have h22 := Imp_m h12.2.2.1 (by first | exact q_e3350da514 h18 h12.1 | omega)
    have h23 := Imp_m h12.2.2.2.1 (by first | exact ⟨q_a555021d16 h22.1, q_ef157b5a0e h22.2⟩ | omega)
    have h24 := Imp_m h12.2.2.2.2.2 (by first | exact ⟨q_ad5b726bf8 h12.2.1, q_e3350da514 h18 h12.1⟩ | omega)
    refine En_Ps 2 (pc' := 13) (lv' := [(0, .ref 0), (1, .int a), (2, .int b)]) (st' := [.int a, .int b]) rfl ?_
    refine En_icEq _ rfl rfl rfl (fun h25 => ?_) (fun h25 => ?_)
    · refine En_Ps 1 (pc' := 34) (lv' := [(0, .ref 0), (1, .int a), (2, .int b)]) (st' := [.int (((Int8.ofInt (-2)).toInt32))]) rfl ?_
      refine En_top (by decide : ((Int8.ofInt (-2)).toInt32).toInt = -2) (fun z26 h27 => ?_)
      exact En_ret (v := some (Value.int z26)) rfl rfl rfl ⟨hσ0, hF0, z26, rfl, ⟨by first | exact q_f1982a04c6 h27 | omega, by first | exact q_09eb541a79 h27 | omega, (by rw [cyW_n (by omega)]; exact ⟨hK, OUT_0⟩)⟩⟩
    · refine En_Ps 2 (pc' := 18) (lv' := [(0, .ref 0), (1, .int a), (2, .int b)]) (st' := [.int ((Int32.ofInt (-1))), .int b]) rfl ?_
      refine En_icEq _ rfl (by decide : (Int32.ofInt (-1)).toInt = -1) rfl (fun h28 => ?_) (fun h28 => ?_)
      · refine En_Ps 1 (pc' := 36) (lv' := [(0, .ref 0), (1, .int a), (2, .int b)]) (st' := [.ref 0]) rfl ?_
        refine En_getK (j := 9) h_p rfl rfl rfl tgz_0 (by decide +kernel) ?_
        refine En_Ps 1 (pc' := 40) (lv' := [(0, .ref 0), (1, .int a), (2, .int b)]) (st' := [.int a, .ref p]) rfl ?_
        refine En_callV rfl rfl rfl rfl rfl rfl rfl rfl hp (by decide +kernel) rfl (c_45x σ0 hσ0 p hp a hP (FXP_fr hP hX hF0 (by decide +kernel)) hK) (by decide) (by decide) (fun v30 σ31 h29 => ?_)
        obtain ⟨h32, h33, z35, rfl, h34⟩ := h29
        have h36 := h34.2.2.2
        obtain rfl : σ0 = σ31 := Fr_nil h33
        have h37 : z35.toInt = cpI Wv a.toInt := h36
        refine En_iNe _ rfl rfl (fun h38 => ?_) (fun h38 => ?_)
        · have h39 := Imp_m h34.2.2.1 (by first | exact ⟨q_ad5b726bf8 h34.2.1, q_e3350da514 h38 h34.1⟩ | omega)
          refine En_Ps 1 (pc' := 69) (lv' := [(0, .ref 0), (1, .int a), (2, .int b)]) (st' := [.int (((Int8.ofInt (-5)).toInt32))]) rfl ?_
          refine En_top (by decide : ((Int8.ofInt (-5)).toInt32).toInt = -5) (fun z40 h41 => ?_)
          exact En_ret (v := some (Value.int z40)) rfl rfl rfl ⟨hσ0, hF0, z40, rfl, ⟨by first | exact q_715ce6bb90 h41 | omega, by first | exact q_08e77983b4 h41 | omega, (by rw [cyW_n (by omega)]; exact ⟨hK, OUT_0⟩)⟩⟩
        · refine En_Ps 2 (pc' := 48) (lv' := [(0, .ref 0), (1, .int a), (2, .int b)]) (st' := [.int ((Int32.ofInt (-1))), .int b]) rfl ?_
          refine En_icEq _ rfl (by decide : (Int32.ofInt (-1)).toInt = -1) rfl (fun h42 => ?_) (fun hx => by first | exact (q_9d3c087e80 hx h28).elim | (exfalso; omega))
          refine En_Ps 1 (pc' := 71) (lv' := [(0, .ref 0), (1, .int a), (2, .int b)]) (st' := [.ref 0]) rfl ?_
          refine En_getK (j := 9) h_p rfl rfl rfl tgz_0 (by decide +kernel) ?_
          refine En_getR (j := 4) (g' := 19) (u := 0) rfl rfl rfl hp (by decide +kernel) hσ0 (by decide +kernel) (fun a44 h43 ha44 => ?_)
          have t45 : a44 = p + 1 := ref_uniq h43 (FXP_fr hP hX hF0 (by decide +kernel)).1
          refine En_Ps 1 (pc' := 78) (lv' := [(0, .ref 0), (1, .int a), (2, .int b)]) (st' := [.int a, .ref a44]) rfl ?_
          refine En_aald (g' := 28) (u := 0) rfl rfl ha44 (by decide +kernel) hσ0 (by first | exact q_ef1e8e38bf h22.1 | omega) (lnI (by decide +kernel : LN _ = 4) (by first | exact q_7fdbd2bd6a h24.2 | omega)) (FTsgl (by decide +kernel)) (fun a47 h46 ha47 => ?_)
          have t48 : a47 = p + 10 + 4 * (a.toInt).toNat := DRe (d := a.toInt) (FXP_fr hP hX hF0 (by decide +kernel)) t45 h46 (by (first | exact q_ef1e8e38bf h24.1 | omega)) (by (first | exact q_8d5ddb67ca h24.2 | omega))
          have t49 := lc_d (d := a.toInt) (by (first | exact q_ef1e8e38bf h24.1 | omega)) (by (first | exact q_8d5ddb67ca h24.2 | omega))
          refine En_getI (j := 3) (l := (-1)) (u := 3) rfl rfl rfl ha47 (by decide +kernel) hσ0 (by decide +kernel) (fun z51 h50 h52 h53 => ?_)
          have t54 : Wv (13 + 4 * (a.toInt)) = z51.toInt := KN_v hK (Or.inr (Or.inl ⟨by (first | exact q_382253bcd5 h24.1 | omega), by (first | exact q_ba6cc6d49c h24.2 | omega), by omega⟩)) (by (first | exact q_1c4c3f73fc h24.1 | omega)) (by (first | exact q_62d9ce9da4 h24.2 | omega)) (by omega) (by (first | exact q_67bf5599ba t49.2.2.2.2.2.2.2 | omega)) h50
          refine En_Ps 2 (pc' := 84) (lv' := [(3, .int z51), (0, .ref 0), (1, .int a), (2, .int b)]) (st' := [.ref 0]) rfl ?_
          refine En_getK (j := 9) h_p rfl rfl rfl tgz_0 (by decide +kernel) ?_
          refine En_getK (j := 4) h43 rfl rfl rfl hp (by decide +kernel) ?_
          refine En_Ps 1 (pc' := 91) (lv' := [(3, .int z51), (0, .ref 0), (1, .int a), (2, .int b)]) (st' := [.int a, .ref a44]) rfl ?_
          refine En_aald (g' := 28) (u := 0) rfl rfl ha44 (by decide +kernel) hσ0 (by first | exact q_ef1e8e38bf h22.1 | omega) (lnI (by decide +kernel : LN _ = 4) (by first | exact q_7fdbd2bd6a h24.2 | omega)) (FTsgl (by decide +kernel)) (fun a56 h55 ha56 => ?_)
          have t57 : a56 = p + 10 + 4 * (a.toInt).toNat := DRe (d := a.toInt) (FXP_fr hP hX hF0 (by decide +kernel)) t45 h55 (by (first | exact q_ef1e8e38bf h24.1 | omega)) (by (first | exact q_8d5ddb67ca h24.2 | omega))
          have t58 := lc_d (d := a.toInt) (by (first | exact q_ef1e8e38bf h24.1 | omega)) (by (first | exact q_8d5ddb67ca h24.2 | omega))
          refine En_Ps 1 (pc' := 93) (lv' := [(3, .int z51), (0, .ref 0), (1, .int a), (2, .int b)]) (st' := [.int b, .ref a56]) rfl ?_
          refine En_put (j := 3) rfl rfl rfl ha56 (by decide +kernel) rfl (vI (l := (-1)) (u := 3) (by decide +kernel) rfl (by first | exact q_2252655278 h28 | omega) (by first | exact q_c8445ed0b4 h28 | omega)) hσ0 hF0 (by decide +kernel) (fun σ59 h60 h61 h62 h63 => ?_)
          refine En_Ps 1 (pc' := 97) (lv' := [(3, .int z51), (0, .ref 0), (1, .int a), (2, .int b)]) (st' := [.int z51]) rfl ?_
          exact En_ret (v := some (Value.int z51)) rfl rfl rfl ⟨h60, h61, z51, rfl, ⟨by first | exact q_85f91396a5 h52 | omega, by first | exact q_e9a8eec0c4 h53 | omega, (by have l := lc_d (d := a.toInt) (by (first | exact q_ef1e8e38bf h24.1 | omega)) (by (first | exact q_8d5ddb67ca h24.2 | omega)); rw [cyW_y (by omega)]; exact KN_one hK (PLA_B hP) (i := 13 + 4 * a.toInt) (v := b.toInt) h62 h63 (by (first | exact q_1c4c3f73fc h24.1 | omega)) (by (first | exact q_62d9ce9da4 h24.2 | omega)) ⟨by omega, by (first | exact q_67bf5599ba l.2.2.2.2.2.2.2 | omega)⟩ rfl (by omega) (Or.inr (Or.inl ⟨by (first | exact q_382253bcd5 h24.1 | omega), by (first | exact q_ba6cc6d49c h24.2 | omega), by omega⟩)))⟩⟩
      · refine En_Ps 1 (pc' := 22) (lv' := [(0, .ref 0), (1, .int a), (2, .int b)]) (st' := [.ref 0]) rfl ?_
        refine En_getK (j := 9) h_p rfl rfl rfl tgz_0 (by decide +kernel) ?_
        refine En_Ps 1 (pc' := 26) (lv' := [(0, .ref 0), (1, .int a), (2, .int b)]) (st' := [.int b, .ref p]) rfl ?_
        refine En_callV rfl rfl rfl rfl rfl rfl rfl rfl hp (by decide +kernel) rfl (c_47x σ0 hσ0 p hp b z3 h2) (by decide) (by decide) (fun v65 σ66 h64 => ?_)
        obtain ⟨h67, h68, z70, rfl, h69⟩ := h64
        obtain rfl : σ0 = σ66 := Fr_nil h68
        have h71 := Imp_m h69.2.2.1
        have h72 := Imp_m h69.2.2.2.1
        have h73 := Imp_m h69.2.2.2.2.1
        have h74 := Imp_m h69.2.2.2.2.2
        refine En_iNe _ rfl rfl (fun h75 => ?_) (fun h75 => ?_)
        · have h76 := Imp_m h69.2.2.1 (by first | exact q_e3350da514 h75 h69.1 | omega)
          have h77 := Imp_m h69.2.2.2.1 (by first | exact ⟨q_a555021d16 h76.1, q_ef157b5a0e h76.2⟩ | omega)
          have h78 := Imp_m h69.2.2.2.2.2 (by first | exact ⟨q_ad5b726bf8 h69.2.1, q_e3350da514 h75 h69.1⟩ | omega)
          refine En_Ps 1 (pc' := 36) (lv' := [(0, .ref 0), (1, .int a), (2, .int b)]) (st' := [.ref 0]) rfl ?_
          refine En_getK (j := 9) h_p rfl rfl rfl tgz_0 (by decide +kernel) ?_
          refine En_Ps 1 (pc' := 40) (lv' := [(0, .ref 0), (1, .int a), (2, .int b)]) (st' := [.int a, .ref p]) rfl ?_
          refine En_callV rfl rfl rfl rfl rfl rfl rfl rfl hp (by decide +kernel) rfl (c_45x σ0 hσ0 p hp a hP (FXP_fr hP hX hF0 (by decide +kernel)) hK) (by decide) (by decide) (fun v80 σ81 h79 => ?_)
          obtain ⟨h82, h83, z85, rfl, h84⟩ := h79
          have h86 := h84.2.2.2
          obtain rfl : σ0 = σ81 := Fr_nil h83
          have h87 : z85.toInt = cpI Wv a.toInt := h86
          refine En_iNe _ rfl rfl (fun h88 => ?_) (fun h88 => ?_)
          · have h89 := Imp_m h84.2.2.1 (by first | exact ⟨q_ad5b726bf8 h84.2.1, q_e3350da514 h88 h84.1⟩ | omega)
            refine En_Ps 1 (pc' := 69) (lv' := [(0, .ref 0), (1, .int a), (2, .int b)]) (st' := [.int (((Int8.ofInt (-5)).toInt32))]) rfl ?_
            refine En_top (by decide : ((Int8.ofInt (-5)).toInt32).toInt = -5) (fun z90 h91 => ?_)
            exact En_ret (v := some (Value.int z90)) rfl rfl rfl ⟨hσ0, hF0, z90, rfl, ⟨by first | exact q_715ce6bb90 h91 | omega, by first | exact q_08e77983b4 h91 | omega, (by rw [cyW_n (by omega)]; exact ⟨hK, OUT_0⟩)⟩⟩
          · refine En_Ps 2 (pc' := 48) (lv' := [(0, .ref 0), (1, .int a), (2, .int b)]) (st' := [.int ((Int32.ofInt (-1))), .int b]) rfl ?_
            refine En_icEq _ rfl (by decide : (Int32.ofInt (-1)).toInt = -1) rfl (fun hx => by first | exact (q_693db50900 h76.1 hx).elim | (exfalso; omega)) (fun h92 => ?_)
            refine En_Ps 1 (pc' := 52) (lv' := [(0, .ref 0), (1, .int a), (2, .int b)]) (st' := [.ref 0]) rfl ?_
            refine En_getK (j := 9) h_p rfl rfl rfl tgz_0 (by decide +kernel) ?_
            refine En_getR (j := 4) (g' := 19) (u := 0) rfl rfl rfl hp (by decide +kernel) hσ0 (by decide +kernel) (fun a94 h93 ha94 => ?_)
            have t95 : a94 = p + 1 := ref_uniq h93 (FXP_fr hP hX hF0 (by decide +kernel)).1
            refine En_Ps 1 (pc' := 59) (lv' := [(0, .ref 0), (1, .int a), (2, .int b)]) (st' := [.int b, .ref a94]) rfl ?_
            refine En_aald (g' := 28) (u := 0) rfl rfl ha94 (by decide +kernel) hσ0 (by first | exact q_ef1e8e38bf h76.1 | omega) (lnI (by decide +kernel : LN _ = 4) (by first | exact q_7fdbd2bd6a h78.2 | omega)) (FTsgl (by decide +kernel)) (fun a97 h96 ha97 => ?_)
            have t98 : a97 = p + 10 + 4 * (b.toInt).toNat := DRe (d := b.toInt) (FXP_fr hP hX hF0 (by decide +kernel)) t95 h96 (by (first | exact q_ef1e8e38bf h78.1 | omega)) (by (first | exact q_8d5ddb67ca h78.2 | omega))
            have t99 := lc_d (d := b.toInt) (by (first | exact q_ef1e8e38bf h78.1 | omega)) (by (first | exact q_8d5ddb67ca h78.2 | omega))
            refine En_getI (j := 3) (l := (-1)) (u := 3) rfl rfl rfl ha97 (by decide +kernel) hσ0 (by decide +kernel) (fun z101 h100 h102 h103 => ?_)
            have t104 : Wv (13 + 4 * (b.toInt)) = z101.toInt := KN_v hK (Or.inr (Or.inl ⟨by (first | exact q_382253bcd5 h78.1 | omega), by (first | exact q_ba6cc6d49c h78.2 | omega), by omega⟩)) (by (first | exact q_1c4c3f73fc h78.1 | omega)) (by (first | exact q_62d9ce9da4 h78.2 | omega)) (by omega) (by (first | exact q_67bf5599ba t99.2.2.2.2.2.2.2 | omega)) h100
            refine En_Ps 1 (pc' := 64) (lv' := [(0, .ref 0), (1, .int a), (2, .int b)]) (st' := [.int ((Int32.ofInt (-1))), .int z101]) rfl ?_
            refine En_icEq _ rfl (by decide : (Int32.ofInt (-1)).toInt = -1) rfl (fun h105 => ?_) (fun h105 => ?_)
            · refine En_Ps 1 (pc' := 71) (lv' := [(0, .ref 0), (1, .int a), (2, .int b)]) (st' := [.ref 0]) rfl ?_
              refine En_getK (j := 9) h_p rfl rfl rfl tgz_0 (by decide +kernel) ?_
              refine En_getK (j := 4) h93 rfl rfl rfl hp (by decide +kernel) ?_
              refine En_Ps 1 (pc' := 78) (lv' := [(0, .ref 0), (1, .int a), (2, .int b)]) (st' := [.int a, .ref a94]) rfl ?_
              refine En_aald (g' := 28) (u := 0) rfl rfl ha94 (by decide +kernel) hσ0 (by first | exact q_ef1e8e38bf h22.1 | omega) (lnI (by decide +kernel : LN _ = 4) (by first | exact q_7fdbd2bd6a h24.2 | omega)) (FTsgl (by decide +kernel)) (fun a107 h106 ha107 => ?_)
              have t108 : a107 = p + 10 + 4 * (a.toInt).toNat := DRe (d := a.toInt) (FXP_fr hP hX hF0 (by decide +kernel)) t95 h106 (by (first | exact q_ef1e8e38bf h24.1 | omega)) (by (first | exact q_8d5ddb67ca h24.2 | omega))
              have t109 := lc_d (d := a.toInt) (by (first | exact q_ef1e8e38bf h24.1 | omega)) (by (first | exact q_8d5ddb67ca h24.2 | omega))
              refine En_getI (j := 3) (l := (-1)) (u := 3) rfl rfl rfl ha107 (by decide +kernel) hσ0 (by decide +kernel) (fun z111 h110 h112 h113 => ?_)
              have t114 : Wv (13 + 4 * (a.toInt)) = z111.toInt := KN_v hK (Or.inr (Or.inl ⟨by (first | exact q_382253bcd5 h24.1 | omega), by (first | exact q_ba6cc6d49c h24.2 | omega), by omega⟩)) (by (first | exact q_1c4c3f73fc h24.1 | omega)) (by (first | exact q_62d9ce9da4 h24.2 | omega)) (by omega) (by (first | exact q_67bf5599ba t109.2.2.2.2.2.2.2 | omega)) h110
              refine En_Ps 2 (pc' := 84) (lv' := [(3, .int z111), (0, .ref 0), (1, .int a), (2, .int b)]) (st' := [.ref 0]) rfl ?_
              refine En_getK (j := 9) h_p rfl rfl rfl tgz_0 (by decide +kernel) ?_
              refine En_getK (j := 4) h93 rfl rfl rfl hp (by decide +kernel) ?_
              refine En_Ps 1 (pc' := 91) (lv' := [(3, .int z111), (0, .ref 0), (1, .int a), (2, .int b)]) (st' := [.int a, .ref a94]) rfl ?_
              refine En_aald (g' := 28) (u := 0) rfl rfl ha94 (by decide +kernel) hσ0 (by first | exact q_ef1e8e38bf h22.1 | omega) (lnI (by decide +kernel : LN _ = 4) (by first | exact q_7fdbd2bd6a h24.2 | omega)) (FTsgl (by decide +kernel)) (fun a116 h115 ha116 => ?_)
              have t117 : a116 = p + 10 + 4 * (a.toInt).toNat := DRe (d := a.toInt) (FXP_fr hP hX hF0 (by decide +kernel)) t95 h115 (by (first | exact q_ef1e8e38bf h24.1 | omega)) (by (first | exact q_8d5ddb67ca h24.2 | omega))
              have t118 := lc_d (d := a.toInt) (by (first | exact q_ef1e8e38bf h24.1 | omega)) (by (first | exact q_8d5ddb67ca h24.2 | omega))
              refine En_Ps 1 (pc' := 93) (lv' := [(3, .int z111), (0, .ref 0), (1, .int a), (2, .int b)]) (st' := [.int b, .ref a116]) rfl ?_
              refine En_put (j := 3) rfl rfl rfl ha116 (by decide +kernel) rfl (vI (l := (-1)) (u := 3) (by decide +kernel) rfl (by first | exact q_1ab37740a2 h76.1 | omega) (by first | exact q_87d9217d84 h78.2 | omega)) hσ0 hF0 (by decide +kernel) (fun σ119 h120 h121 h122 h123 => ?_)
              refine En_Ps 1 (pc' := 97) (lv' := [(3, .int z111), (0, .ref 0), (1, .int a), (2, .int b)]) (st' := [.int z111]) rfl ?_
              exact En_ret (v := some (Value.int z111)) rfl rfl rfl ⟨h120, h121, z111, rfl, ⟨by first | exact q_85f91396a5 h112 | omega, by first | exact q_e9a8eec0c4 h113 | omega, (by have l := lc_d (d := a.toInt) (by (first | exact q_ef1e8e38bf h24.1 | omega)) (by (first | exact q_8d5ddb67ca h24.2 | omega)); rw [cyW_y (by omega)]; exact KN_one hK (PLA_B hP) (i := 13 + 4 * a.toInt) (v := b.toInt) h122 h123 (by (first | exact q_1c4c3f73fc h24.1 | omega)) (by (first | exact q_62d9ce9da4 h24.2 | omega)) ⟨by omega, by (first | exact q_67bf5599ba l.2.2.2.2.2.2.2 | omega)⟩ rfl (by omega) (Or.inr (Or.inl ⟨by (first | exact q_382253bcd5 h24.1 | omega), by (first | exact q_ba6cc6d49c h24.2 | omega), by omega⟩)))⟩⟩
            · refine En_Ps 1 (pc' := 69) (lv' := [(0, .ref 0), (1, .int a), (2, .int b)]) (st' := [.int (((Int8.ofInt (-5)).toInt32))]) rfl ?_
              refine En_top (by decide : ((Int8.ofInt (-5)).toInt32).toInt = -5) (fun z124 h125 => ?_)
              exact En_ret (v := some (Value.int z124)) rfl rfl rfl ⟨hσ0, hF0, z124, rfl, ⟨by first | exact q_715ce6bb90 h125 | omega, by first | exact q_08e77983b4 h125 | omega, (by rw [cyW_n (by omega)]; exact ⟨hK, OUT_0⟩)⟩⟩
        · have h126 := Imp_m h69.2.2.2.2.1 (by first | exact ⟨q_c5d285f1b9 h75, q_a555021d16 h69.1⟩ | omega)
          refine En_Ps 1 (pc' := 34) (lv' := [(0, .ref 0), (1, .int a), (2, .int b)]) (st' := [.int (((Int8.ofInt (-2)).toInt32))]) rfl ?_
          refine En_top (by decide : ((Int8.ofInt (-2)).toInt32).toInt = -2) (fun z127 h128 => ?_)
          exact En_ret (v := some (Value.int z127)) rfl rfl rfl ⟨hσ0, hF0, z127, rfl, ⟨by first | exact q_f1982a04c6 h128 | omega, by first | exact q_09eb541a79 h128 | omega, (by rw [cyW_n (by omega)]; exact ⟨hK, OUT_0⟩)⟩⟩
end
