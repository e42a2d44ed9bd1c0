/-- DoorSchool$Reader.readSaid(LDoorSchool$Plan;LDoorSchool$Lessons;)V -/
abbrev P_69x (σ0 : SG) (By : Int → Int) (Nb : Int) (Sp : PS) (ix : Int) (jx : Int) (a : Nat) (b : Nat) (f : Int32) (sg : Int32) : PO := fun v σ => WT σ ∧ Fr [(3, 1), (3, 2), (3, 3), (3, 4), (3, 5), (3, 6), (20, 2), (21, 0), (22, 0)] σ0 σ ∧ ∃ f1 : Int32, (σ 3)[5]? = some (.int f1) ∧ v = none ∧ OUT σ0 σ a ∧ -f1.toInt ≤ 0 ∧ f1.toInt - 3 ≤ 0 ∧ -f1.toInt + f.toInt ≤ 0 ∧ f.toInt - f1.toInt ≤ 0 ∧ (CT By Nb σ (fSaid By Nb ix jx Sp) ∧ ((fSaid By Nb ix jx Sp).1 = 0 → KN σ a (fSaid By Nb ix jx Sp).2.2.2 (fun t => ((act Sp.2.2.2 t ∨ t = ix) ∨ t = ix + 1) ∨ t = jx)))
set_option maxRecDepth 10000 in
set_option maxHeartbeats 4000000 in
theorem c_69x {By : Int → Int} {Nb : Int} {Sp : PS} {ix : Int} {jx : Int} (σ0 : SG) (hσ0 : WT σ0) (a : Nat) (ha : TG a = 18) (b : Nat) (hb : TG b = 20) (f : Int32) (h_f : (σ0 3)[5]? = some (.int f)) (sg : Int32) (h_sg : (σ0 a)[1]? = some (.int sg)) (hp0 : -sg.toInt ≤ 0) (hC : CT By Nb σ0 Sp) (hg : Sp.1 = 0) (hP : PLA a) (hX : FXP σ0 a) (hK : KN σ0 a Sp.2.2.2 (act Sp.2.2.2)) (hL : LSN σ0 a b Sp.2.2.2 ix jx) : En 5 112 none mr_69 (P_69x σ0 By Nb Sp ix jx a b f sg) 0 [(0, .ref 3), (1, .ref a), (2, .ref b)] [] σ0 := by
  obtain ⟨hl_f, hu_f⟩ := WT_int hσ0 (g := 3) (by decide +kernel) (by decide +kernel) (l := 0) (u := 3) (by decide +kernel) h_f
  obtain ⟨hl_sg, hu_sg⟩ := WT_int hσ0 (g := 18) ha (by decide +kernel) (l := (-1)) (u := 4) (by decide +kernel) h_sg
  have hF0 : Fr [(3, 1), (3, 2), (3, 3), (3, 4), (3, 5), (3, 6), (20, 2), (21, 0), (22, 0)] σ0 σ0 := Fr_rfl
  have h1 := CT_k hC h_f
  have h2 : Sp.2.2.2 0 = sg.toInt := KN_v hK (Or.inl (by decide)) (by decide) (by decide) (by rw [lcO_lt (by decide) (by decide), Nat.add_zero]) rfl h_sg
  have h3 : pI (Sp.2.2.2 0) = pI (sg.toInt) := by rw [h2]
  obtain ⟨L1, L2, L3, L4, L5, L6, L7, L8, L9, L10, L11, L12, L13, L14, L15⟩ := id hL
  obtain ⟨a5, h4, ha5⟩ := WT_peekR (g := 20) (j := 0) (g' := 21) (u := 0) hσ0 hb (by decide +kernel) (by decide +kernel)
  obtain ⟨a7, h6, ha7⟩ := WT_peekR (g := 20) (j := 1) (g' := 22) (u := 0) hσ0 hb (by decide +kernel) (by decide +kernel)
  obtain ⟨z9, h8, h10, h11⟩ := WT_peekI hσ0 hb (by decide +kernel : FT 20 2 = (0, 0, 13)) (by decide +kernel)
  have h12 : a5 = b + 1 := ref_uniq h4 L12
  have h13 : a7 = b + 2 := ref_uniq h6 L13
  have h14 : Sp.2.2.2 jx = z9.toInt := KN_v hK L11 L9 L10 L1 (by rw [L2]; rfl) h8
  have := lc_0 L9 L10
  have := lc_0 (i := ix + 1) (by omega) L8
  have := lc_0 (i := ix) (by omega) (by omega)
  refine En_Ps 3 (pc' := 3) (lv' := [(0, .ref 3), (1, .ref a), (2, .ref b)]) (st' := [.ref a, .int ((Int32.ofInt 0)), .ref 3]) rfl ?_
  refine En_callV rfl rfl rfl rfl rfl rfl rfl rfl ha (by decide +kernel) rfl (c_51x σ0 hσ0 a ha sg h_sg (by first | exact q_a555021d16 hp0 | omega)) (by decide) (by decide) (fun v16 σ17 h15 => ?_)
  obtain ⟨h18, h19, z21, rfl, h20⟩ := h15
  have h22 := h20.2.2
  obtain rfl : σ0 = σ17 := Fr_nil h19
  have h23 := h22
  have h24 : pI (Sp.2.2.2 0) = z21.toInt := by rw [(rfl : Sp.2.2.2 = Sp.2.2.2)]; omega
  refine En_Ps 2 (pc' := 8) (lv' := [(0, .ref 3), (1, .ref a), (2, .ref b)]) (st' := [.int ((z21 - ((Int32.ofInt 1)))), .int ((Int32.ofInt 0)), .ref 3]) rfl ?_
  refine En_top (subI rfl (by decide : (Int32.ofInt 1).toInt = 1) (by first | exact q_ead043ab48 h20.1 | omega) (by first | exact q_9b40fa289d h20.2.1 | omega)) (fun z25 h26 => ?_)
  have := (by decide : ((Int32.ofInt 0)).toInt = 0)
  refine En_callV rfl rfl rfl rfl rfl rfl rfl rfl tgz_3 (by decide +kernel) rfl (c_73x σ0 hσ0 ((Int32.ofInt 0)) z25 f h_f hC) (by decide) (by decide) (fun v28 σ29 h27 => ?_)
  obtain ⟨h30, h31, z33, h34, z35, rfl, h32⟩ := h27
  have h36 := h32.2.2.2.2.2.2.2.2.2
  have h37 := Fr_trans hF0 h31 (by decide +kernel)
  have h38 : tN By Nb ((Int32.ofInt 0)).toInt z25.toInt Sp = tN By Nb (0) (pI (Sp.2.2.2 0) - 1) Sp := tN_cg2 (fun zz => by omega) (fun zz => by omega)
  obtain ⟨S39, h40⟩ : ∃ q : PS, q = tN By Nb (0) (pI (Sp.2.2.2 0) - 1) Sp := ⟨_, rfl⟩
  have h41 : CT By Nb σ29 S39 := by rw [h40]; exact (CT_eq h36.1 h38)
  have h42 := CT_k h41 h34
  have h43 : Imp (S39.1 = 0) (z35.toInt = tV By Nb Sp.2.2.1) := fun z => Imp_m h36.2 (by rw [h38, ← h40]; exact z)
  have h44 : Imp (S39.1 = 0) (Sp.1 = 0 ∧ tK By Nb Sp.2.2.1 = 2 ∧ 0 ≤ tV By Nb Sp.2.2.1 ∧ tV By Nb Sp.2.2.1 ≤ pI (Sp.2.2.2 0) - 1) := fun z => tN_gg (by rw [← h40]; exact z)
  have h45 : S39.2.2.2 = Sp.2.2.2 := by rw [h40]; exact tN_w
  have h46 := KN_fr hP hK h31 (by decide +kernel)
  have h47 : S39.2.2.2 = Sp.2.2.2 := h45.trans (rfl : Sp.2.2.2 = Sp.2.2.2)
  have o48 : OUT σ0 σ29 a := OUT_fr OUT_0 h31 (by decide +kernel)
  have h49 := Imp_m h32.2.2.2.2.2.2.2.1 (by first | exact q_81610a3c5e h26 h20.1 | omega)
  have h50 := Imp_m h32.2.2.2.2.2.2.2.2.1 (by omega)
  refine En_Ps 1 (pc' := 12) (lv' := [(3, .int z35), (0, .ref 3), (1, .ref a), (2, .ref b)]) (st' := []) rfl ?_
  refine En_Ps 1 (pc' := 13) (lv' := [(3, .int z35), (0, .ref 3), (1, .ref a), (2, .ref b)]) (st' := [.ref 3]) rfl ?_
  refine En_ldcS (i := 8) rfl rfl rfl ?_
  refine En_callV rfl rfl rfl rfl rfl rfl rfl rfl tgz_3 (by decide +kernel) rfl (c_71s8x σ29 h30 h41) (by decide) (by decide) (fun v52 σ53 h51 => ?_)
  obtain ⟨h54, h55, z57, rfl, h56⟩ := h51
  have h58 := h56.2.2
  obtain rfl : σ29 = σ53 := Fr_nil h55
  have h59 := h58
  refine En_iEq _ rfl rfl (fun h60 => ?_) (fun h60 => ?_)
  · refine En_Ps 5 (pc' := 32) (lv' := [(4, .int ((Int32.ofInt 0))), (3, .int z35), (0, .ref 3), (1, .ref a), (2, .ref b)]) (st' := [.int ((Int32.ofInt 1)), .int ((Int32.ofInt 0)), .ref 3]) rfl ?_
    refine En_icEq _ (by decide : (Int32.ofInt 0).toInt = 0) (by decide : (Int32.ofInt 1).toInt = 1) rfl (fun hx => by exfalso; have := Imp_m h32.2.2.2.2.2.1 (by omega); have := Imp_m h32.2.2.2.2.2.2.1 (by omega); omega) (fun h61 => ?_)
    refine En_Ps 1 (pc' := 36) (lv' := [(4, .int ((Int32.ofInt 0))), (3, .int z35), (0, .ref 3), (1, .ref a), (2, .ref b)]) (st' := [.ref 3, .ref 3]) rfl ?_
    refine En_ldcS (i := 12) rfl rfl rfl ?_
    refine En_callV rfl rfl rfl rfl rfl rfl rfl rfl tgz_3 (by decide +kernel) rfl (c_71s12x σ29 h30 h41) (by decide) (by decide) (fun v63 σ64 h62 => ?_)
    obtain ⟨h65, h66, z68, rfl, h67⟩ := h62
    have h69 := h67.2.2
    obtain rfl : σ29 = σ64 := Fr_nil h66
    have h70 := h69
    refine En_iEq _ rfl rfl (fun h71 => ?_) (fun h71 => ?_)
    · refine En_Ps 1 (pc' := 49) (lv' := [(4, .int ((Int32.ofInt 0))), (3, .int z35), (0, .ref 3), (1, .ref a), (2, .ref b)]) (st' := [.int ((Int32.ofInt 0)), .ref 3]) rfl ?_
      have := (by decide : ((Int32.ofInt 0)).toInt = 0)
      refine En_callV rfl rfl rfl rfl rfl rfl rfl rfl tgz_3 (by decide +kernel) rfl (c_59x σ29 h30 ((Int32.ofInt 0)) (geI (by decide : (Int32.ofInt 0).toInt = 0) (by decide)) (leI (by decide : (Int32.ofInt 0).toInt = 0) (by decide)) z33 h34 h41) (by decide) (by decide) (fun v73 σ74 h72 => ?_)
      obtain ⟨h75, h76, z78, h79, rfl, h77⟩ := h72
      have h80 := h77.2.2.2.2.2.2
      have h81 := Fr_trans h37 h76 (by decide +kernel)
      have h82 : pss By Nb ((Int32.ofInt 0)).toInt S39 = dD By Nb S39 := dDc (fun zz => by (try have i0 := Imp_m h70 (by omega)); (try have i1 := Imp_m h59 (by omega)); (try have i2 := Imp_m h44 (by omega)); (try have i3 := Imp_m h43 (by omega)); (try have i4 := Imp_m h32.2.2.2.2.2.1 (by omega)); (try have i5 := Imp_m h32.2.2.2.2.2.2.1 (by omega)); omega)
      obtain ⟨S83, h84⟩ : ∃ q : PS, q = dD By Nb S39 := ⟨_, rfl⟩
      have h85 : CT By Nb σ74 S83 := by rw [h84]; exact (CT_eq h80 h82)
      have h86 := CT_k h85 h79
      have h87 : S83.2.2.2 = S39.2.2.2 := by rw [h84]; exact pss_w
      have h88 : Imp (S83.1 = 0) (S39.1 = 0) := fun z => (pss_g (by rw [h82, ← h84]; exact z)).1
      have h89 : Imp (S83.1 = 0) (((Int32.ofInt 0)).toInt = 1) := fun z => (pss_g (by rw [h82, ← h84]; exact z)).2.1
      have h90 := KN_fr hP h46 h76 (by decide +kernel)
      have h91 : S83.2.2.2 = Sp.2.2.2 := h87.trans h47
      have o92 : OUT σ0 σ74 a := OUT_fr o48 h76 (by decide +kernel)
      have h93 := Imp_m h77.2.2.2.2.2.1 (by omega)
      refine En_Ps 1 (pc' := 53) (lv' := [(4, .int ((Int32.ofInt 0))), (3, .int z35), (0, .ref 3), (1, .ref a), (2, .ref b)]) (st' := [.ref 3]) rfl ?_
      refine En_getK (j := 5) h79 rfl rfl rfl tgz_3 (by decide +kernel) ?_
      refine En_iNe _ rfl rfl (fun h94 => ?_) (fun hx => by exfalso; have := Imp_m h32.2.2.2.2.2.1 (by omega); have := Imp_m h32.2.2.2.2.2.2.1 (by omega); omega)
      have h95 : fSaid By Nb ix jx Sp = S83 := by unfold fSaid; (try dsimp only); first | (rw [← h40, ← h84]; first | done | rfl) | (rw [← h40, ← h84]; rw [if_pos (by omega)]; first | done | rfl) | (rw [← h40, ← h84]; rw [if_neg (by omega)]; first | done | rfl) | (rw [← h40, ← h84]; rw [if_neg (by omega), if_pos (by omega)]; first | done | rfl) | (rw [← h40, ← h84]; rw [if_neg (by omega), if_neg (by omega)]; first | done | rfl) | (rw [← h40, ← h84]; rw [if_neg (by omega), if_neg (by omega), if_neg (by omega)]; first | done | rfl)
      exact En_ret (v := none) rfl rfl rfl ⟨h75, h81, z78, h79, rfl, ⟨o92, by first | exact q_1a6ee862c1 h93 | omega, by first | exact q_c733b715bf h77.2.1 | omega, by first | exact q_ccc3bb8fc9 h32.2.2.2.1 h77.2.2.1 | omega, by first | exact q_28bfca2c13 h32.2.2.2.1 h77.2.2.1 | omega, (by rw [h95]; exact ⟨h85, fun z => absurd z (by omega)⟩)⟩⟩
    · refine En_Ps 2 (pc' := 49) (lv' := [(4, .int ((Int32.ofInt 0))), (3, .int z35), (0, .ref 3), (1, .ref a), (2, .ref b)]) (st' := [.int ((Int32.ofInt 1)), .ref 3]) rfl ?_
      have := (by decide : ((Int32.ofInt 1)).toInt = 1)
      refine En_callV rfl rfl rfl rfl rfl rfl rfl rfl tgz_3 (by decide +kernel) rfl (c_59x σ29 h30 ((Int32.ofInt 1)) (geI (by decide : (Int32.ofInt 1).toInt = 1) (by decide)) (leI (by decide : (Int32.ofInt 1).toInt = 1) (by decide)) z33 h34 h41) (by decide) (by decide) (fun v97 σ98 h96 => ?_)
      obtain ⟨h99, h100, z102, h103, rfl, h101⟩ := h96
      have h104 := h101.2.2.2.2.2.2
      have h105 := Fr_trans h37 h100 (by decide +kernel)
      have h106 : pss By Nb ((Int32.ofInt 1)).toInt S39 = dD By Nb S39 := dDc (fun zz => by (try have i0 := Imp_m h70 (by omega)); (try have i1 := Imp_m h59 (by omega)); (try have i2 := Imp_m h44 (by omega)); (try have i3 := Imp_m h43 (by omega)); (try have i4 := Imp_m h32.2.2.2.2.2.1 (by omega)); (try have i5 := Imp_m h32.2.2.2.2.2.2.1 (by omega)); omega)
      obtain ⟨S107, h108⟩ : ∃ q : PS, q = dD By Nb S39 := ⟨_, rfl⟩
      have h109 : CT By Nb σ98 S107 := by rw [h108]; exact (CT_eq h104 h106)
      have h110 := CT_k h109 h103
      have h111 : S107.2.2.2 = S39.2.2.2 := by rw [h108]; exact pss_w
      have h112 : Imp (S107.1 = 0) (S39.1 = 0) := fun z => (pss_g (by rw [h106, ← h108]; exact z)).1
      have h113 : Imp (S107.1 = 0) (((Int32.ofInt 1)).toInt = 1) := fun z => (pss_g (by rw [h106, ← h108]; exact z)).2.1
      have h114 := KN_fr hP h46 h100 (by decide +kernel)
      have h115 : S107.2.2.2 = Sp.2.2.2 := h111.trans h47
      have o116 : OUT σ0 σ98 a := OUT_fr o48 h100 (by decide +kernel)
      have h117 := Imp_m h101.2.2.2.1 (by omega)
      refine En_Ps 1 (pc' := 53) (lv' := [(4, .int ((Int32.ofInt 0))), (3, .int z35), (0, .ref 3), (1, .ref a), (2, .ref b)]) (st' := [.ref 3]) rfl ?_
      refine En_getK (j := 5) h103 rfl rfl rfl tgz_3 (by decide +kernel) ?_
      refine En_iNe _ rfl rfl (fun h118 => ?_) (fun h118 => ?_)
      · have h119 := Imp_m h32.2.2.2.2.2.2.1 (by first | exact q_a0d17ed560 h117.1 h118 h101.1 | omega)
        have h120 : fSaid By Nb ix jx Sp = S107 := by unfold fSaid; (try dsimp only); first | (rw [← h40, ← h108]; first | done | rfl) | (rw [← h40, ← h108]; rw [if_pos (by omega)]; first | done | rfl) | (rw [← h40, ← h108]; rw [if_neg (by omega)]; first | done | rfl) | (rw [← h40, ← h108]; rw [if_neg (by omega), if_pos (by omega)]; first | done | rfl) | (rw [← h40, ← h108]; rw [if_neg (by omega), if_neg (by omega)]; first | done | rfl) | (rw [← h40, ← h108]; rw [if_neg (by omega), if_neg (by omega), if_neg (by omega)]; first | done | rfl)
        exact En_ret (v := none) rfl rfl rfl ⟨h99, h105, z102, h103, rfl, ⟨o116, by first | exact q_bc42505ae9 h118 h101.1 | omega, by first | exact q_c733b715bf h101.2.1 | omega, by first | exact q_ccc3bb8fc9 h32.2.2.2.1 h101.2.2.1 | omega, by first | exact q_28bfca2c13 h32.2.2.2.1 h101.2.2.1 | omega, (by rw [h120]; exact ⟨h109, fun z => absurd z (by omega)⟩)⟩⟩
      · have h121 := Imp_m h32.2.2.2.2.2.1 (by first | exact q_31d5f588b1 h101.2.2.1 h118 | omega)
        try have h122 := Imp_m h113 (by omega)
        try have h123 := Imp_m h112 (by omega)
        try have h124 := Imp_m h70 (by omega)
        try have h125 := Imp_m h59 (by omega)
        try have h126 := Imp_m h44 (by omega)
        try have h127 := Imp_m h43 (by omega)
        refine En_Ps 3 (pc' := 63) (lv' := [(4, .int ((Int32.ofInt 0))), (3, .int z35), (0, .ref 3), (1, .ref a), (2, .ref b)]) (st' := [.int ((Int32.ofInt 0)), .int z35, .ref b]) rfl ?_
        have := (by decide : ((Int32.ofInt 0)).toInt = 0)
        refine En_callV rfl rfl rfl rfl rfl rfl rfl rfl hb (by decide +kernel) rfl (c_31x σ98 h99 b hb z35 ((Int32.ofInt 0)) (geI rfl (by omega)) (leI rfl (by first | exact q_e1ef427644 h49 h26 h20.2.1 | omega)) (geI (by decide : (Int32.ofInt 0).toInt = 0) (by decide)) (leI (by decide : (Int32.ofInt 0).toInt = 0) (by decide)) a5 ha5 ((h100 _ _ (inW hb (by decide +kernel))).trans ((h31 _ _ (inW hb (by decide +kernel))).trans h4)) a7 ha7 ((h100 _ _ (inW hb (by decide +kernel))).trans ((h31 _ _ (inW hb (by decide +kernel))).trans h6)) z9 ((h100 _ _ (inW hb (by decide +kernel))).trans ((h31 _ _ (inW hb (by decide +kernel))).trans h8)) (by omega)) (by decide) (by decide) (fun v129 σ130 h128 => ?_)
        obtain ⟨h131, h132, z134, h135, rfl, h133⟩ := h128
        have h136 := h133.2.2.2.2
        have h137 := Fr_trans h105 h132 (by decide +kernel)
        obtain ⟨S138, h139⟩ : ∃ q : PS, q = wst (wst (wst S107 ix (tV By Nb Sp.2.2.1)) (ix + 1) (iW By Nb 8 S39)) jx (S107.2.2.2 jx + 1) := ⟨_, rfl⟩
        have h140 : CT By Nb σ130 S138 := by rw [h139]; exact CT_wst (CT_wst (CT_wst (CT_fr h109 h132 (by decide +kernel))))
        have h141 : KN σ130 a (uPd (uPd (uPd Sp.2.2.2 ix (tV By Nb Sp.2.2.1)) (ix + 1) (iW By Nb 8 S39)) jx (Sp.2.2.2 jx + 1)) (fun t => (((act Sp.2.2.2 t ∨ t = ix) ∨ t = ix + 1) ∨ t = jx)) := KN_w (KN_add (i := ix) (i' := ix + 1) (j := jx) h114 h136 L7 rfl L8 L9 L10 L1 L2 (by rw [h12]; exact L3) (by rw [L4]; exact h14) (by rw [h13]; exact L5) (by rw [L6]; exact h14) (by omega)) (uPd3_cg (by omega) (by omega) (by omega))
        have h142 : S138.2.2.2 = (uPd (uPd (uPd Sp.2.2.2 ix (tV By Nb Sp.2.2.1)) (ix + 1) (iW By Nb 8 S39)) jx (Sp.2.2.2 jx + 1)) := by rw [h139]; show uPd (uPd (uPd S107.2.2.2 _ _) _ _) _ (S107.2.2.2 jx + 1) = _; rw [h115]
        have h143 : S138.1 = S107.1 := by rw [h139]; rfl
        have o144 : OUT σ0 σ130 a := OUT_add o116 h136 (by omega) (by omega) (by omega)
        have h145 : fSaid By Nb ix jx Sp = S138 := by unfold fSaid; (try dsimp only); first | (rw [← h40, ← h108, ← h139]; first | done | rfl) | (rw [← h40, ← h108, ← h139]; rw [if_pos (by omega)]; first | done | rfl) | (rw [← h40, ← h108, ← h139]; rw [if_neg (by omega)]; first | done | rfl) | (rw [← h40, ← h108, ← h139]; rw [if_neg (by omega), if_pos (by omega)]; first | done | rfl) | (rw [← h40, ← h108, ← h139]; rw [if_neg (by omega), if_neg (by omega)]; first | done | rfl) | (rw [← h40, ← h108, ← h139]; rw [if_neg (by omega), if_neg (by omega), if_neg (by omega)]; first | done | rfl)
        exact En_ret (v := none) rfl rfl rfl ⟨h131, h137, z102, ((h132 _ _ (inW tgz_3 (by decide +kernel))).trans h103), rfl, ⟨o144, by first | exact q_a555021d16 h101.1 | omega, by first | exact q_bd3fa30443 h118 | omega, by first | exact q_ccc3bb8fc9 h32.2.2.2.1 h101.2.2.1 | omega, by first | exact q_28bfca2c13 h32.2.2.2.1 h101.2.2.1 | omega, (by rw [h145]; exact ⟨h140, fun zz => by rw [h142]; exact h141⟩)⟩⟩
  · refine En_Ps 6 (pc' := 32) (lv' := [(4, .int ((Int32.ofInt 1))), (3, .int z35), (0, .ref 3), (1, .ref a), (2, .ref b)]) (st' := [.int ((Int32.ofInt 1)), .int ((Int32.ofInt 1)), .ref 3]) rfl ?_
    refine En_icEq _ (by decide : (Int32.ofInt 1).toInt = 1) (by decide : (Int32.ofInt 1).toInt = 1) rfl (fun h146 => ?_) (fun hx => by exfalso; have := Imp_m h32.2.2.2.2.2.1 (by omega); have := Imp_m h32.2.2.2.2.2.2.1 (by omega); omega)
    refine En_Ps 2 (pc' := 49) (lv' := [(4, .int ((Int32.ofInt 1))), (3, .int z35), (0, .ref 3), (1, .ref a), (2, .ref b)]) (st' := [.int ((Int32.ofInt 1)), .ref 3]) rfl ?_
    have := (by decide : ((Int32.ofInt 1)).toInt = 1)
    refine En_callV rfl rfl rfl rfl rfl rfl rfl rfl tgz_3 (by decide +kernel) rfl (c_59x σ29 h30 ((Int32.ofInt 1)) (geI (by decide : (Int32.ofInt 1).toInt = 1) (by decide)) (leI (by decide : (Int32.ofInt 1).toInt = 1) (by decide)) z33 h34 h41) (by decide) (by decide) (fun v148 σ149 h147 => ?_)
    obtain ⟨h150, h151, z153, h154, rfl, h152⟩ := h147
    have h155 := h152.2.2.2.2.2.2
    have h156 := Fr_trans h37 h151 (by decide +kernel)
    have h157 : pss By Nb ((Int32.ofInt 1)).toInt S39 = dD By Nb S39 := dDc (fun zz => by (try have i0 := Imp_m h59 (by omega)); (try have i1 := Imp_m h44 (by omega)); (try have i2 := Imp_m h43 (by omega)); (try have i3 := Imp_m h32.2.2.2.2.2.1 (by omega)); (try have i4 := Imp_m h32.2.2.2.2.2.2.1 (by omega)); omega)
    obtain ⟨S158, h159⟩ : ∃ q : PS, q = dD By Nb S39 := ⟨_, rfl⟩
    have h160 : CT By Nb σ149 S158 := by rw [h159]; exact (CT_eq h155 h157)
    have h161 := CT_k h160 h154
    have h162 : S158.2.2.2 = S39.2.2.2 := by rw [h159]; exact pss_w
    have h163 : Imp (S158.1 = 0) (S39.1 = 0) := fun z => (pss_g (by rw [h157, ← h159]; exact z)).1
    have h164 : Imp (S158.1 = 0) (((Int32.ofInt 1)).toInt = 1) := fun z => (pss_g (by rw [h157, ← h159]; exact z)).2.1
    have h165 := KN_fr hP h46 h151 (by decide +kernel)
    have h166 : S158.2.2.2 = Sp.2.2.2 := h162.trans h47
    have o167 : OUT σ0 σ149 a := OUT_fr o48 h151 (by decide +kernel)
    have h168 := Imp_m h152.2.2.2.1 (by omega)
    refine En_Ps 1 (pc' := 53) (lv' := [(4, .int ((Int32.ofInt 1))), (3, .int z35), (0, .ref 3), (1, .ref a), (2, .ref b)]) (st' := [.ref 3]) rfl ?_
    refine En_getK (j := 5) h154 rfl rfl rfl tgz_3 (by decide +kernel) ?_
    refine En_iNe _ rfl rfl (fun h169 => ?_) (fun h169 => ?_)
    · have h170 := Imp_m h32.2.2.2.2.2.2.1 (by first | exact q_a0d17ed560 h168.1 h169 h152.1 | omega)
      have h171 : fSaid By Nb ix jx Sp = S158 := by unfold fSaid; (try dsimp only); first | (rw [← h40, ← h159]; first | done | rfl) | (rw [← h40, ← h159]; rw [if_pos (by omega)]; first | done | rfl) | (rw [← h40, ← h159]; rw [if_neg (by omega)]; first | done | rfl) | (rw [← h40, ← h159]; rw [if_neg (by omega), if_pos (by omega)]; first | done | rfl) | (rw [← h40, ← h159]; rw [if_neg (by omega), if_neg (by omega)]; first | done | rfl) | (rw [← h40, ← h159]; rw [if_neg (by omega), if_neg (by omega), if_neg (by omega)]; first | done | rfl)
      exact En_ret (v := none) rfl rfl rfl ⟨h150, h156, z153, h154, rfl, ⟨o167, by first | exact q_bc42505ae9 h169 h152.1 | omega, by first | exact q_c733b715bf h152.2.1 | omega, by first | exact q_ccc3bb8fc9 h32.2.2.2.1 h152.2.2.1 | omega, by first | exact q_28bfca2c13 h32.2.2.2.1 h152.2.2.1 | omega, (by rw [h171]; exact ⟨h160, fun z => absurd z (by omega)⟩)⟩⟩
    · have h172 := Imp_m h32.2.2.2.2.2.1 (by first | exact q_31d5f588b1 h152.2.2.1 h169 | omega)
      try have h173 := Imp_m h164 (by omega)
      try have h174 := Imp_m h163 (by omega)
      try have h175 := Imp_m h59 (by omega)
      try have h176 := Imp_m h44 (by omega)
      try have h177 := Imp_m h43 (by omega)
      refine En_Ps 3 (pc' := 63) (lv' := [(4, .int ((Int32.ofInt 1))), (3, .int z35), (0, .ref 3), (1, .ref a), (2, .ref b)]) (st' := [.int ((Int32.ofInt 1)), .int z35, .ref b]) rfl ?_
      have := (by decide : ((Int32.ofInt 1)).toInt = 1)
      refine En_callV rfl rfl rfl rfl rfl rfl rfl rfl hb (by decide +kernel) rfl (c_31x σ149 h150 b hb z35 ((Int32.ofInt 1)) (geI rfl (by omega)) (leI rfl (by first | exact q_e1ef427644 h49 h26 h20.2.1 | omega)) (geI (by decide : (Int32.ofInt 1).toInt = 1) (by decide)) (leI (by decide : (Int32.ofInt 1).toInt = 1) (by decide)) a5 ha5 ((h151 _ _ (inW hb (by decide +kernel))).trans ((h31 _ _ (inW hb (by decide +kernel))).trans h4)) a7 ha7 ((h151 _ _ (inW hb (by decide +kernel))).trans ((h31 _ _ (inW hb (by decide +kernel))).trans h6)) z9 ((h151 _ _ (inW hb (by decide +kernel))).trans ((h31 _ _ (inW hb (by decide +kernel))).trans h8)) (by omega)) (by decide) (by decide) (fun v179 σ180 h178 => ?_)
      obtain ⟨h181, h182, z184, h185, rfl, h183⟩ := h178
      have h186 := h183.2.2.2.2
      have h187 := Fr_trans h156 h182 (by decide +kernel)
      obtain ⟨S188, h189⟩ : ∃ q : PS, q = wst (wst (wst S158 ix (tV By Nb Sp.2.2.1)) (ix + 1) (iW By Nb 8 S39)) jx (S158.2.2.2 jx + 1) := ⟨_, rfl⟩
      have h190 : CT By Nb σ180 S188 := by rw [h189]; exact CT_wst (CT_wst (CT_wst (CT_fr h160 h182 (by decide +kernel))))
      have h191 : KN σ180 a (uPd (uPd (uPd Sp.2.2.2 ix (tV By Nb Sp.2.2.1)) (ix + 1) (iW By Nb 8 S39)) jx (Sp.2.2.2 jx + 1)) (fun t => (((act Sp.2.2.2 t ∨ t = ix) ∨ t = ix + 1) ∨ t = jx)) := KN_w (KN_add (i := ix) (i' := ix + 1) (j := jx) h165 h186 L7 rfl L8 L9 L10 L1 L2 (by rw [h12]; exact L3) (by rw [L4]; exact h14) (by rw [h13]; exact L5) (by rw [L6]; exact h14) (by omega)) (uPd3_cg (by omega) (by omega) (by omega))
      have h192 : S188.2.2.2 = (uPd (uPd (uPd Sp.2.2.2 ix (tV By Nb Sp.2.2.1)) (ix + 1) (iW By Nb 8 S39)) jx (Sp.2.2.2 jx + 1)) := by rw [h189]; show uPd (uPd (uPd S158.2.2.2 _ _) _ _) _ (S158.2.2.2 jx + 1) = _; rw [h166]
      have h193 : S188.1 = S158.1 := by rw [h189]; rfl
      have o194 : OUT σ0 σ180 a := OUT_add o167 h186 (by omega) (by omega) (by omega)
      have h195 : fSaid By Nb ix jx Sp = S188 := by unfold fSaid; (try dsimp only); first | (rw [← h40, ← h159, ← h189]; first | done | rfl) | (rw [← h40, ← h159, ← h189]; rw [if_pos (by omega)]; first | done | rfl) | (rw [← h40, ← h159, ← h189]; rw [if_neg (by omega)]; first | done | rfl) | (rw [← h40, ← h159, ← h189]; rw [if_neg (by omega), if_pos (by omega)]; first | done | rfl) | (rw [← h40, ← h159, ← h189]; rw [if_neg (by omega), if_neg (by omega)]; first | done | rfl) | (rw [← h40, ← h159, ← h189]; rw [if_neg (by omega), if_neg (by omega), if_neg (by omega)]; first | done | rfl)
      exact En_ret (v := none) rfl rfl rfl ⟨h181, h187, z153, ((h182 _ _ (inW tgz_3 (by decide +kernel))).trans h154), rfl, ⟨o194, by first | exact q_a555021d16 h152.1 | omega, by first | exact q_bd3fa30443 h169 | omega, by first | exact q_ccc3bb8fc9 h32.2.2.2.1 h152.2.2.1 | omega, by first | exact q_28bfca2c13 h32.2.2.2.1 h152.2.2.1 | omega, (by rw [h195]; exact ⟨h190, fun zz => by rw [h192]; exact h191⟩)⟩⟩
/-- DoorSchool$Reader.readLesson(LDoorSchool$Plan;)V -/
abbrev P_67x (σ0 : SG) (By : Int → Int) (Nb : Int) (Sp : PS) (a : Nat) (f : Int32) (sg : Int32) : PO := fun v σ => WT σ ∧ Fr [(3, 1), (3, 2), (3, 3), (3, 4), (3, 5), (3, 6), (20, 2), (21, 0), (22, 0)] σ0 σ ∧ ∃ f1 : Int32, (σ 3)[5]? = some (.int f1) ∧ v = none ∧ OUT σ0 σ a ∧ -f1.toInt ≤ 0 ∧ f1.toInt - 3 ≤ 0 ∧ -f1.toInt + f.toInt ≤ 0 ∧ f.toInt - f1.toInt ≤ 0 ∧ (CT By Nb σ (fLesson By Nb Sp) ∧ ((fLesson By Nb Sp).1 = 0 → KN σ a (fLesson By Nb Sp).2.2.2 (act (fLesson By Nb Sp).2.2.2)))
set_option maxRecDepth 10000 in
set_option maxHeartbeats 4000000 in
theorem c_67x {By : Int → Int} {Nb : Int} {Sp : PS} (σ0 : SG) (hσ0 : WT σ0) (a : Nat) (ha : TG a = 18) (f : Int32) (h_f : (σ0 3)[5]? = some (.int f)) (sg : Int32) (h_sg : (σ0 a)[1]? = some (.int sg)) (hp0 : -sg.toInt ≤ 0) (hC : CT By Nb σ0 Sp) (hg : Sp.1 = 0) (hP : PLA a) (hX : FXP σ0 a) (hK : KN σ0 a Sp.2.2.2 (act Sp.2.2.2)) : En 6 136 none mr_67 (P_67x σ0 By Nb Sp a f sg) 0 [(0, .ref 3), (1, .ref a)] [] σ0 := by
  obtain ⟨hl_f, hu_f⟩ := WT_int hσ0 (g := 3) (by decide +kernel) (by decide +kernel) (l := 0) (u := 3) (by decide +kernel) h_f
  obtain ⟨hl_sg, hu_sg⟩ := WT_int hσ0 (g := 18) ha (by decide +kernel) (l := (-1)) (u := 4) (by decide +kernel) h_sg
  have hF0 : Fr [(3, 1), (3, 2), (3, 3), (3, 4), (3, 5), (3, 6), (20, 2), (21, 0), (22, 0)] σ0 σ0 := Fr_rfl
  have h1 := CT_k hC h_f
  obtain ⟨z3, h2, h4, h5⟩ := WT_peekI hσ0 ha (by decide +kernel : FT 18 3 = (0, 0, 4)) (by decide +kernel)
  have h6 : Sp.2.2.2 2 = z3.toInt := KN_v hK (Or.inl (by decide)) (by decide) (by decide) (by rw [lcO_lt (by decide) (by decide), Nat.add_zero]) rfl h2
  refine En_Ps 1 (pc' := 1) (lv' := [(0, .ref 3), (1, .ref a)]) (st' := [.ref 3]) rfl ?_
  obtain ⟨z8, h7, h9, h10⟩ := WT_peekI hσ0 tgz_3 (by decide +kernel : FT 3 3 = (0, 0, 1600)) (by decide +kernel)
  refine En_callV rfl rfl rfl rfl rfl rfl rfl rfl tgz_3 (by decide +kernel) rfl (c_72x σ0 hσ0 z8 h7 hC.1 (CT_at hC (by omega) h7)) (by decide) (by decide) (fun v12 σ13 h11 => ?_)
  obtain ⟨h14, h15, rfl, h16⟩ := h11
  have h17 := h16
  have h18 := Fr_trans hF0 h15 (by decide +kernel)
  obtain ⟨S19, h20⟩ : ∃ q : PS, q = adv By Nb Sp := ⟨_, rfl⟩
  have h21 : CT By Nb σ13 S19 := by rw [h20]; exact (CT_adv hC (by omega) h7 h15 (by decide +kernel) h17.2)
  have h22 := CT_k h21 ((h15 _ _ (inW tgz_3 (by decide +kernel))).trans h_f)
  have h23 : S19.2.2.2 = Sp.2.2.2 := by rw [h20]; exact adv_w
  have h24 : S19.1 = Sp.1 := by rw [h20]; exact adv_1
  have h25 := KN_fr hP hK h15 (by decide +kernel)
  have h26 : S19.2.2.2 = Sp.2.2.2 := h23.trans (rfl : Sp.2.2.2 = Sp.2.2.2)
  have o27 : OUT σ0 σ13 a := OUT_fr OUT_0 h15 (by decide +kernel)
  refine En_Ps 3 (pc' := 7) (lv' := [(0, .ref 3), (1, .ref a)]) (st' := [.ref a, .int ((Int32.ofInt 0)), .ref 3]) rfl ?_
  refine En_getK (j := 3) ((h15 _ _ (inW ha (by decide +kernel))).trans h2) rfl rfl rfl ha (by decide +kernel) ?_
  refine En_Ps 2 (pc' := 12) (lv' := [(0, .ref 3), (1, .ref a)]) (st' := [.int ((z3 - ((Int32.ofInt 1)))), .int ((Int32.ofInt 0)), .ref 3]) rfl ?_
  refine En_top (subI rfl (by decide : (Int32.ofInt 1).toInt = 1) (by first | exact q_93f9478bef h4 | omega) (by first | exact q_cc3cee8591 h5 | omega)) (fun z28 h29 => ?_)
  have := (by decide : ((Int32.ofInt 0)).toInt = 0)
  refine En_callV rfl rfl rfl rfl rfl rfl rfl rfl tgz_3 (by decide +kernel) rfl (c_58x σ13 h14 ((Int32.ofInt 0)) z28 f ((h15 _ _ (inW tgz_3 (by decide +kernel))).trans h_f) h21) (by decide) (by decide) (fun v31 σ32 h30 => ?_)
  obtain ⟨h33, h34, z36, h37, z38, rfl, h35⟩ := h30
  have h39 := h35.2.2.2.2.2.2.2.2.2
  have h40 := Fr_trans h18 h34 (by decide +kernel)
  have h41 : nH By Nb ((Int32.ofInt 0)).toInt z28.toInt S19 = nH By Nb (0) (Sp.2.2.2 2 - 1) S19 := nH_cg2 (fun zz => by omega) (fun zz => by omega)
  obtain ⟨S42, h43⟩ : ∃ q : PS, q = nH By Nb (0) (Sp.2.2.2 2 - 1) S19 := ⟨_, rfl⟩
  have h44 : CT By Nb σ32 S42 := by rw [h43]; exact (CT_eq h39.1 h41)
  have h45 := CT_k h44 h37
  have h46 : Imp (S42.1 = 0) (z38.toInt = tV By Nb S19.2.2.1) := fun z => Imp_m h39.2 (by rw [h41, ← h43]; exact z)
  have h47 : Imp (S42.1 = 0) (S19.1 = 0 ∧ tK By Nb S19.2.2.1 = 2 ∧ 0 ≤ tV By Nb S19.2.2.1 ∧ tV By Nb S19.2.2.1 ≤ Sp.2.2.2 2 - 1) := fun z => nH_gg (by rw [← h43]; exact z)
  have h48 : S42.2.2.2 = S19.2.2.2 := by rw [h43]; exact nH_w
  have h49 := KN_fr hP h25 h34 (by decide +kernel)
  have h50 : S42.2.2.2 = Sp.2.2.2 := h48.trans h26
  have o51 : OUT σ0 σ32 a := OUT_fr o27 h34 (by decide +kernel)
  have h52 := Imp_m h35.2.2.2.2.2.2.2.1 (by first | exact q_7d8964ea46 h29 h4 | omega)
  have h53 := Imp_m h35.2.2.2.2.2.2.2.2.1 (by omega)
  refine En_Ps 2 (pc' := 17) (lv' := [(2, .int z38), (0, .ref 3), (1, .ref a)]) (st' := [.ref 3]) rfl ?_
  refine En_getK (j := 5) h37 rfl rfl rfl tgz_3 (by decide +kernel) ?_
  refine En_iEq _ rfl rfl (fun h54 => ?_) (fun h54 => ?_)
  · have h55 := Imp_m h35.2.2.2.2.2.1 (by first | exact q_c5d285f1b9 h54 | omega)
    try have h56 := Imp_m h47 (by omega)
    try have h57 := Imp_m h46 (by omega)
    refine En_Ps 1 (pc' := 25) (lv' := [(2, .int z38), (0, .ref 3), (1, .ref a)]) (st' := [.ref a]) rfl ?_
    refine En_getR (j := 4) (g' := 19) (u := 0) rfl rfl rfl ha (by decide +kernel) h33 (by decide +kernel) (fun a59 h58 ha59 => ?_)
    refine En_Ps 1 (pc' := 29) (lv' := [(2, .int z38), (0, .ref 3), (1, .ref a)]) (st' := [.int z38, .ref a59]) rfl ?_
    refine En_aald (g' := 28) (u := 0) rfl rfl ha59 (by decide +kernel) h33 (by omega) (lnI (by decide +kernel : LN _ = 4) (by first | exact q_9af1b6be4e h52 h29 h5 | omega)) (FTsgl (by decide +kernel)) (fun a61 h60 ha61 => ?_)
    have h62 := DRc (d := z38.toInt) (FXP_fr hP hX h40 (by decide +kernel)) h58 h60 (by omega) (by omega)
    have h63 := lc_d (d := z38.toInt) (by omega) (by omega)
    refine En_getR (j := 0) (g' := 20) (u := 0) rfl rfl rfl ha61 (by decide +kernel) h33 (by decide +kernel) (fun a65 h64 ha65 => ?_)
    have h66 := DLc (d := z38.toInt) (FXP_fr hP hX h40 (by decide +kernel)) h62 h64 (by omega) (by omega)
    refine En_Ps 2 (pc' := 35) (lv' := [(3, .ref a65), (2, .int z38), (0, .ref 3), (1, .ref a)]) (st' := [.ref a65]) rfl ?_
    refine En_getI (j := 2) (l := 0) (u := 13) rfl rfl rfl ha65 (by decide +kernel) h33 (by decide +kernel) (fun z68 h67 h69 h70 => ?_)
    have h71 : Sp.2.2.2 (12 + 4 * z38.toInt) = z68.toInt := KN_v h49 (Or.inr (Or.inl ⟨by omega, by omega, by omega⟩)) (by omega) (by omega) (by omega) (by omega) h67
    have h72 : z38.toInt = (tV By Nb S19.2.2.1) := by omega
    rw [h72] at h71
    refine En_Ps 1 (pc' := 40) (lv' := [(3, .ref a65), (2, .int z38), (0, .ref 3), (1, .ref a)]) (st' := [.int (((Int8.ofInt 12).toInt32)), .int z68]) rfl ?_
    refine En_icLt _ rfl (by decide : ((Int8.ofInt 12).toInt32).toInt = 12) rfl (fun h73 => ?_) (fun h73 => ?_)
    · refine En_Ps 1 (pc' := 50) (lv' := [(3, .ref a65), (2, .int z38), (0, .ref 3), (1, .ref a)]) (st' := [.ref 3]) rfl ?_
      obtain ⟨z75, h74, h76, h77⟩ := WT_peekI h33 tgz_3 (by decide +kernel : FT 3 3 = (0, 0, 1600)) (by decide +kernel)
      refine En_callV rfl rfl rfl rfl rfl rfl rfl rfl tgz_3 (by decide +kernel) rfl (c_72x σ32 h33 z75 h74 h44.1 (CT_at h44 (by omega) h74)) (by decide) (by decide) (fun v79 σ80 h78 => ?_)
      obtain ⟨h81, h82, rfl, h83⟩ := h78
      have h84 := h83
      have h85 := Fr_trans h40 h82 (by decide +kernel)
      obtain ⟨S86, h87⟩ : ∃ q : PS, q = adv By Nb S42 := ⟨_, rfl⟩
      have h88 : CT By Nb σ80 S86 := by rw [h87]; exact (CT_adv h44 (by omega) h74 h82 (by decide +kernel) h84.2)
      have h89 := CT_k h88 ((h82 _ _ (inW tgz_3 (by decide +kernel))).trans h37)
      have h90 : S86.2.2.2 = S42.2.2.2 := by rw [h87]; exact adv_w
      have h91 : S86.1 = S42.1 := by rw [h87]; exact adv_1
      have h92 := KN_fr hP h49 h82 (by decide +kernel)
      have h93 : S86.2.2.2 = Sp.2.2.2 := h90.trans h50
      have o94 : OUT σ0 σ80 a := OUT_fr o51 h82 (by decide +kernel)
      refine En_Ps 3 (pc' := 56) (lv' := [(3, .ref a65), (2, .int z38), (0, .ref 3), (1, .ref a)]) (st' := [.ref a65, .ref a, .ref 3]) rfl ?_
      refine En_callV rfl rfl rfl rfl rfl rfl rfl rfl tgz_3 (by decide +kernel) rfl (c_69x σ80 h81 a ha a65 ha65 z36 ((h82 _ _ (inW tgz_3 (by decide +kernel))).trans h37) sg ((h82 _ _ (inW ha (by decide +kernel))).trans ((h34 _ _ (inW ha (by decide +kernel))).trans ((h15 _ _ (inW ha (by decide +kernel))).trans h_sg))) (by first | exact q_a555021d16 hp0 | omega) h88 (by omega) hP (FXP_fr hP hX h85 (by decide +kernel)) (by rw [h93]; exact h92) (show LSN σ80 a a65 S86.2.2.2 (26 + 24 * (tV By Nb S19.2.2.1) + 2 * Sp.2.2.2 (12 + 4 * (tV By Nb S19.2.2.1))) (12 + 4 * (tV By Nb S19.2.2.1)) from by rw [h93]; exact LSN_d (FXP_fr hP hX h85 (by decide +kernel)) (by omega) (by omega) (by omega) (by rw [← h72]; exact h66) rfl (by omega) (by omega))) (by decide) (by decide) (fun v96 σ97 h95 => ?_)
      obtain ⟨h98, h99, z101, h102, rfl, h100⟩ := h95
      have h103 := h100.2.2.2.2.2
      have h104 := Fr_trans h85 h99 (by decide +kernel)
      obtain ⟨S105, h106⟩ : ∃ q : PS, q = fSaid By Nb (26 + 24 * (tV By Nb S19.2.2.1) + 2 * Sp.2.2.2 (12 + 4 * (tV By Nb S19.2.2.1))) (12 + 4 * (tV By Nb S19.2.2.1)) S86 := ⟨_, rfl⟩
      have h107 : CT By Nb σ97 S105 := by rw [h106]; exact h103.1
      have h108 := CT_k h107 h102
      have o109 : OUT σ0 σ97 a := OUT_tr o94 h100.1
      have h110 : fLesson By Nb Sp = S105 := by unfold fLesson; (try dsimp only); first | (rw [← h20, ← h43, ← h87, ← h106]; first | done | rfl) | (rw [← h20, ← h43, ← h87, ← h106]; rw [if_pos (by omega)]; first | done | rfl) | (rw [← h20, ← h43, ← h87, ← h106]; rw [if_neg (by omega)]; first | done | rfl) | (rw [← h20, ← h43, ← h87, ← h106]; rw [if_neg (by omega), if_pos (by omega)]; first | done | rfl) | (rw [← h20, ← h43, ← h87, ← h106]; rw [if_neg (by omega), if_neg (by omega)]; first | done | rfl) | (rw [← h20, ← h43, ← h87, ← h106]; rw [if_neg (by omega), if_neg (by omega), if_neg (by omega)]; first | done | rfl)
      exact En_ret (v := none) rfl rfl rfl ⟨h98, h104, z101, h102, rfl, ⟨o109, by first | exact q_a555021d16 h100.2.1 | omega, by first | exact q_c733b715bf h100.2.2.1 | omega, by first | exact q_ccc3bb8fc9 h35.2.2.2.1 h100.2.2.2.1 | omega, by first | exact q_28bfca2c13 h35.2.2.2.1 h100.2.2.2.1 | omega, (by rw [h110]; exact ⟨h107, fun zz => by exact (by rw [h106] at zz ⊢; exact KN_les (d := (tV By Nb S19.2.2.1)) zz (h103.2 zz) (by omega) (by omega) rfl rfl (by rw [h93]) (by omega))⟩)⟩⟩
    · refine En_Ps 2 (pc' := 45) (lv' := [(3, .ref a65), (2, .int z38), (0, .ref 3), (1, .ref a)]) (st' := [.int ((Int32.ofInt 3)), .ref 3]) rfl ?_
      have := (by decide : ((Int32.ofInt 3)).toInt = 3)
      refine En_callV rfl rfl rfl rfl rfl rfl rfl rfl tgz_3 (by decide +kernel) rfl (c_54x σ32 h33 ((Int32.ofInt 3)) (geI (by decide : (Int32.ofInt 3).toInt = 3) (by decide)) (leI (by decide : (Int32.ofInt 3).toInt = 3) (by decide)) z36 h37 h44) (by decide) (by decide) (fun v112 σ113 h111 => ?_)
      obtain ⟨h114, h115, z117, h118, rfl, h116⟩ := h111
      have h119 := h116.2.2.2.2.2
      have h120 := Fr_trans h40 h115 (by decide +kernel)
      obtain ⟨S121, h122⟩ : ∃ q : PS, q = err By Nb 3 S42 := ⟨_, rfl⟩
      have h123 : CT By Nb σ113 S121 := by rw [h122]; exact (CT_eq h119 (err_cg (by omega)))
      have h124 := CT_k h123 h118
      have h125 : S121.2.2.2 = S42.2.2.2 := by rw [h122]; exact err_w
      have h126 := KN_fr hP h49 h115 (by decide +kernel)
      have h127 : S121.2.2.2 = Sp.2.2.2 := h125.trans h50
      have o128 : OUT σ0 σ113 a := OUT_fr o51 h115 (by decide +kernel)
      have h129 := Imp_m h116.2.2.2.1 (by first | exact q_c5d285f1b9 h54 | omega)
      have h130 : fLesson By Nb Sp = S121 := by unfold fLesson; (try dsimp only); first | (rw [← h20, ← h43, ← h122]; first | done | rfl) | (rw [← h20, ← h43, ← h122]; rw [if_pos (by omega)]; first | done | rfl) | (rw [← h20, ← h43, ← h122]; rw [if_neg (by omega)]; first | done | rfl) | (rw [← h20, ← h43, ← h122]; rw [if_neg (by omega), if_pos (by omega)]; first | done | rfl) | (rw [← h20, ← h43, ← h122]; rw [if_neg (by omega), if_neg (by omega)]; first | done | rfl) | (rw [← h20, ← h43, ← h122]; rw [if_neg (by omega), if_neg (by omega), if_neg (by omega)]; first | done | rfl)
      exact En_ret (v := none) rfl rfl rfl ⟨h114, h120, z117, h118, rfl, ⟨o128, by first | exact q_1a6ee862c1 h116.1 | omega, by first | exact q_c733b715bf h116.2.1 | omega, by first | exact q_ccc3bb8fc9 h35.2.2.2.1 h116.2.2.1 | omega, by first | exact q_28bfca2c13 h35.2.2.2.1 h116.2.2.1 | omega, (by rw [h130]; exact ⟨h123, fun z => absurd z (by omega)⟩)⟩⟩
  · have h131 := Imp_m h35.2.2.2.2.2.2.1 (by first | exact q_e3350da514 h54 h35.2.1 | omega)
    have h132 : fLesson By Nb Sp = S42 := by unfold fLesson; (try dsimp only); first | (rw [← h20, ← h43]; first | done | rfl) | (rw [← h20, ← h43]; rw [if_pos (by omega)]; first | done | rfl) | (rw [← h20, ← h43]; rw [if_neg (by omega)]; first | done | rfl) | (rw [← h20, ← h43]; rw [if_neg (by omega), if_pos (by omega)]; first | done | rfl) | (rw [← h20, ← h43]; rw [if_neg (by omega), if_neg (by omega)]; first | done | rfl) | (rw [← h20, ← h43]; rw [if_neg (by omega), if_neg (by omega), if_neg (by omega)]; first | done | rfl)
    exact En_ret (v := none) rfl rfl rfl ⟨h33, h40, z36, h37, rfl, ⟨o51, by first | exact q_bc42505ae9 h54 h35.2.1 | omega, by first | exact q_c733b715bf h35.2.2.1 | omega, by first | exact q_d22b102a8e h35.2.2.2.1 | omega, by first | exact q_83f4b1e050 h35.2.2.2.1 | omega, (by rw [h132]; exact ⟨h44, fun z => absurd z (by omega)⟩)⟩⟩
/-- DoorSchool$Reader.readExam(LDoorSchool$Plan;)V -/
abbrev P_64x (σ0 : SG) (By : Int → Int) (Nb : Int) (Sp : PS) (a : Nat) (f : Int32) (sg : Int32) : PO := fun v σ => WT σ ∧ Fr [(3, 1), (3, 2), (3, 3), (3, 4), (3, 5), (3, 6), (20, 2), (21, 0), (22, 0)] σ0 σ ∧ ∃ f1 : Int32, (σ 3)[5]? = some (.int f1) ∧ v = none ∧ OUT σ0 σ a ∧ -f1.toInt ≤ 0 ∧ f1.toInt - 3 ≤ 0 ∧ -f1.toInt + f.toInt ≤ 0 ∧ f.toInt - f1.toInt ≤ 0 ∧ (CT By Nb σ (fExam By Nb Sp) ∧ ((fExam By Nb Sp).1 = 0 → KN σ a (fExam By Nb Sp).2.2.2 (act (fExam By Nb Sp).2.2.2)))
set_option maxRecDepth 10000 in
set_option maxHeartbeats 4000000 in
theorem c_64x {By : Int → Int} {Nb : Int} {Sp : PS} (σ0 : SG) (hσ0 : WT σ0) (a : Nat) (ha : TG a = 18) (f : Int32) (h_f : (σ0 3)[5]? = some (.int f)) (sg : Int32) (h_sg : (σ0 a)[1]? = some (.int sg)) (hp0 : -sg.toInt ≤ 0) (hC : CT By Nb σ0 Sp) (hg : Sp.1 = 0) (hP : PLA a) (hX : FXP σ0 a) (hK : KN σ0 a Sp.2.2.2 (act Sp.2.2.2)) : En 6 136 none mr_64 (P_64x σ0 By Nb Sp a f sg) 0 [(0, .ref 3), (1, .ref a)] [] σ0 := by
  obtain ⟨hl_f, hu_f⟩ := WT_int hσ0 (g := 3) (by decide +kernel) (by decide +kernel) (l := 0) (u := 3) (by decide +kernel) h_f
  obtain ⟨hl_sg, hu_sg⟩ := WT_int hσ0 (g := 18) ha (by decide +kernel) (l := (-1)) (u := 4) (by decide +kernel) h_sg
  have hF0 : Fr [(3, 1), (3, 2), (3, 3), (3, 4), (3, 5), (3, 6), (20, 2), (21, 0), (22, 0)] σ0 σ0 := Fr_rfl
  have h1 := CT_k hC h_f
  refine En_Ps 1 (pc' := 1) (lv' := [(0, .ref 3), (1, .ref a)]) (st' := [.ref a]) rfl ?_
  refine En_getR (j := 5) (g' := 20) (u := 0) rfl rfl rfl ha (by decide +kernel) hσ0 (by decide +kernel) (fun a3 h2 ha3 => ?_)
  refine En_getI (j := 2) (l := 0) (u := 13) rfl rfl rfl ha3 (by decide +kernel) hσ0 (by decide +kernel) (fun z5 h4 h6 h7 => ?_)
  have h8 : a3 = a + 2 := ref_uniq h2 hX.2.1
  have h9 : Sp.2.2.2 3 = z5.toInt := KN_v hK (Or.inl (by decide)) (by decide) (by decide) (by rw [lcO_3]; exact h8) (by decide) h4
  refine En_Ps 1 (pc' := 9) (lv' := [(0, .ref 3), (1, .ref a)]) (st' := [.int (((Int8.ofInt 12).toInt32)), .int z5]) rfl ?_
  refine En_icLt _ rfl (by decide : ((Int8.ofInt 12).toInt32).toInt = 12) rfl (fun h10 => ?_) (fun h10 => ?_)
  · refine En_Ps 1 (pc' := 19) (lv' := [(0, .ref 3), (1, .ref a)]) (st' := [.ref 3]) rfl ?_
    obtain ⟨z12, h11, h13, h14⟩ := WT_peekI hσ0 tgz_3 (by decide +kernel : FT 3 3 = (0, 0, 1600)) (by decide +kernel)
    refine En_callV rfl rfl rfl rfl rfl rfl rfl rfl tgz_3 (by decide +kernel) rfl (c_72x σ0 hσ0 z12 h11 hC.1 (CT_at hC (by omega) h11)) (by decide) (by decide) (fun v16 σ17 h15 => ?_)
    obtain ⟨h18, h19, rfl, h20⟩ := h15
    have h21 := h20
    have h22 := Fr_trans hF0 h19 (by decide +kernel)
    obtain ⟨S23, h24⟩ : ∃ q : PS, q = adv By Nb Sp := ⟨_, rfl⟩
    have h25 : CT By Nb σ17 S23 := by rw [h24]; exact (CT_adv hC (by omega) h11 h19 (by decide +kernel) h21.2)
    have h26 := CT_k h25 ((h19 _ _ (inW tgz_3 (by decide +kernel))).trans h_f)
    have h27 : S23.2.2.2 = Sp.2.2.2 := by rw [h24]; exact adv_w
    have h28 : S23.1 = Sp.1 := by rw [h24]; exact adv_1
    have h29 := KN_fr hP hK h19 (by decide +kernel)
    have h30 : S23.2.2.2 = Sp.2.2.2 := h27.trans (rfl : Sp.2.2.2 = Sp.2.2.2)
    have o31 : OUT σ0 σ17 a := OUT_fr OUT_0 h19 (by decide +kernel)
    refine En_Ps 3 (pc' := 25) (lv' := [(0, .ref 3), (1, .ref a)]) (st' := [.ref a, .ref a, .ref 3]) rfl ?_
    refine En_getK (j := 5) ((h19 _ _ (inW ha (by decide +kernel))).trans h2) rfl rfl rfl ha (by decide +kernel) ?_
    refine En_callV rfl rfl rfl rfl rfl rfl rfl rfl tgz_3 (by decide +kernel) rfl (c_69x σ17 h18 a ha a3 ha3 f ((h19 _ _ (inW tgz_3 (by decide +kernel))).trans h_f) sg ((h19 _ _ (inW ha (by decide +kernel))).trans h_sg) (by first | exact q_a555021d16 hp0 | omega) h25 (by omega) hP (FXP_fr hP hX h22 (by decide +kernel)) (by rw [h30]; exact h29) (show LSN σ17 a a3 S23.2.2.2 (122 + 2 * Sp.2.2.2 3) 3 from by rw [h30]; exact LSN_e (FXP_fr hP hX h22 (by decide +kernel)) h8 rfl (by omega) (by omega))) (by decide) (by decide) (fun v33 σ34 h32 => ?_)
    obtain ⟨h35, h36, z38, h39, rfl, h37⟩ := h32
    have h40 := h37.2.2.2.2.2
    have h41 := Fr_trans h22 h36 (by decide +kernel)
    obtain ⟨S42, h43⟩ : ∃ q : PS, q = fSaid By Nb (122 + 2 * Sp.2.2.2 3) (3) S23 := ⟨_, rfl⟩
    have h44 : CT By Nb σ34 S42 := by rw [h43]; exact h40.1
    have h45 := CT_k h44 h39
    have o46 : OUT σ0 σ34 a := OUT_tr o31 h37.1
    have h47 : fExam By Nb Sp = S42 := by unfold fExam; (try dsimp only); first | (rw [← h24, ← h43]; first | done | rfl) | (rw [← h24, ← h43]; rw [if_pos (by omega)]; first | done | rfl) | (rw [← h24, ← h43]; rw [if_neg (by omega)]; first | done | rfl) | (rw [← h24, ← h43]; rw [if_neg (by omega), if_pos (by omega)]; first | done | rfl) | (rw [← h24, ← h43]; rw [if_neg (by omega), if_neg (by omega)]; first | done | rfl) | (rw [← h24, ← h43]; rw [if_neg (by omega), if_neg (by omega), if_neg (by omega)]; first | done | rfl)
    exact En_ret (v := none) rfl rfl rfl ⟨h35, h41, z38, h39, rfl, ⟨o46, by first | exact q_a555021d16 h37.2.1 | omega, by first | exact q_c733b715bf h37.2.2.1 | omega, by first | exact q_d22b102a8e h37.2.2.2.1 | omega, by first | exact q_83f4b1e050 h37.2.2.2.1 | omega, (by rw [h47]; exact ⟨h44, fun zz => by exact (by rw [h43] at zz ⊢; exact KN_exm zz (h40.2 zz) rfl (by rw [h30]) (by omega))⟩)⟩⟩
  · refine En_Ps 2 (pc' := 14) (lv' := [(0, .ref 3), (1, .ref a)]) (st' := [.int ((Int32.ofInt 3)), .ref 3]) rfl ?_
    have := (by decide : ((Int32.ofInt 3)).toInt = 3)
    refine En_callV rfl rfl rfl rfl rfl rfl rfl rfl tgz_3 (by decide +kernel) rfl (c_54x σ0 hσ0 ((Int32.ofInt 3)) (geI (by decide : (Int32.ofInt 3).toInt = 3) (by decide)) (leI (by decide : (Int32.ofInt 3).toInt = 3) (by decide)) f h_f hC) (by decide) (by decide) (fun v49 σ50 h48 => ?_)
    obtain ⟨h51, h52, z54, h55, rfl, h53⟩ := h48
    have h56 := h53.2.2.2.2.2
    have h57 := Fr_trans hF0 h52 (by decide +kernel)
    obtain ⟨S58, h59⟩ : ∃ q : PS, q = err By Nb 3 Sp := ⟨_, rfl⟩
    have h60 : CT By Nb σ50 S58 := by rw [h59]; exact (CT_eq h56 (err_cg (by omega)))
    have h61 := CT_k h60 h55
    have h62 : S58.2.2.2 = Sp.2.2.2 := by rw [h59]; exact err_w
    have h63 := KN_fr hP hK h52 (by decide +kernel)
    have h64 : S58.2.2.2 = Sp.2.2.2 := h62.trans (rfl : Sp.2.2.2 = Sp.2.2.2)
    have o65 : OUT σ0 σ50 a := OUT_fr OUT_0 h52 (by decide +kernel)
    have h66 : fExam By Nb Sp = S58 := by unfold fExam; (try dsimp only); first | (rw [← h59]; first | done | rfl) | (rw [← h59]; rw [if_pos (by omega)]; first | done | rfl) | (rw [← h59]; rw [if_neg (by omega)]; first | done | rfl) | (rw [← h59]; rw [if_neg (by omega), if_pos (by omega)]; first | done | rfl) | (rw [← h59]; rw [if_neg (by omega), if_neg (by omega)]; first | done | rfl) | (rw [← h59]; rw [if_neg (by omega), if_neg (by omega), if_neg (by omega)]; first | done | rfl)
    exact En_ret (v := none) rfl rfl rfl ⟨h51, h57, z54, h55, rfl, ⟨o65, by first | exact q_1a6ee862c1 h53.1 | omega, by first | exact q_c733b715bf h53.2.1 | omega, by first | exact q_d22b102a8e h53.2.2.1 | omega, by first | exact q_83f4b1e050 h53.2.2.1 | omega, (by rw [h66]; exact ⟨h60, fun z => absurd z (by omega)⟩)⟩⟩
/-- DoorSchool$Reader.readTwin(LDoorSchool$Plan;)V -/
abbrev P_70x (σ0 : SG) (By : Int → Int) (Nb : Int) (Sp : PS) (a : Nat) (f : Int32) (sg : Int32) : PO := fun v σ => WT σ ∧ Fr [(3, 1), (3, 2), (3, 3), (3, 4), (3, 5), (3, 6), (28, 3)] σ0 σ ∧ ∃ f1 : Int32, (σ 3)[5]? = some (.int f1) ∧ v = none ∧ OUT σ0 σ a ∧ -f1.toInt ≤ 0 ∧ f1.toInt - 3 ≤ 0 ∧ -f1.toInt + f.toInt ≤ 0 ∧ f.toInt - f1.toInt ≤ 0 ∧ (CT By Nb σ (fTwin By Nb Sp) ∧ ((fTwin By Nb Sp).1 = 0 → KN σ a (fTwin By Nb Sp).2.2.2 (act (fTwin By Nb Sp).2.2.2)))
set_option maxRecDepth 10000 in
set_option maxHeartbeats 4000000 in
theorem c_70x {By : Int → Int} {Nb : Int} {Sp : PS} (σ0 : SG) (hσ0 : WT σ0) (a : Nat) (ha : TG a = 18) (f : Int32) (h_f : (σ0 3)[5]? = some (.int f)) (sg : Int32) (h_sg : (σ0 a)[1]? = some (.int sg)) (hp0 : -sg.toInt ≤ 0) (hC : CT By Nb σ0 Sp) (hg : Sp.1 = 0) (hP : PLA a) (hX : FXP σ0 a) (hK : KN σ0 a Sp.2.2.2 (act Sp.2.2.2)) : En 2 43 none mr_70 (P_70x σ0 By Nb Sp a f sg) 0 [(0, .ref 3), (1, .ref a)] [] σ0 := by
  obtain ⟨hl_f, hu_f⟩ := WT_int hσ0 (g := 3) (by decide +kernel) (by decide +kernel) (l := 0) (u := 3) (by decide +kernel) h_f
  obtain ⟨hl_sg, hu_sg⟩ := WT_int hσ0 (g := 18) ha (by decide +kernel) (l := (-1)) (u := 4) (by decide +kernel) h_sg
  have hF0 : Fr [(3, 1), (3, 2), (3, 3), (3, 4), (3, 5), (3, 6), (28, 3)] σ0 σ0 := Fr_rfl
  have h1 := CT_k hC h_f
  obtain ⟨z3, h2, h4, h5⟩ := WT_peekI hσ0 ha (by decide +kernel : FT 18 3 = (0, 0, 4)) (by decide +kernel)
  have h6 : Sp.2.2.2 2 = z3.toInt := KN_v hK (Or.inl (by decide)) (by decide) (by decide) (by rw [lcO_lt (by decide) (by decide), Nat.add_zero]) rfl h2
  refine En_Ps 1 (pc' := 1) (lv' := [(0, .ref 3), (1, .ref a)]) (st' := [.ref 3]) rfl ?_
  obtain ⟨z8, h7, h9, h10⟩ := WT_peekI hσ0 tgz_3 (by decide +kernel : FT 3 3 = (0, 0, 1600)) (by decide +kernel)
  refine En_callV rfl rfl rfl rfl rfl rfl rfl rfl tgz_3 (by decide +kernel) rfl (c_72x σ0 hσ0 z8 h7 hC.1 (CT_at hC (by omega) h7)) (by decide) (by decide) (fun v12 σ13 h11 => ?_)
  obtain ⟨h14, h15, rfl, h16⟩ := h11
  have h17 := h16
  have h18 := Fr_trans hF0 h15 (by decide +kernel)
  obtain ⟨S19, h20⟩ : ∃ q : PS, q = adv By Nb Sp := ⟨_, rfl⟩
  have h21 : CT By Nb σ13 S19 := by rw [h20]; exact (CT_adv hC (by omega) h7 h15 (by decide +kernel) h17.2)
  have h22 := CT_k h21 ((h15 _ _ (inW tgz_3 (by decide +kernel))).trans h_f)
  have h23 : S19.2.2.2 = Sp.2.2.2 := by rw [h20]; exact adv_w
  have h24 : S19.1 = Sp.1 := by rw [h20]; exact adv_1
  have h25 := KN_fr hP hK h15 (by decide +kernel)
  have h26 : S19.2.2.2 = Sp.2.2.2 := h23.trans (rfl : Sp.2.2.2 = Sp.2.2.2)
  have o27 : OUT σ0 σ13 a := OUT_fr OUT_0 h15 (by decide +kernel)
  have h28 : S19.2.2.2 2 = Sp.2.2.2 2 := by rw [h26]
  refine En_Ps 3 (pc' := 7) (lv' := [(0, .ref 3), (1, .ref a)]) (st' := [.ref a, .int ((Int32.ofInt 0)), .ref 3]) rfl ?_
  refine En_getK (j := 3) ((h15 _ _ (inW ha (by decide +kernel))).trans h2) rfl rfl rfl ha (by decide +kernel) ?_
  refine En_Ps 2 (pc' := 12) (lv' := [(0, .ref 3), (1, .ref a)]) (st' := [.int ((z3 - ((Int32.ofInt 1)))), .int ((Int32.ofInt 0)), .ref 3]) rfl ?_
  refine En_top (subI rfl (by decide : (Int32.ofInt 1).toInt = 1) (by first | exact q_93f9478bef h4 | omega) (by first | exact q_cc3cee8591 h5 | omega)) (fun z29 h30 => ?_)
  have := (by decide : ((Int32.ofInt 0)).toInt = 0)
  refine En_callV rfl rfl rfl rfl rfl rfl rfl rfl tgz_3 (by decide +kernel) rfl (c_58x σ13 h14 ((Int32.ofInt 0)) z29 f ((h15 _ _ (inW tgz_3 (by decide +kernel))).trans h_f) h21) (by decide) (by decide) (fun v32 σ33 h31 => ?_)
  obtain ⟨h34, h35, z37, h38, z39, rfl, h36⟩ := h31
  have h40 := h36.2.2.2.2.2.2.2.2.2
  have h41 := Fr_trans h18 h35 (by decide +kernel)
  have h42 : nH By Nb ((Int32.ofInt 0)).toInt z29.toInt S19 = nH By Nb (0) (S19.2.2.2 2 - 1) S19 := nH_cg2 (fun zz => by omega) (fun zz => by omega)
  obtain ⟨S43, h44⟩ : ∃ q : PS, q = nH By Nb (0) (S19.2.2.2 2 - 1) S19 := ⟨_, rfl⟩
  have h45 : CT By Nb σ33 S43 := by rw [h44]; exact (CT_eq h40.1 h42)
  have h46 := CT_k h45 h38
  have h47 : Imp (S43.1 = 0) (z39.toInt = tV By Nb S19.2.2.1) := fun z => Imp_m h40.2 (by rw [h42, ← h44]; exact z)
  have h48 : Imp (S43.1 = 0) (S19.1 = 0 ∧ tK By Nb S19.2.2.1 = 2 ∧ 0 ≤ tV By Nb S19.2.2.1 ∧ tV By Nb S19.2.2.1 ≤ S19.2.2.2 2 - 1) := fun z => nH_gg (by rw [← h44]; exact z)
  have h49 : S43.2.2.2 = S19.2.2.2 := by rw [h44]; exact nH_w
  have h50 := KN_fr hP h25 h35 (by decide +kernel)
  have h51 : S43.2.2.2 = Sp.2.2.2 := h49.trans h26
  have o52 : OUT σ0 σ33 a := OUT_fr o27 h35 (by decide +kernel)
  have h53 := Imp_m h36.2.2.2.2.2.2.2.1 (by first | exact q_7d8964ea46 h30 h4 | omega)
  have h54 := Imp_m h36.2.2.2.2.2.2.2.2.1 (by omega)
  refine En_Ps 2 (pc' := 17) (lv' := [(2, .int z39), (0, .ref 3), (1, .ref a)]) (st' := [.ref 3]) rfl ?_
  refine En_getK (j := 5) h38 rfl rfl rfl tgz_3 (by decide +kernel) ?_
  refine En_iNe _ rfl rfl (fun h55 => ?_) (fun h55 => ?_)
  · have h56 := Imp_m h36.2.2.2.2.2.2.1 (by first | exact q_e3350da514 h55 h36.2.1 | omega)
    have h57 : tw1 By Nb S19 = S43 := by rw [h44]; exact tw1_n (d := z39.toInt) (fun zz => by rw [← h44] at zz; rw [h26]; exact ⟨by omega, by omega, by omega⟩)
    refine En_Ps 1 (pc' := 50) (lv' := [(2, .int z39), (0, .ref 3), (1, .ref a)]) (st' := [.ref 3]) rfl ?_
    refine En_getK (j := 5) h38 rfl rfl rfl tgz_3 (by decide +kernel) ?_
    refine En_iEq _ rfl rfl (fun hx => by exfalso; have := Imp_m h36.2.2.2.2.2.1 (by omega); omega) (fun h58 => ?_)
    have h59 : fTwin By Nb Sp = S43 := by unfold fTwin; (try dsimp only); first | (rw [← h20, h57]; first | done | rfl) | (rw [← h20, h57]; rw [if_pos (by omega)]; first | done | rfl) | (rw [← h20, h57]; rw [if_neg (by omega)]; first | done | rfl) | (rw [← h20, h57]; rw [if_neg (by omega), if_pos (by omega)]; first | done | rfl) | (rw [← h20, h57]; rw [if_neg (by omega), if_neg (by omega)]; first | done | rfl) | (rw [← h20, h57]; rw [if_neg (by omega), if_neg (by omega), if_neg (by omega)]; first | done | rfl)
    exact En_ret (v := none) rfl rfl rfl ⟨h34, h41, z37, h38, rfl, ⟨o52, by first | exact q_bc42505ae9 h55 h36.2.1 | omega, by first | exact q_c733b715bf h36.2.2.1 | omega, by first | exact q_d22b102a8e h36.2.2.2.1 | omega, by first | exact q_83f4b1e050 h36.2.2.2.1 | omega, (by rw [h59]; exact ⟨h45, fun z => absurd z (by omega)⟩)⟩⟩
  · have h60 := Imp_m h36.2.2.2.2.2.1 (by first | exact q_c5d285f1b9 h55 | omega)
    try have h61 := Imp_m h48 (by omega)
    try have h62 := Imp_m h47 (by omega)
    refine En_Ps 1 (pc' := 24) (lv' := [(2, .int z39), (0, .ref 3), (1, .ref a)]) (st' := [.ref a]) rfl ?_
    refine En_getR (j := 4) (g' := 19) (u := 0) rfl rfl rfl ha (by decide +kernel) h34 (by decide +kernel) (fun a64 h63 ha64 => ?_)
    refine En_Ps 1 (pc' := 28) (lv' := [(2, .int z39), (0, .ref 3), (1, .ref a)]) (st' := [.int z39, .ref a64]) rfl ?_
    refine En_aald (g' := 28) (u := 0) rfl rfl ha64 (by decide +kernel) h34 (by omega) (lnI (by decide +kernel : LN _ = 4) (by first | exact q_9af1b6be4e h53 h30 h5 | omega)) (FTsgl (by decide +kernel)) (fun a66 h65 ha66 => ?_)
    have h67 := DRc (d := z39.toInt) (FXP_fr hP hX h41 (by decide +kernel)) h63 h65 (by omega) (by omega)
    have h68 := lc_d (d := z39.toInt) (by omega) (by omega)
    refine En_getI (j := 3) (l := (-1)) (u := 3) rfl rfl rfl ha66 (by decide +kernel) h34 (by decide +kernel) (fun z70 h69 h71 h72 => ?_)
    have h73 : Sp.2.2.2 (13 + 4 * z39.toInt) = z70.toInt := KN_v h50 (Or.inr (Or.inl ⟨by omega, by omega, by omega⟩)) (by omega) (by omega) (by omega) (by omega) h69
    refine En_Ps 1 (pc' := 33) (lv' := [(2, .int z39), (0, .ref 3), (1, .ref a)]) (st' := [.int ((Int32.ofInt (-1))), .int z70]) rfl ?_
    refine En_icNe _ rfl (by decide : (Int32.ofInt (-1)).toInt = -1) rfl (fun h74 => ?_) (fun h74 => ?_)
    · refine En_Ps 2 (pc' := 46) (lv' := [(2, .int z39), (0, .ref 3), (1, .ref a)]) (st' := [.int ((Int32.ofInt 2)), .ref 3]) rfl ?_
      have := (by decide : ((Int32.ofInt 2)).toInt = 2)
      refine En_callV rfl rfl rfl rfl rfl rfl rfl rfl tgz_3 (by decide +kernel) rfl (c_54x σ33 h34 ((Int32.ofInt 2)) (geI (by decide : (Int32.ofInt 2).toInt = 2) (by decide)) (leI (by decide : (Int32.ofInt 2).toInt = 2) (by decide)) z37 h38 h45) (by decide) (by decide) (fun v76 σ77 h75 => ?_)
      obtain ⟨h78, h79, z81, h82, rfl, h80⟩ := h75
      have h83 := h80.2.2.2.2.2
      have h84 := Fr_trans h41 h79 (by decide +kernel)
      obtain ⟨S85, h86⟩ : ∃ q : PS, q = err By Nb 2 S43 := ⟨_, rfl⟩
      have h87 : CT By Nb σ77 S85 := by rw [h86]; exact (CT_eq h83 (err_cg (by omega)))
      have h88 := CT_k h87 h82
      have h89 : S85.2.2.2 = S43.2.2.2 := by rw [h86]; exact err_w
      have h90 := KN_fr hP h50 h79 (by decide +kernel)
      have h91 : S85.2.2.2 = Sp.2.2.2 := h89.trans h51
      have o92 : OUT σ0 σ77 a := OUT_fr o52 h79 (by decide +kernel)
      have h93 := Imp_m h80.2.2.2.1 (by first | exact q_c5d285f1b9 h55 | omega)
      have h94 : tw1 By Nb S19 = S85 := by rw [h86, h44]; exact tw1_p (d := z39.toInt) (by rw [← h44]; omega) (by omega) (by rw [h26]; omega)
      refine En_Ps 1 (pc' := 50) (lv' := [(2, .int z39), (0, .ref 3), (1, .ref a)]) (st' := [.ref 3]) rfl ?_
      refine En_getK (j := 5) h82 rfl rfl rfl tgz_3 (by decide +kernel) ?_
      refine En_iEq _ rfl rfl (fun hx => by exfalso; have := Imp_m h36.2.2.2.2.2.2.1 (by omega); have := Imp_m h80.2.2.2.2.1 (by omega); omega) (fun h95 => ?_)
      have h96 : fTwin By Nb Sp = S85 := by unfold fTwin; (try dsimp only); first | (rw [← h20, h94]; first | done | rfl) | (rw [← h20, h94]; rw [if_pos (by omega)]; first | done | rfl) | (rw [← h20, h94]; rw [if_neg (by omega)]; first | done | rfl) | (rw [← h20, h94]; rw [if_neg (by omega), if_pos (by omega)]; first | done | rfl) | (rw [← h20, h94]; rw [if_neg (by omega), if_neg (by omega)]; first | done | rfl) | (rw [← h20, h94]; rw [if_neg (by omega), if_neg (by omega), if_neg (by omega)]; first | done | rfl)
      exact En_ret (v := none) rfl rfl rfl ⟨h78, h84, z81, h82, rfl, ⟨o92, by first | exact q_1a6ee862c1 h80.1 | omega, by first | exact q_c733b715bf h80.2.1 | omega, by first | exact q_ccc3bb8fc9 h36.2.2.2.1 h80.2.2.1 | omega, by first | exact q_28bfca2c13 h36.2.2.2.1 h80.2.2.1 | omega, (by rw [h96]; exact ⟨h87, fun z => absurd z (by omega)⟩)⟩⟩
    · refine En_Ps 2 (pc' := 38) (lv' := [(2, .int z39), (0, .ref 3), (1, .ref a)]) (st' := [.int z39, .ref a]) rfl ?_
      refine En_callV rfl rfl rfl rfl rfl rfl rfl rfl ha (by decide +kernel) rfl (c_45x σ33 h34 a ha z39 hP (FXP_fr hP hX h41 (by decide +kernel)) h50) (by decide) (by decide) (fun v98 σ99 h97 => ?_)
      obtain ⟨h100, h101, z103, rfl, h102⟩ := h97
      have h104 := h102.2.2.2
      obtain rfl : σ33 = σ99 := Fr_nil h101
      have h105 := h104
      refine En_iEq _ rfl rfl (fun h106 => ?_) (fun h106 => ?_)
      · have h107 : tw1 By Nb S19 = S43 := by rw [h44]; exact tw1_n (d := z39.toInt) (fun zz => by rw [← h44] at zz; rw [h26]; exact ⟨by omega, by omega, by omega⟩)
        refine En_Ps 1 (pc' := 50) (lv' := [(2, .int z39), (0, .ref 3), (1, .ref a)]) (st' := [.ref 3]) rfl ?_
        refine En_getK (j := 5) h38 rfl rfl rfl tgz_3 (by decide +kernel) ?_
        refine En_iEq _ rfl rfl (fun h108 => ?_) (fun hx => by exfalso; have := Imp_m h36.2.2.2.2.2.2.1 (by omega); omega)
        refine En_Ps 1 (pc' := 58) (lv' := [(2, .int z39), (0, .ref 3), (1, .ref a)]) (st' := [.ref 3]) rfl ?_
        obtain ⟨z110, h109, h111, h112⟩ := WT_peekI h34 tgz_3 (by decide +kernel : FT 3 3 = (0, 0, 1600)) (by decide +kernel)
        refine En_callV rfl rfl rfl rfl rfl rfl rfl rfl tgz_3 (by decide +kernel) rfl (c_72x σ33 h34 z110 h109 h45.1 (CT_at h45 (by omega) h109)) (by decide) (by decide) (fun v114 σ115 h113 => ?_)
        obtain ⟨h116, h117, rfl, h118⟩ := h113
        have h119 := h118
        have h120 := Fr_trans h41 h117 (by decide +kernel)
        obtain ⟨S121, h122⟩ : ∃ q : PS, q = adv By Nb S43 := ⟨_, rfl⟩
        have h123 : CT By Nb σ115 S121 := by rw [h122]; exact (CT_adv h45 (by omega) h109 h117 (by decide +kernel) h119.2)
        have h124 := CT_k h123 ((h117 _ _ (inW tgz_3 (by decide +kernel))).trans h38)
        have h125 : S121.2.2.2 = S43.2.2.2 := by rw [h122]; exact adv_w
        have h126 : S121.1 = S43.1 := by rw [h122]; exact adv_1
        have h127 := KN_fr hP h50 h117 (by decide +kernel)
        have h128 : S121.2.2.2 = Sp.2.2.2 := h125.trans h51
        have o129 : OUT σ0 σ115 a := OUT_fr o52 h117 (by decide +kernel)
        have h130 : S121.2.2.2 2 = Sp.2.2.2 2 := by rw [h128]
        refine En_Ps 3 (pc' := 64) (lv' := [(2, .int z39), (0, .ref 3), (1, .ref a)]) (st' := [.ref a, .int ((Int32.ofInt 0)), .ref 3]) rfl ?_
        refine En_getK (j := 3) ((h117 _ _ (inW ha (by decide +kernel))).trans ((h35 _ _ (inW ha (by decide +kernel))).trans ((h15 _ _ (inW ha (by decide +kernel))).trans h2))) rfl rfl rfl ha (by decide +kernel) ?_
        refine En_Ps 2 (pc' := 69) (lv' := [(2, .int z39), (0, .ref 3), (1, .ref a)]) (st' := [.int ((z3 - ((Int32.ofInt 1)))), .int ((Int32.ofInt 0)), .ref 3]) rfl ?_
        refine En_top (subI rfl (by decide : (Int32.ofInt 1).toInt = 1) (by first | exact q_93f9478bef h4 | omega) (by first | exact q_cc3cee8591 h5 | omega)) (fun z131 h132 => ?_)
        have := (by decide : ((Int32.ofInt 0)).toInt = 0)
        refine En_callV rfl rfl rfl rfl rfl rfl rfl rfl tgz_3 (by decide +kernel) rfl (c_58x σ115 h116 ((Int32.ofInt 0)) z131 z37 ((h117 _ _ (inW tgz_3 (by decide +kernel))).trans h38) h123) (by decide) (by decide) (fun v134 σ135 h133 => ?_)
        obtain ⟨h136, h137, z139, h140, z141, rfl, h138⟩ := h133
        have h142 := h138.2.2.2.2.2.2.2.2.2
        have h143 := Fr_trans h120 h137 (by decide +kernel)
        have h144 : nH By Nb ((Int32.ofInt 0)).toInt z131.toInt S121 = nH By Nb (0) (S121.2.2.2 2 - 1) S121 := nH_cg2 (fun zz => by (try have i0 := Imp_m h48 (by omega)); (try have i1 := Imp_m h47 (by omega)); (try have i2 := Imp_m h36.2.2.2.2.2.2.1 (by omega)); (try have i3 := Imp_m h102.2.2.1 (by omega)); omega) (fun zz => by (try have i0 := Imp_m h48 (by omega)); (try have i1 := Imp_m h47 (by omega)); (try have i2 := Imp_m h36.2.2.2.2.2.2.1 (by omega)); (try have i3 := Imp_m h102.2.2.1 (by omega)); omega)
        obtain ⟨S145, h146⟩ : ∃ q : PS, q = nH By Nb (0) (S121.2.2.2 2 - 1) S121 := ⟨_, rfl⟩
        have h147 : CT By Nb σ135 S145 := by rw [h146]; exact (CT_eq h142.1 h144)
        have h148 := CT_k h147 h140
        have h149 : Imp (S145.1 = 0) (z141.toInt = tV By Nb S121.2.2.1) := fun z => Imp_m h142.2 (by rw [h144, ← h146]; exact z)
        have h150 : Imp (S145.1 = 0) (S121.1 = 0 ∧ tK By Nb S121.2.2.1 = 2 ∧ 0 ≤ tV By Nb S121.2.2.1 ∧ tV By Nb S121.2.2.1 ≤ S121.2.2.2 2 - 1) := fun z => nH_gg (by rw [← h146]; exact z)
        have h151 : S145.2.2.2 = S121.2.2.2 := by rw [h146]; exact nH_w
        have h152 := KN_fr hP h127 h137 (by decide +kernel)
        have h153 : S145.2.2.2 = Sp.2.2.2 := h151.trans h128
        have o154 : OUT σ0 σ135 a := OUT_fr o129 h137 (by decide +kernel)
        have h155 := Imp_m h138.2.2.2.2.2.2.2.1 (by first | exact q_7d8964ea46 h132 h4 | omega)
        have h156 := Imp_m h138.2.2.2.2.2.2.2.2.1 (by omega)
        refine En_Ps 2 (pc' := 74) (lv' := [(3, .int z141), (2, .int z39), (0, .ref 3), (1, .ref a)]) (st' := [.ref 3]) rfl ?_
        refine En_getK (j := 5) h140 rfl rfl rfl tgz_3 (by decide +kernel) ?_
        refine En_iNe _ rfl rfl (fun h157 => ?_) (fun h157 => ?_)
        · have h158 := Imp_m h138.2.2.2.2.2.2.1 (by first | exact q_e3350da514 h157 h138.2.1 | omega)
          have h159 : tw2 By Nb (tV By Nb S19.2.2.1) S121 = S145 := by rw [h146]; exact tw2_n (d := z141.toInt) (fun zz => by rw [← h146] at zz; rw [h128]; exact ⟨by omega, by omega, by omega⟩)
          refine En_Ps 1 (pc' := 104) (lv' := [(3, .int z141), (2, .int z39), (0, .ref 3), (1, .ref a)]) (st' := [.ref 3]) rfl ?_
          refine En_getK (j := 5) h140 rfl rfl rfl tgz_3 (by decide +kernel) ?_
          refine En_iNe _ rfl rfl (fun h160 => ?_) (fun hx => by exfalso; have := Imp_m h36.2.2.2.2.2.2.1 (by omega); have := Imp_m h138.2.2.2.2.2.1 (by omega); omega)
          have h161 : fTwin By Nb Sp = S145 := by unfold fTwin; (try dsimp only); first | (rw [← h20, h107, ← h122, h159]; first | done | rfl) | (rw [← h20, h107, ← h122, h159]; rw [if_pos (by omega)]; first | done | rfl) | (rw [← h20, h107, ← h122, h159]; rw [if_neg (by omega)]; first | done | rfl) | (rw [← h20, h107, ← h122, h159]; rw [if_neg (by omega), if_pos (by omega)]; first | done | rfl) | (rw [← h20, h107, ← h122, h159]; rw [if_neg (by omega), if_neg (by omega)]; first | done | rfl) | (rw [← h20, h107, ← h122, h159]; rw [if_neg (by omega), if_neg (by omega), if_neg (by omega)]; first | done | rfl)
          exact En_ret (v := none) rfl rfl rfl ⟨h136, h143, z139, h140, rfl, ⟨o154, by first | exact q_bc42505ae9 h157 h138.2.1 | omega, by first | exact q_c733b715bf h138.2.2.1 | omega, by first | exact q_ccc3bb8fc9 h36.2.2.2.1 h138.2.2.2.1 | omega, by first | exact q_28bfca2c13 h36.2.2.2.1 h138.2.2.2.1 | omega, (by rw [h161]; exact ⟨h147, fun z => absurd z (by omega)⟩)⟩⟩
        · have h162 := Imp_m h138.2.2.2.2.2.1 (by first | exact q_c5d285f1b9 h157 | omega)
          try have h163 := Imp_m h150 (by omega)
          try have h164 := Imp_m h149 (by omega)
          try have h165 := Imp_m h48 (by omega)
          try have h166 := Imp_m h47 (by omega)
          refine En_Ps 2 (pc' := 82) (lv' := [(3, .int z141), (2, .int z39), (0, .ref 3), (1, .ref a)]) (st' := [.int z39, .int z141]) rfl ?_
          refine En_icEq _ rfl rfl rfl (fun h167 => ?_) (fun h167 => ?_)
          · refine En_Ps 2 (pc' := 100) (lv' := [(3, .int z141), (2, .int z39), (0, .ref 3), (1, .ref a)]) (st' := [.int ((Int32.ofInt 2)), .ref 3]) rfl ?_
            have := (by decide : ((Int32.ofInt 2)).toInt = 2)
            refine En_callV rfl rfl rfl rfl rfl rfl rfl rfl tgz_3 (by decide +kernel) rfl (c_54x σ135 h136 ((Int32.ofInt 2)) (geI (by decide : (Int32.ofInt 2).toInt = 2) (by decide)) (leI (by decide : (Int32.ofInt 2).toInt = 2) (by decide)) z139 h140 h147) (by decide) (by decide) (fun v169 σ170 h168 => ?_)
            obtain ⟨h171, h172, z174, h175, rfl, h173⟩ := h168
            have h176 := h173.2.2.2.2.2
            have h177 := Fr_trans h143 h172 (by decide +kernel)
            obtain ⟨S178, h179⟩ : ∃ q : PS, q = err By Nb 2 S145 := ⟨_, rfl⟩
            have h180 : CT By Nb σ170 S178 := by rw [h179]; exact (CT_eq h176 (err_cg (by omega)))
            have h181 := CT_k h180 h175
            have h182 : S178.2.2.2 = S145.2.2.2 := by rw [h179]; exact err_w
            have h183 := KN_fr hP h152 h172 (by decide +kernel)
            have h184 : S178.2.2.2 = Sp.2.2.2 := h182.trans h153
            have o185 : OUT σ0 σ170 a := OUT_fr o154 h172 (by decide +kernel)
            have h186 := Imp_m h173.2.2.2.1 (by first | exact q_c5d285f1b9 h157 | omega)
            have h187 : tw2 By Nb (tV By Nb S19.2.2.1) S121 = S178 := by rw [h179, h146]; exact tw2_p (d := z141.toInt) (by rw [← h146]; omega) (by omega) (by rw [h128]; omega)
            refine En_Ps 1 (pc' := 104) (lv' := [(3, .int z141), (2, .int z39), (0, .ref 3), (1, .ref a)]) (st' := [.ref 3]) rfl ?_
            refine En_getK (j := 5) h175 rfl rfl rfl tgz_3 (by decide +kernel) ?_
            refine En_iNe _ rfl rfl (fun h188 => ?_) (fun hx => by exfalso; have := Imp_m h36.2.2.2.2.2.2.1 (by omega); have := Imp_m h138.2.2.2.2.2.2.1 (by omega); have := Imp_m h173.2.2.2.2.1 (by omega); omega)
            have h189 : fTwin By Nb Sp = S178 := by unfold fTwin; (try dsimp only); first | (rw [← h20, h107, ← h122, h187]; first | done | rfl) | (rw [← h20, h107, ← h122, h187]; rw [if_pos (by omega)]; first | done | rfl) | (rw [← h20, h107, ← h122, h187]; rw [if_neg (by omega)]; first | done | rfl) | (rw [← h20, h107, ← h122, h187]; rw [if_neg (by omega), if_pos (by omega)]; first | done | rfl) | (rw [← h20, h107, ← h122, h187]; rw [if_neg (by omega), if_neg (by omega)]; first | done | rfl) | (rw [← h20, h107, ← h122, h187]; rw [if_neg (by omega), if_neg (by omega), if_neg (by omega)]; first | done | rfl)
            exact En_ret (v := none) rfl rfl rfl ⟨h171, h177, z174, h175, rfl, ⟨o185, by first | exact q_1a6ee862c1 h173.1 | omega, by first | exact q_c733b715bf h173.2.1 | omega, by first | exact q_967777951c h36.2.2.2.1 h173.1 h55 | omega, by first | exact q_366671f89f h36.2.2.2.1 h173.1 h55 | omega, (by rw [h189]; exact ⟨h180, fun z => absurd z (by omega)⟩)⟩⟩
          · refine En_Ps 1 (pc' := 86) (lv' := [(3, .int z141), (2, .int z39), (0, .ref 3), (1, .ref a)]) (st' := [.ref a]) rfl ?_
            refine En_getK (j := 4) ((h137 _ _ (inW ha (by decide +kernel))).trans ((h117 _ _ (inW ha (by decide +kernel))).trans h63)) rfl rfl rfl ha (by decide +kernel) ?_
            refine En_Ps 1 (pc' := 90) (lv' := [(3, .int z141), (2, .int z39), (0, .ref 3), (1, .ref a)]) (st' := [.int z141, .ref a64]) rfl ?_
            refine En_aald (g' := 28) (u := 0) rfl rfl ha64 (by decide +kernel) h136 (by omega) (lnI (by decide +kernel : LN _ = 4) (by first | exact q_9af1b6be4e h155 h132 h5 | omega)) (FTsgl (by decide +kernel)) (fun a191 h190 ha191 => ?_)
            have h192 := DRc (d := z141.toInt) (FXP_fr hP hX h143 (by decide +kernel)) ((h137 _ _ (inW ha (by decide +kernel))).trans ((h117 _ _ (inW ha (by decide +kernel))).trans h63)) h190 (by omega) (by omega)
            have h193 := lc_d (d := z141.toInt) (by omega) (by omega)
            refine En_getI (j := 3) (l := (-1)) (u := 3) rfl rfl rfl ha191 (by decide +kernel) h136 (by decide +kernel) (fun z195 h194 h196 h197 => ?_)
            have h198 : Sp.2.2.2 (13 + 4 * z141.toInt) = z195.toInt := KN_v h152 (Or.inr (Or.inl ⟨by omega, by omega, by omega⟩)) (by omega) (by omega) (by omega) (by omega) h194
            refine En_Ps 1 (pc' := 95) (lv' := [(3, .int z141), (2, .int z39), (0, .ref 3), (1, .ref a)]) (st' := [.int ((Int32.ofInt (-1))), .int z195]) rfl ?_
            refine En_icEq _ rfl (by decide : (Int32.ofInt (-1)).toInt = -1) rfl (fun h199 => ?_) (fun h199 => ?_)
            · have h200 : tw2 By Nb (tV By Nb S19.2.2.1) S121 = S145 := by rw [h146]; exact tw2_n (d := z141.toInt) (fun zz => by rw [← h146] at zz; rw [h128]; exact ⟨by omega, by omega, by omega⟩)
              refine En_Ps 1 (pc' := 104) (lv' := [(3, .int z141), (2, .int z39), (0, .ref 3), (1, .ref a)]) (st' := [.ref 3]) rfl ?_
              refine En_getK (j := 5) h140 rfl rfl rfl tgz_3 (by decide +kernel) ?_
              refine En_iNe _ rfl rfl (fun hx => by exfalso; have := Imp_m h36.2.2.2.2.2.2.1 (by omega); have := Imp_m h138.2.2.2.2.2.2.1 (by omega); omega) (fun h201 => ?_)
              try have h202 := Imp_m h150 (by omega)
              try have h203 := Imp_m h149 (by omega)
              try have h204 := Imp_m h48 (by omega)
              try have h205 := Imp_m h47 (by omega)
              refine En_Ps 1 (pc' := 111) (lv' := [(3, .int z141), (2, .int z39), (0, .ref 3), (1, .ref a)]) (st' := [.ref a]) rfl ?_
              refine En_getK (j := 4) ((h137 _ _ (inW ha (by decide +kernel))).trans ((h117 _ _ (inW ha (by decide +kernel))).trans h63)) rfl rfl rfl ha (by decide +kernel) ?_
              refine En_Ps 1 (pc' := 115) (lv' := [(3, .int z141), (2, .int z39), (0, .ref 3), (1, .ref a)]) (st' := [.int z39, .ref a64]) rfl ?_
              refine En_aald (g' := 28) (u := 0) rfl rfl ha64 (by decide +kernel) h136 (by omega) (lnI (by decide +kernel : LN _ = 4) (by first | exact q_9af1b6be4e h53 h30 h5 | omega)) (FTsgl (by decide +kernel)) (fun a207 h206 ha207 => ?_)
              have h208 := DRc (d := z39.toInt) (FXP_fr hP hX h143 (by decide +kernel)) ((h137 _ _ (inW ha (by decide +kernel))).trans ((h117 _ _ (inW ha (by decide +kernel))).trans h63)) h206 (by omega) (by omega)
              have h209 := lc_d (d := z39.toInt) (by omega) (by omega)
              have h210 := lc_d (d := (tV By Nb S19.2.2.1)) (by omega) (by omega)
              refine En_Ps 1 (pc' := 117) (lv' := [(3, .int z141), (2, .int z39), (0, .ref 3), (1, .ref a)]) (st' := [.int z141, .ref a207]) rfl ?_
              refine En_put (j := 3) rfl rfl rfl ha207 (by decide +kernel) rfl (vI (l := (-1)) (u := 3) (by decide +kernel) rfl (by first | exact q_ce01e7a6da h156 | omega) (by first | exact q_5856343edf h155 h132 h5 | omega)) h136 h143 (by decide +kernel) (fun σ211 h212 h213 h214 h215 => ?_)
              obtain ⟨S216, h217⟩ : ∃ q : PS, q = wst S145 (13 + 4 * (tV By Nb S19.2.2.1)) ((tV By Nb S121.2.2.1)) := ⟨_, rfl⟩
              have h218 : CT By Nb σ211 S216 := by rw [h217]; exact CT_wst (CT_ne h147 h215 (by have := hP; unfold PLA at this; omega))
              have h219 : KN σ211 a (uPd Sp.2.2.2 (13 + 4 * (tV By Nb S19.2.2.1)) ((tV By Nb S121.2.2.1))) (fun t => (act Sp.2.2.2 t ∨ t = 13 + 4 * (tV By Nb S19.2.2.1))) := KN_st h152 h214 h215 (by omega) (by omega) (by omega) (by omega) (by omega)
              have h220 : S216.2.2.2 = (uPd Sp.2.2.2 (13 + 4 * (tV By Nb S19.2.2.1)) ((tV By Nb S121.2.2.1))) := by rw [h217]; show uPd S145.2.2.2 _ _ = _; rw [h153]
              have h221 : S216.1 = S145.1 := by rw [h217]; rfl
              have h222 := CT_k h218 ((h215 _ _ (Or.inr (by decide))).trans h140)
              have o223 : OUT σ0 σ211 a := OUT_st o154 h215 (by omega)
              refine En_Ps 1 (pc' := 121) (lv' := [(3, .int z141), (2, .int z39), (0, .ref 3), (1, .ref a)]) (st' := [.ref 3]) rfl ?_
              obtain ⟨z225, h224, h226, h227⟩ := WT_peekI h212 tgz_3 (by decide +kernel : FT 3 3 = (0, 0, 1600)) (by decide +kernel)
              refine En_callV rfl rfl rfl rfl rfl rfl rfl rfl tgz_3 (by decide +kernel) rfl (c_72x σ211 h212 z225 h224 h218.1 (CT_at h218 (by omega) h224)) (by decide) (by decide) (fun v229 σ230 h228 => ?_)
              obtain ⟨h231, h232, rfl, h233⟩ := h228
              have h234 := h233
              have h235 := Fr_trans h213 h232 (by decide +kernel)
              obtain ⟨S236, h237⟩ : ∃ q : PS, q = adv By Nb S216 := ⟨_, rfl⟩
              have h238 : CT By Nb σ230 S236 := by rw [h237]; exact (CT_adv h218 (by omega) h224 h232 (by decide +kernel) h234.2)
              have h239 := CT_k h238 ((h232 _ _ (inW tgz_3 (by decide +kernel))).trans ((h215 _ _ (Or.inr (by decide))).trans h140))
              have h240 : S236.2.2.2 = S216.2.2.2 := by rw [h237]; exact adv_w
              have h241 : S236.1 = S216.1 := by rw [h237]; exact adv_1
              have h242 := KN_fr hP h219 h232 (by decide +kernel)
              have h243 : S236.2.2.2 = (uPd Sp.2.2.2 (13 + 4 * (tV By Nb S19.2.2.1)) ((tV By Nb S121.2.2.1))) := h240.trans h220
              have o244 : OUT σ0 σ230 a := OUT_fr o223 h232 (by decide +kernel)
              have h245 : fTwin By Nb Sp = S236 := by unfold fTwin; (try dsimp only); first | (rw [← h20, h107, ← h122, h200, ← h217, ← h237]; first | done | rfl) | (rw [← h20, h107, ← h122, h200, ← h217, ← h237]; rw [if_pos (by omega)]; first | done | rfl) | (rw [← h20, h107, ← h122, h200, ← h217, ← h237]; rw [if_neg (by omega)]; first | done | rfl) | (rw [← h20, h107, ← h122, h200, ← h217, ← h237]; rw [if_neg (by omega), if_pos (by omega)]; first | done | rfl) | (rw [← h20, h107, ← h122, h200, ← h217, ← h237]; rw [if_neg (by omega), if_neg (by omega)]; first | done | rfl) | (rw [← h20, h107, ← h122, h200, ← h217, ← h237]; rw [if_neg (by omega), if_neg (by omega), if_neg (by omega)]; first | done | rfl)
              exact En_ret (v := none) rfl rfl rfl ⟨h231, h235, z139, ((h232 _ _ (inW tgz_3 (by decide +kernel))).trans ((h215 _ _ (Or.inr (by decide))).trans h140)), rfl, ⟨o244, by first | exact q_a555021d16 h138.2.1 | omega, by first | exact q_bd3fa30443 h157 | omega, by first | exact q_ccc3bb8fc9 h36.2.2.2.1 h138.2.2.2.1 | omega, by first | exact q_28bfca2c13 h36.2.2.2.1 h138.2.2.2.1 | omega, (by rw [h245]; exact ⟨h238, fun zz => by rw [h243]; exact KN_sub h242 (fun t t0 t1 y => Or.inl (act_in (by omega) (by omega) y))⟩)⟩⟩
            · refine En_Ps 2 (pc' := 100) (lv' := [(3, .int z141), (2, .int z39), (0, .ref 3), (1, .ref a)]) (st' := [.int ((Int32.ofInt 2)), .ref 3]) rfl ?_
              have := (by decide : ((Int32.ofInt 2)).toInt = 2)
              refine En_callV rfl rfl rfl rfl rfl rfl rfl rfl tgz_3 (by decide +kernel) rfl (c_54x σ135 h136 ((Int32.ofInt 2)) (geI (by decide : (Int32.ofInt 2).toInt = 2) (by decide)) (leI (by decide : (Int32.ofInt 2).toInt = 2) (by decide)) z139 h140 h147) (by decide) (by decide) (fun v247 σ248 h246 => ?_)
              obtain ⟨h249, h250, z252, h253, rfl, h251⟩ := h246
              have h254 := h251.2.2.2.2.2
              have h255 := Fr_trans h143 h250 (by decide +kernel)
              obtain ⟨S256, h257⟩ : ∃ q : PS, q = err By Nb 2 S145 := ⟨_, rfl⟩
              have h258 : CT By Nb σ248 S256 := by rw [h257]; exact (CT_eq h254 (err_cg (by omega)))
              have h259 := CT_k h258 h253
              have h260 : S256.2.2.2 = S145.2.2.2 := by rw [h257]; exact err_w
              have h261 := KN_fr hP h152 h250 (by decide +kernel)
              have h262 : S256.2.2.2 = Sp.2.2.2 := h260.trans h153
              have o263 : OUT σ0 σ248 a := OUT_fr o154 h250 (by decide +kernel)
              have h264 := Imp_m h251.2.2.2.1 (by first | exact q_c5d285f1b9 h157 | omega)
              have h265 : tw2 By Nb (tV By Nb S19.2.2.1) S121 = S256 := by rw [h257, h146]; exact tw2_p (d := z141.toInt) (by rw [← h146]; omega) (by omega) (by rw [h128]; omega)
              refine En_Ps 1 (pc' := 104) (lv' := [(3, .int z141), (2, .int z39), (0, .ref 3), (1, .ref a)]) (st' := [.ref 3]) rfl ?_
              refine En_getK (j := 5) h253 rfl rfl rfl tgz_3 (by decide +kernel) ?_
              refine En_iNe _ rfl rfl (fun h266 => ?_) (fun hx => by exfalso; have := Imp_m h36.2.2.2.2.2.2.1 (by omega); have := Imp_m h138.2.2.2.2.2.2.1 (by omega); have := Imp_m h251.2.2.2.2.1 (by omega); omega)
              have h267 : fTwin By Nb Sp = S256 := by unfold fTwin; (try dsimp only); first | (rw [← h20, h107, ← h122, h265]; first | done | rfl) | (rw [← h20, h107, ← h122, h265]; rw [if_pos (by omega)]; first | done | rfl) | (rw [← h20, h107, ← h122, h265]; rw [if_neg (by omega)]; first | done | rfl) | (rw [← h20, h107, ← h122, h265]; rw [if_neg (by omega), if_pos (by omega)]; first | done | rfl) | (rw [← h20, h107, ← h122, h265]; rw [if_neg (by omega), if_neg (by omega)]; first | done | rfl) | (rw [← h20, h107, ← h122, h265]; rw [if_neg (by omega), if_neg (by omega), if_neg (by omega)]; first | done | rfl)
              exact En_ret (v := none) rfl rfl rfl ⟨h249, h255, z252, h253, rfl, ⟨o263, by first | exact q_1a6ee862c1 h251.1 | omega, by first | exact q_c733b715bf h251.2.1 | omega, by first | exact q_967777951c h36.2.2.2.1 h251.1 h55 | omega, by first | exact q_366671f89f h36.2.2.2.1 h251.1 h55 | omega, (by rw [h267]; exact ⟨h258, fun z => absurd z (by omega)⟩)⟩⟩
      · have h268 := Imp_m h102.2.2.1 (by first | exact ⟨q_ad5b726bf8 h102.2.1, q_e3350da514 h106 h102.1⟩ | omega)
        refine En_Ps 2 (pc' := 46) (lv' := [(2, .int z39), (0, .ref 3), (1, .ref a)]) (st' := [.int ((Int32.ofInt 2)), .ref 3]) rfl ?_
        have := (by decide : ((Int32.ofInt 2)).toInt = 2)
        refine En_callV rfl rfl rfl rfl rfl rfl rfl rfl tgz_3 (by decide +kernel) rfl (c_54x σ33 h34 ((Int32.ofInt 2)) (geI (by decide : (Int32.ofInt 2).toInt = 2) (by decide)) (leI (by decide : (Int32.ofInt 2).toInt = 2) (by decide)) z37 h38 h45) (by decide) (by decide) (fun v270 σ271 h269 => ?_)
        obtain ⟨h272, h273, z275, h276, rfl, h274⟩ := h269
        have h277 := h274.2.2.2.2.2
        have h278 := Fr_trans h41 h273 (by decide +kernel)
        obtain ⟨S279, h280⟩ : ∃ q : PS, q = err By Nb 2 S43 := ⟨_, rfl⟩
        have h281 : CT By Nb σ271 S279 := by rw [h280]; exact (CT_eq h277 (err_cg (by omega)))
        have h282 := CT_k h281 h276
        have h283 : S279.2.2.2 = S43.2.2.2 := by rw [h280]; exact err_w
        have h284 := KN_fr hP h50 h273 (by decide +kernel)
        have h285 : S279.2.2.2 = Sp.2.2.2 := h283.trans h51
        have o286 : OUT σ0 σ271 a := OUT_fr o52 h273 (by decide +kernel)
        have h287 := Imp_m h274.2.2.2.1 (by first | exact q_c5d285f1b9 h55 | omega)
        have h288 : tw1 By Nb S19 = S279 := by rw [h280, h44]; exact tw1_p (d := z39.toInt) (by rw [← h44]; omega) (by omega) (by rw [h26]; omega)
        refine En_Ps 1 (pc' := 50) (lv' := [(2, .int z39), (0, .ref 3), (1, .ref a)]) (st' := [.ref 3]) rfl ?_
        refine En_getK (j := 5) h276 rfl rfl rfl tgz_3 (by decide +kernel) ?_
        refine En_iEq _ rfl rfl (fun hx => by exfalso; have := Imp_m h36.2.2.2.2.2.2.1 (by omega); have := Imp_m h274.2.2.2.2.1 (by omega); omega) (fun h289 => ?_)
        have h290 : fTwin By Nb Sp = S279 := by unfold fTwin; (try dsimp only); first | (rw [← h20, h288]; first | done | rfl) | (rw [← h20, h288]; rw [if_pos (by omega)]; first | done | rfl) | (rw [← h20, h288]; rw [if_neg (by omega)]; first | done | rfl) | (rw [← h20, h288]; rw [if_neg (by omega), if_pos (by omega)]; first | done | rfl) | (rw [← h20, h288]; rw [if_neg (by omega), if_neg (by omega)]; first | done | rfl) | (rw [← h20, h288]; rw [if_neg (by omega), if_neg (by omega), if_neg (by omega)]; first | done | rfl)
        exact En_ret (v := none) rfl rfl rfl ⟨h272, h278, z275, h276, rfl, ⟨o286, by first | exact q_1a6ee862c1 h274.1 | omega, by first | exact q_c733b715bf h274.2.1 | omega, by first | exact q_ccc3bb8fc9 h36.2.2.2.1 h274.2.2.1 | omega, by first | exact q_28bfca2c13 h36.2.2.2.1 h274.2.2.1 | omega, (by rw [h290]; exact ⟨h281, fun z => absurd z (by omega)⟩)⟩⟩

