/-- DoorSchool$Reader.readFirst(LDoorSchool$Plan;)V -/
abbrev P_65x (σ0 : SG) (By : Int → Int) (Nb : Int) (Sp : PS) (a : Nat) (f : Int32) : PO := fun v σ => WT σ ∧ Fr [(3, 1), (3, 2), (3, 3), (3, 4), (3, 5), (3, 6), (18, 1), (18, 2)] σ0 σ ∧ ∃ f1 : Int32, (σ 3)[5]? = some (.int f1) ∧ ∃ sg1 : Int32, (σ a)[1]? = some (.int sg1) ∧ v = none ∧ -f1.toInt ≤ 0 ∧ f1.toInt - 3 ≤ 0 ∧ -f1.toInt + f.toInt ≤ 0 ∧ f1.toInt - f.toInt - 3 ≤ 0 ∧ -sg1.toInt - 1 ≤ 0 ∧ sg1.toInt - 4 ≤ 0 ∧ -sg1.toInt + f.toInt - 4 ≤ 0 ∧ sg1.toInt - f.toInt - 4 ≤ 0 ∧ f.toInt - f1.toInt ≤ 0 ∧ -sg1.toInt - f1.toInt ≤ 0 ∧ (OTH a σ0 σ ∧ CT By Nb σ (fFirst By Nb Sp) ∧ ((fFirst By Nb Sp).1 = 0 → KN σ a (fFirst By Nb Sp).2.2.2 (act (fFirst By Nb Sp).2.2.2)))
set_option maxRecDepth 10000 in
set_option maxHeartbeats 4000000 in
theorem c_65x {By : Int → Int} {Nb : Int} {Sp : PS} (σ0 : SG) (hσ0 : WT σ0) (a : Nat) (ha : TG a = 18) (f : Int32) (h_f : (σ0 3)[5]? = some (.int f)) (hC : CT By Nb σ0 Sp) (hg : Sp.1 = 0) (hP : PLA a) (hX : FXP σ0 a) (hK : KN σ0 a Sp.2.2.2 (act Sp.2.2.2)) : En 5 112 none mr_65 (P_65x σ0 By Nb Sp a f) 0 [(0, .ref 3), (1, .ref a)] [] σ0 := by
  obtain ⟨hl_f, hu_f⟩ := WT_int hσ0 (g := 3) (by decide +kernel) (by decide +kernel) (l := 0) (u := 3) (by decide +kernel) h_f
  have hF0 : Fr [(3, 1), (3, 2), (3, 3), (3, 4), (3, 5), (3, 6), (18, 1), (18, 2)] σ0 σ0 := Fr_rfl
  have h1 := CT_k hC h_f
  have h2 : Imp (Sp.1 = 0) (KN σ0 a Sp.2.2.2 (fun t => act Sp.2.2.2 t)) := fun _ => hK
  refine En_Ps 2 (pc' := 2) (lv' := [(0, .ref 3), (1, .ref a)]) (st' := [.ref 3, .ref 3]) rfl ?_
  refine En_ldcS (i := 10) rfl rfl rfl ?_
  refine En_callV rfl rfl rfl rfl rfl rfl rfl rfl (by decide +kernel : TG 3 = 3) (by decide +kernel) rfl (c_71s10x σ0 hσ0 hC) (by decide) (by decide) (fun v4 σ5 h3 => ?_)
  obtain ⟨h6, h7, z9, rfl, h8⟩ := h3
  have h10 := h8.2.2
  obtain rfl : σ0 = σ5 := Fr_nil h7
  have h11 := h10
  refine En_callV rfl rfl rfl rfl rfl rfl rfl rfl (by decide +kernel : TG 3 = 3) (by decide +kernel) rfl (c_59x σ0 hσ0 z9 (geI rfl (by omega)) (leI rfl (by omega)) f h_f hC) (by decide) (by decide) (fun v13 σ14 h12 => ?_)
  obtain ⟨h15, h16, z18, h19, rfl, h17⟩ := h12
  have h20 := h17.2.2.2.2.2.2.2
  have h21 := Fr_trans hF0 h16 (by decide +kernel)
  have h22 := OTH_fr (OTH_0 (a := a) (σ := σ0)) h16 (by decide +kernel)
  have h23 : pss By Nb z9.toInt Sp = pss By Nb (iW By Nb 10 Sp) Sp := pss_cg2 (fun zz => by (try have i0 := Imp_m h11 (by omega)); omega)
  obtain ⟨S24, h25⟩ : ∃ q : PS, q = pss By Nb (iW By Nb 10 Sp) Sp := ⟨_, rfl⟩
  have h26 : CT By Nb σ14 S24 := by rw [h25]; exact (CT_eq h20 h23)
  have h27 := CT_k h26 h19
  have h28 : S24.2.2.2 = Sp.2.2.2 := by rw [h25]; exact pss_w
  have h29 : Imp (S24.1 = 0) (Sp.1 = 0) := fun z => (pss_g (by rw [h23, ← h25]; exact z)).1
  have h30 : Imp (S24.1 = 0) (z9.toInt = 1) := fun z => (pss_g (by rw [h23, ← h25]; exact z)).2.1
  have h31 : Imp (S24.1 = 0) (KN σ14 a Sp.2.2.2 (fun t => act Sp.2.2.2 t)) := fun zz => KN_fr hP (Imp_m h2 (by (try have i0 := Imp_m h30 (by omega)); (try have i1 := Imp_m h29 (by omega)); (try have i2 := Imp_m h11 (by omega)); omega)) h16 (by decide +kernel)
  have h32 : S24.2.2.2 = Sp.2.2.2 := h28.trans (rfl : Sp.2.2.2 = Sp.2.2.2)
  refine En_Ps 2 (pc' := 12) (lv' := [(0, .ref 3), (1, .ref a)]) (st' := [.ref 3, .ref 3]) rfl ?_
  refine En_ldcS (i := 13) rfl rfl rfl ?_
  refine En_callV rfl rfl rfl rfl rfl rfl rfl rfl (by decide +kernel : TG 3 = 3) (by decide +kernel) rfl (c_71s13x σ14 h15 h26) (by decide) (by decide) (fun v34 σ35 h33 => ?_)
  obtain ⟨h36, h37, z39, rfl, h38⟩ := h33
  have h40 := h38.2.2
  obtain rfl : σ14 = σ35 := Fr_nil h37
  have h41 := h40
  refine En_callV rfl rfl rfl rfl rfl rfl rfl rfl (by decide +kernel : TG 3 = 3) (by decide +kernel) rfl (c_59x σ14 h15 z39 (geI rfl (by omega)) (leI rfl (by omega)) z18 h19 h26) (by decide) (by decide) (fun v43 σ44 h42 => ?_)
  obtain ⟨h45, h46, z48, h49, rfl, h47⟩ := h42
  have h50 := h47.2.2.2.2.2.2.2
  have h51 := Fr_trans h21 h46 (by decide +kernel)
  have h52 := OTH_fr h22 h46 (by decide +kernel)
  have h53 : pss By Nb z39.toInt S24 = pss By Nb (iW By Nb 13 S24) S24 := pss_cg2 (fun zz => by (try have i0 := Imp_m h41 (by omega)); (try have i1 := Imp_m h30 (by omega)); (try have i2 := Imp_m h29 (by omega)); (try have i3 := Imp_m h11 (by omega)); (try have i4 := Imp_m h17.2.2.2.2.1 (by omega)); (try have i5 := Imp_m h17.2.2.2.2.2.2.1 (by omega)); omega)
  obtain ⟨S54, h55⟩ : ∃ q : PS, q = pss By Nb (iW By Nb 13 S24) S24 := ⟨_, rfl⟩
  have h56 : CT By Nb σ44 S54 := by rw [h55]; exact (CT_eq h50 h53)
  have h57 := CT_k h56 h49
  have h58 : S54.2.2.2 = S24.2.2.2 := by rw [h55]; exact pss_w
  have h59 : Imp (S54.1 = 0) (S24.1 = 0) := fun z => (pss_g (by rw [h53, ← h55]; exact z)).1
  have h60 : Imp (S54.1 = 0) (z39.toInt = 1) := fun z => (pss_g (by rw [h53, ← h55]; exact z)).2.1
  have h61 : Imp (S54.1 = 0) (KN σ44 a Sp.2.2.2 (fun t => act Sp.2.2.2 t)) := fun zz => KN_fr hP (Imp_m h31 (by (try have i0 := Imp_m h60 (by omega)); (try have i1 := Imp_m h59 (by omega)); (try have i2 := Imp_m h41 (by omega)); (try have i3 := Imp_m h30 (by omega)); (try have i4 := Imp_m h29 (by omega)); (try have i5 := Imp_m h11 (by omega)); (try have i6 := Imp_m h17.2.2.2.2.1 (by omega)); (try have i7 := Imp_m h17.2.2.2.2.2.2.1 (by omega)); omega)) h46 (by decide +kernel)
  have h62 : S54.2.2.2 = Sp.2.2.2 := h58.trans h32
  refine En_Ps 4 (pc' := 24) (lv' := [(0, .ref 3), (1, .ref a)]) (st' := [.int ((Int32.ofInt 4)), .int ((Int32.ofInt 2)), .ref 3, .ref a]) rfl ?_
  have := (by decide : ((Int32.ofInt 2)).toInt = 2)
  have := (by decide : ((Int32.ofInt 4)).toInt = 4)
  refine En_callV rfl rfl rfl rfl rfl rfl rfl rfl (by decide +kernel : TG 3 = 3) (by decide +kernel) rfl (c_73x σ44 h45 ((Int32.ofInt 2)) ((Int32.ofInt 4)) z48 h49 h56) (by decide) (by decide) (fun v64 σ65 h63 => ?_)
  obtain ⟨h66, h67, z69, h70, z71, rfl, h68⟩ := h63
  have h72 := h68.2.2.2.2.2.2.2.2.2.2
  have h73 := Fr_trans h51 h67 (by decide +kernel)
  have h74 := Imp_m h68.2.2.2.2.2.2.1
  have h75 := Imp_m h68.2.2.2.2.2.2.2.1
  have h76 := Imp_m h68.2.2.2.2.2.2.2.2.1
  have h77 := Imp_m h68.2.2.2.2.2.2.2.2.2.1
  have h78 := OTH_fr h52 h67 (by decide +kernel)
  have h79 : tN By Nb ((Int32.ofInt 2)).toInt ((Int32.ofInt 4)).toInt S54 = tN By Nb (2) (4) S54 := tN_cg2 (fun zz => by omega) (fun zz => by omega)
  obtain ⟨S80, h81⟩ : ∃ q : PS, q = tN By Nb (2) (4) S54 := ⟨_, rfl⟩
  have h82 : CT By Nb σ65 S80 := by rw [h81]; exact (CT_eq h72.1 h79)
  have h83 := CT_k h82 h70
  have h84 : Imp (S80.1 = 0) (z71.toInt = tV By Nb S54.2.2.1) := fun z => Imp_m h72.2 (by rw [h79, ← h81]; exact z)
  have h85 : Imp (S80.1 = 0) (S54.1 = 0 ∧ tK By Nb S54.2.2.1 = 2 ∧ 2 ≤ tV By Nb S54.2.2.1 ∧ tV By Nb S54.2.2.1 ≤ 4) := fun z => tN_gg (by rw [← h81]; exact z)
  have h86 : S80.2.2.2 = S54.2.2.2 := by rw [h81]; exact tN_w
  have h87 : Imp (S80.1 = 0) (KN σ65 a Sp.2.2.2 (fun t => act Sp.2.2.2 t)) := fun zz => KN_fr hP (Imp_m h61 (by (try have i0 := Imp_m h85 (by omega)); (try have i1 := Imp_m h84 (by omega)); (try have i2 := Imp_m h60 (by omega)); (try have i3 := Imp_m h59 (by omega)); (try have i4 := Imp_m h41 (by omega)); (try have i5 := Imp_m h30 (by omega)); (try have i6 := Imp_m h29 (by omega)); (try have i7 := Imp_m h11 (by omega)); (try have i8 := Imp_m h17.2.2.2.2.1 (by omega)); (try have i9 := Imp_m h17.2.2.2.2.2.2.1 (by omega)); (try have i10 := Imp_m h47.2.2.2.2.1 (by omega)); (try have i11 := Imp_m h47.2.2.2.2.2.2.1 (by omega)); omega)) h67 (by decide +kernel)
  have h88 : S80.2.2.2 = Sp.2.2.2 := h86.trans h62
  have h89 := Imp_m h68.2.2.2.2.2.2.2.2.1 (by omega)
  have h90 := Imp_m h68.2.2.2.2.2.2.2.2.2.1 (by omega)
  refine En_put (j := 1) rfl rfl rfl ha (by decide +kernel) rfl (vI (l := (-1)) (u := 4) (by decide +kernel) rfl (by omega) (by omega)) h66 h73 (by decide +kernel) (fun σ91 h92 h93 h94 h95 => ?_)
  have h96 := OTH_pt h78 h95
  obtain ⟨S97, h98⟩ : ∃ q : PS, q = wst S80 (0) ((tV By Nb S54.2.2.1)) := ⟨_, rfl⟩
  have h99 : CT By Nb σ91 S97 := by rw [h98]; exact CT_wst (CT_ne h82 h95 (by have := hP; unfold PLA at this; omega))
  have h100 : Imp (S97.1 = 0) (KN σ91 a (uPd Sp.2.2.2 (0) ((tV By Nb S54.2.2.1))) (fun t => (act Sp.2.2.2 t ∨ t = 0))) := fun zz => KN_st (Imp_m h87 (by rw [h98] at zz; exact zz)) h94 h95 (by omega) (by omega) (by rw [lcO_lt (by decide) (by decide), Nat.add_zero]) (by decide) (by have z2 : S80.1 = 0 := (by rw [h98] at zz; exact zz); (try have i0 := Imp_m h85 (by omega)); (try have i1 := Imp_m h84 (by omega)); (try have i2 := Imp_m h60 (by omega)); (try have i3 := Imp_m h59 (by omega)); (try have i4 := Imp_m h41 (by omega)); (try have i5 := Imp_m h30 (by omega)); (try have i6 := Imp_m h29 (by omega)); (try have i7 := Imp_m h11 (by omega)); (try have i8 := Imp_m h17.2.2.2.2.1 (by omega)); (try have i9 := Imp_m h17.2.2.2.2.2.2.1 (by omega)); (try have i10 := Imp_m h47.2.2.2.2.1 (by omega)); (try have i11 := Imp_m h47.2.2.2.2.2.2.1 (by omega)); (try have i12 := Imp_m h68.2.2.2.2.2.2.1 (by omega)); (try have i13 := Imp_m h68.2.2.2.2.2.2.2.1 (by omega)); omega)
  have h101 : S97.2.2.2 = (uPd Sp.2.2.2 (0) ((tV By Nb S54.2.2.1))) := by rw [h98]; show uPd S80.2.2.2 _ _ = _; rw [h88]
  have h102 : S97.1 = S80.1 := by rw [h98]; rfl
  have h103 := CT_k h99 ((h95 _ _ (Or.inr (by decide))).trans h70)
  refine En_Ps 2 (pc' := 32) (lv' := [(0, .ref 3), (1, .ref a)]) (st' := [.ref 3, .ref 3]) rfl ?_
  refine En_ldcS (i := 16) rfl rfl rfl ?_
  refine En_callV rfl rfl rfl rfl rfl rfl rfl rfl (by decide +kernel : TG 3 = 3) (by decide +kernel) rfl (c_71s16x σ91 h92 h99) (by decide) (by decide) (fun v105 σ106 h104 => ?_)
  obtain ⟨h107, h108, z110, rfl, h109⟩ := h104
  have h111 := h109.2.2
  obtain rfl : σ91 = σ106 := Fr_nil h108
  have h112 := h111
  refine En_callV rfl rfl rfl rfl rfl rfl rfl rfl (by decide +kernel : TG 3 = 3) (by decide +kernel) rfl (c_59x σ91 h92 z110 (geI rfl (by omega)) (leI rfl (by omega)) z69 ((h95 _ _ (Or.inr (by decide))).trans h70) h99) (by decide) (by decide) (fun v114 σ115 h113 => ?_)
  obtain ⟨h116, h117, z119, h120, rfl, h118⟩ := h113
  have h121 := h118.2.2.2.2.2.2.2
  have h122 := Fr_trans h93 h117 (by decide +kernel)
  have h123 := OTH_fr h96 h117 (by decide +kernel)
  have h124 : pss By Nb z110.toInt S97 = pss By Nb (iW By Nb 16 S97) S97 := pss_cg2 (fun zz => by (try have i0 := Imp_m h112 (by omega)); (try have i1 := Imp_m h85 (by omega)); (try have i2 := Imp_m h84 (by omega)); (try have i3 := Imp_m h60 (by omega)); (try have i4 := Imp_m h59 (by omega)); (try have i5 := Imp_m h41 (by omega)); (try have i6 := Imp_m h30 (by omega)); (try have i7 := Imp_m h29 (by omega)); (try have i8 := Imp_m h11 (by omega)); (try have i9 := Imp_m h17.2.2.2.2.1 (by omega)); (try have i10 := Imp_m h17.2.2.2.2.2.2.1 (by omega)); (try have i11 := Imp_m h47.2.2.2.2.1 (by omega)); (try have i12 := Imp_m h47.2.2.2.2.2.2.1 (by omega)); (try have i13 := Imp_m h68.2.2.2.2.2.2.1 (by omega)); (try have i14 := Imp_m h68.2.2.2.2.2.2.2.1 (by omega)); omega)
  obtain ⟨S125, h126⟩ : ∃ q : PS, q = pss By Nb (iW By Nb 16 S97) S97 := ⟨_, rfl⟩
  have h127 : CT By Nb σ115 S125 := by rw [h126]; exact (CT_eq h121 h124)
  have h128 := CT_k h127 h120
  have h129 : S125.2.2.2 = S97.2.2.2 := by rw [h126]; exact pss_w
  have h130 : Imp (S125.1 = 0) (S97.1 = 0) := fun z => (pss_g (by rw [h124, ← h126]; exact z)).1
  have h131 : Imp (S125.1 = 0) (z110.toInt = 1) := fun z => (pss_g (by rw [h124, ← h126]; exact z)).2.1
  have h132 : Imp (S125.1 = 0) (KN σ115 a (uPd Sp.2.2.2 (0) ((tV By Nb S54.2.2.1))) (fun t => (act Sp.2.2.2 t ∨ t = 0))) := fun zz => KN_fr hP (Imp_m h100 (by (try have i0 := Imp_m h131 (by omega)); (try have i1 := Imp_m h130 (by omega)); (try have i2 := Imp_m h112 (by omega)); (try have i3 := Imp_m h85 (by omega)); (try have i4 := Imp_m h84 (by omega)); (try have i5 := Imp_m h60 (by omega)); (try have i6 := Imp_m h59 (by omega)); (try have i7 := Imp_m h41 (by omega)); (try have i8 := Imp_m h30 (by omega)); (try have i9 := Imp_m h29 (by omega)); (try have i10 := Imp_m h11 (by omega)); (try have i11 := Imp_m h17.2.2.2.2.1 (by omega)); (try have i12 := Imp_m h17.2.2.2.2.2.2.1 (by omega)); (try have i13 := Imp_m h47.2.2.2.2.1 (by omega)); (try have i14 := Imp_m h47.2.2.2.2.2.2.1 (by omega)); (try have i15 := Imp_m h68.2.2.2.2.2.2.1 (by omega)); (try have i16 := Imp_m h68.2.2.2.2.2.2.2.1 (by omega)); omega)) h117 (by decide +kernel)
  have h133 : S125.2.2.2 = (uPd Sp.2.2.2 (0) ((tV By Nb S54.2.2.1))) := h129.trans h101
  refine En_Ps 4 (pc' := 44) (lv' := [(0, .ref 3), (1, .ref a)]) (st' := [.int ((Int32.ofInt 3)), .int ((Int32.ofInt 1)), .ref 3, .ref a]) rfl ?_
  have := (by decide : ((Int32.ofInt 1)).toInt = 1)
  have := (by decide : ((Int32.ofInt 3)).toInt = 3)
  refine En_callV rfl rfl rfl rfl rfl rfl rfl rfl (by decide +kernel : TG 3 = 3) (by decide +kernel) rfl (c_73x σ115 h116 ((Int32.ofInt 1)) ((Int32.ofInt 3)) z119 h120 h127) (by decide) (by decide) (fun v135 σ136 h134 => ?_)
  obtain ⟨h137, h138, z140, h141, z142, rfl, h139⟩ := h134
  have h143 := h139.2.2.2.2.2.2.2.2.2.2
  have h144 := Fr_trans h122 h138 (by decide +kernel)
  have h145 := Imp_m h139.2.2.2.2.2.2.1
  have h146 := Imp_m h139.2.2.2.2.2.2.2.1
  have h147 := Imp_m h139.2.2.2.2.2.2.2.2.1
  have h148 := Imp_m h139.2.2.2.2.2.2.2.2.2.1
  have h149 := OTH_fr h123 h138 (by decide +kernel)
  have h150 : tN By Nb ((Int32.ofInt 1)).toInt ((Int32.ofInt 3)).toInt S125 = tN By Nb (1) (3) S125 := tN_cg2 (fun zz => by omega) (fun zz => by omega)
  obtain ⟨S151, h152⟩ : ∃ q : PS, q = tN By Nb (1) (3) S125 := ⟨_, rfl⟩
  have h153 : CT By Nb σ136 S151 := by rw [h152]; exact (CT_eq h143.1 h150)
  have h154 := CT_k h153 h141
  have h155 : Imp (S151.1 = 0) (z142.toInt = tV By Nb S125.2.2.1) := fun z => Imp_m h143.2 (by rw [h150, ← h152]; exact z)
  have h156 : Imp (S151.1 = 0) (S125.1 = 0 ∧ tK By Nb S125.2.2.1 = 2 ∧ 1 ≤ tV By Nb S125.2.2.1 ∧ tV By Nb S125.2.2.1 ≤ 3) := fun z => tN_gg (by rw [← h152]; exact z)
  have h157 : S151.2.2.2 = S125.2.2.2 := by rw [h152]; exact tN_w
  have h158 : Imp (S151.1 = 0) (KN σ136 a (uPd Sp.2.2.2 (0) ((tV By Nb S54.2.2.1))) (fun t => (act Sp.2.2.2 t ∨ t = 0))) := fun zz => KN_fr hP (Imp_m h132 (by (try have i0 := Imp_m h156 (by omega)); (try have i1 := Imp_m h155 (by omega)); (try have i2 := Imp_m h131 (by omega)); (try have i3 := Imp_m h130 (by omega)); (try have i4 := Imp_m h112 (by omega)); (try have i5 := Imp_m h85 (by omega)); (try have i6 := Imp_m h84 (by omega)); (try have i7 := Imp_m h60 (by omega)); (try have i8 := Imp_m h59 (by omega)); (try have i9 := Imp_m h41 (by omega)); (try have i10 := Imp_m h30 (by omega)); (try have i11 := Imp_m h29 (by omega)); (try have i12 := Imp_m h11 (by omega)); (try have i13 := Imp_m h17.2.2.2.2.1 (by omega)); (try have i14 := Imp_m h17.2.2.2.2.2.2.1 (by omega)); (try have i15 := Imp_m h47.2.2.2.2.1 (by omega)); (try have i16 := Imp_m h47.2.2.2.2.2.2.1 (by omega)); (try have i17 := Imp_m h68.2.2.2.2.2.2.1 (by omega)); (try have i18 := Imp_m h68.2.2.2.2.2.2.2.1 (by omega)); (try have i19 := Imp_m h118.2.2.2.2.1 (by omega)); (try have i20 := Imp_m h118.2.2.2.2.2.2.1 (by omega)); omega)) h138 (by decide +kernel)
  have h159 : S151.2.2.2 = (uPd Sp.2.2.2 (0) ((tV By Nb S54.2.2.1))) := h157.trans h133
  have h160 := Imp_m h139.2.2.2.2.2.2.2.2.1 (by omega)
  have h161 := Imp_m h139.2.2.2.2.2.2.2.2.2.1 (by omega)
  refine En_put (j := 2) rfl rfl rfl ha (by decide +kernel) rfl (vI (l := (-1)) (u := 3) (by decide +kernel) rfl (by omega) (by omega)) h137 h144 (by decide +kernel) (fun σ162 h163 h164 h165 h166 => ?_)
  have h167 := OTH_pj h149 h166 (by decide)
  obtain ⟨S168, h169⟩ : ∃ q : PS, q = wst S151 (1) ((tV By Nb S125.2.2.1)) := ⟨_, rfl⟩
  have h170 : CT By Nb σ162 S168 := by rw [h169]; exact CT_wst (CT_ne h153 h166 (by have := hP; unfold PLA at this; omega))
  have h171 : Imp (S168.1 = 0) (KN σ162 a (uPd (uPd Sp.2.2.2 (0) ((tV By Nb S54.2.2.1))) (1) ((tV By Nb S125.2.2.1))) (fun t => ((act Sp.2.2.2 t ∨ t = 0) ∨ t = 1))) := fun zz => KN_st (Imp_m h158 (by rw [h169] at zz; exact zz)) h165 h166 (by omega) (by omega) (by rw [lcO_lt (by decide) (by decide), Nat.add_zero]) (by decide) (by have z2 : S151.1 = 0 := (by rw [h169] at zz; exact zz); (try have i0 := Imp_m h156 (by omega)); (try have i1 := Imp_m h155 (by omega)); (try have i2 := Imp_m h131 (by omega)); (try have i3 := Imp_m h130 (by omega)); (try have i4 := Imp_m h112 (by omega)); (try have i5 := Imp_m h85 (by omega)); (try have i6 := Imp_m h84 (by omega)); (try have i7 := Imp_m h60 (by omega)); (try have i8 := Imp_m h59 (by omega)); (try have i9 := Imp_m h41 (by omega)); (try have i10 := Imp_m h30 (by omega)); (try have i11 := Imp_m h29 (by omega)); (try have i12 := Imp_m h11 (by omega)); (try have i13 := Imp_m h17.2.2.2.2.1 (by omega)); (try have i14 := Imp_m h17.2.2.2.2.2.2.1 (by omega)); (try have i15 := Imp_m h47.2.2.2.2.1 (by omega)); (try have i16 := Imp_m h47.2.2.2.2.2.2.1 (by omega)); (try have i17 := Imp_m h68.2.2.2.2.2.2.1 (by omega)); (try have i18 := Imp_m h68.2.2.2.2.2.2.2.1 (by omega)); (try have i19 := Imp_m h118.2.2.2.2.1 (by omega)); (try have i20 := Imp_m h118.2.2.2.2.2.2.1 (by omega)); (try have i21 := Imp_m h139.2.2.2.2.2.2.1 (by omega)); (try have i22 := Imp_m h139.2.2.2.2.2.2.2.1 (by omega)); omega)
  have h172 : S168.2.2.2 = (uPd (uPd Sp.2.2.2 (0) ((tV By Nb S54.2.2.1))) (1) ((tV By Nb S125.2.2.1))) := by rw [h169]; show uPd S151.2.2.2 _ _ = _; rw [h159]
  have h173 : S168.1 = S151.1 := by rw [h169]; rfl
  have h174 := CT_k h170 ((h166 _ _ (Or.inr (by decide))).trans h141)
  have h175 : fFirst By Nb Sp = S168 := by unfold fFirst; (try dsimp only); first | (rw [← h25, ← h55, ← h81, ← h98, ← h126, ← h152, ← h169]; first | done | rfl) | (rw [← h25, ← h55, ← h81, ← h98, ← h126, ← h152, ← h169]; rw [if_pos (by omega)]; first | done | rfl) | (rw [← h25, ← h55, ← h81, ← h98, ← h126, ← h152, ← h169]; rw [if_neg (by omega)]; first | done | rfl) | (rw [← h25, ← h55, ← h81, ← h98, ← h126, ← h152, ← h169]; rw [if_neg (by omega), if_pos (by omega)]; first | done | rfl) | (rw [← h25, ← h55, ← h81, ← h98, ← h126, ← h152, ← h169]; rw [if_neg (by omega), if_neg (by omega)]; first | done | rfl) | (rw [← h25, ← h55, ← h81, ← h98, ← h126, ← h152, ← h169]; rw [if_neg (by omega), if_neg (by omega), if_neg (by omega)]; first | done | rfl)
  exact En_ret (v := none) rfl rfl rfl ⟨h163, h164, z140, ((h166 _ _ (Or.inr (by decide))).trans h141), z71, ((h166 _ _ (Or.inr (by decide))).trans ((h138 _ _ (inW ha (by decide +kernel))).trans ((h117 _ _ (inW ha (by decide +kernel))).trans h94))), rfl, ⟨by omega, by omega, by omega, by omega, by omega, by omega, by omega, by omega, by omega, by omega, (by rw [h175]; exact ⟨h167, h170, fun zz => by rw [h172]; exact KN_sub (Imp_m h171 zz) (fun t t0 t1 y => Or.inl (Or.inl (act_low (by omega) (act_low (by omega) y))))⟩)⟩⟩
/-- DoorSchool$Reader.takeWay()I -/
abbrev P_75x (σ0 : SG) (By : Int → Int) (Nb : Int) (Sp : PS) (f : Int32) : PO := fun v σ => WT σ ∧ Fr [(3, 1), (3, 2), (3, 3), (3, 4), (3, 5), (3, 6)] σ0 σ ∧ ∃ f1 : Int32, (σ 3)[5]? = some (.int f1) ∧ ∃ ret : Int32, v = some (.int ret) ∧ -ret.toInt - 1 ≤ 0 ∧ ret.toInt - 2 ≤ 0 ∧ -f1.toInt ≤ 0 ∧ f1.toInt - 3 ≤ 0 ∧ -f1.toInt + f.toInt ≤ 0 ∧ f1.toInt - f.toInt - 3 ≤ 0 ∧ f.toInt - f1.toInt ≤ 0 ∧ Imp (f1.toInt ≤ 0) (-ret.toInt ≤ 0) ∧ (CT By Nb σ (tW By Nb Sp) ∧ Imp ((tW By Nb Sp).1 = 0) (ret.toInt = wyV By Nb Sp))
set_option maxRecDepth 10000 in
set_option maxHeartbeats 4000000 in
theorem c_75x {By : Int → Int} {Nb : Int} {Sp : PS} (σ0 : SG) (hσ0 : WT σ0) (f : Int32) (h_f : (σ0 3)[5]? = some (.int f)) (hC : CT By Nb σ0 Sp) : En 5 112 none mr_75 (P_75x σ0 By Nb Sp f) 0 [(0, .ref 3)] [] σ0 := by
  obtain ⟨hl_f, hu_f⟩ := WT_int hσ0 (g := 3) (by decide +kernel) (by decide +kernel) (l := 0) (u := 3) (by decide +kernel) h_f
  have hF0 : Fr [(3, 1), (3, 2), (3, 3), (3, 4), (3, 5), (3, 6)] σ0 σ0 := Fr_rfl
  have h1 := CT_k hC h_f
  refine En_Ps 3 (pc' := 3) (lv' := [(1, .int ((Int32.ofInt (-1)))), (0, .ref 3)]) (st' := [.ref 3]) rfl ?_
  refine En_ldcS (i := 4) rfl rfl rfl ?_
  refine En_callV rfl rfl rfl rfl rfl rfl rfl rfl (by decide +kernel : TG 3 = 3) (by decide +kernel) rfl (c_71s4x σ0 hσ0 hC) (by decide) (by decide) (fun v3 σ4 h2 => ?_)
  obtain ⟨h5, h6, z8, rfl, h7⟩ := h2
  have h9 := h7.2.2
  obtain rfl : σ0 = σ4 := Fr_nil h6
  have h10 := h9
  refine En_iEq _ rfl rfl (fun h11 => ?_) (fun h11 => ?_)
  · refine En_Ps 1 (pc' := 17) (lv' := [(1, .int ((Int32.ofInt (-1)))), (0, .ref 3)]) (st' := [.ref 3]) rfl ?_
    refine En_ldcS (i := 11) rfl rfl rfl ?_
    refine En_callV rfl rfl rfl rfl rfl rfl rfl rfl (by decide +kernel : TG 3 = 3) (by decide +kernel) rfl (c_71s11x σ0 hσ0 hC) (by decide) (by decide) (fun v13 σ14 h12 => ?_)
    obtain ⟨h15, h16, z18, rfl, h17⟩ := h12
    have h19 := h17.2.2
    obtain rfl : σ0 = σ14 := Fr_nil h16
    have h20 := h19
    refine En_iEq _ rfl rfl (fun h21 => ?_) (fun h21 => ?_)
    · refine En_Ps 1 (pc' := 31) (lv' := [(1, .int ((Int32.ofInt (-1)))), (0, .ref 3)]) (st' := [.ref 3]) rfl ?_
      refine En_ldcS (i := 7) rfl rfl rfl ?_
      refine En_callV rfl rfl rfl rfl rfl rfl rfl rfl (by decide +kernel : TG 3 = 3) (by decide +kernel) rfl (c_71s7x σ0 hσ0 hC) (by decide) (by decide) (fun v23 σ24 h22 => ?_)
      obtain ⟨h25, h26, z28, rfl, h27⟩ := h22
      have h29 := h27.2.2
      obtain rfl : σ0 = σ24 := Fr_nil h26
      have h30 := h29
      refine En_iEq _ rfl rfl (fun h31 => ?_) (fun h31 => ?_)
      · refine En_Ps 3 (pc' := 44) (lv' := [(1, .int ((Int32.ofInt (-1)))), (0, .ref 3)]) (st' := [.int ((Int32.ofInt (-1))), .int ((Int32.ofInt (-1))), .ref 3]) rfl ?_
        refine En_icEq _ (by decide : (Int32.ofInt (-1)).toInt = -1) (by decide : (Int32.ofInt (-1)).toInt = -1) rfl (fun h32 => ?_) (fun hx => by exfalso; omega)
        refine En_Ps 1 (pc' := 52) (lv' := [(1, .int ((Int32.ofInt (-1)))), (0, .ref 3)]) (st' := [.int ((Int32.ofInt 0)), .ref 3]) rfl ?_
        have := (by decide : ((Int32.ofInt 0)).toInt = 0)
        refine En_callV rfl rfl rfl rfl rfl rfl rfl rfl (by decide +kernel : TG 3 = 3) (by decide +kernel) rfl (c_59x σ0 hσ0 ((Int32.ofInt 0)) (geI (by decide : (Int32.ofInt 0).toInt = 0) (by omega)) (leI (by decide : (Int32.ofInt 0).toInt = 0) (by omega)) f h_f hC) (by decide) (by decide) (fun v34 σ35 h33 => ?_)
        obtain ⟨h36, h37, z39, h40, rfl, h38⟩ := h33
        have h41 := h38.2.2.2.2.2.2.2
        have h42 := Fr_trans hF0 h37 (by decide +kernel)
        have h43 : pss By Nb ((Int32.ofInt 0)).toInt Sp = tW By Nb Sp := tWc (fun zz => by (try have i0 := Imp_m h30 (by omega)); (try have i1 := Imp_m h20 (by omega)); (try have i2 := Imp_m h10 (by omega)); omega)
        obtain ⟨S44, h45⟩ : ∃ q : PS, q = tW By Nb Sp := ⟨_, rfl⟩
        have h46 : CT By Nb σ35 S44 := by rw [h45]; exact (CT_eq h41 h43)
        have h47 := CT_k h46 h40
        have h48 : S44.2.2.2 = Sp.2.2.2 := by rw [h45]; exact pss_w
        have h49 : Imp (S44.1 = 0) (Sp.1 = 0) := fun z => (pss_g (by rw [h43, ← h45]; exact z)).1
        have h50 : Imp (S44.1 = 0) (((Int32.ofInt 0)).toInt = 1) := fun z => (pss_g (by rw [h43, ← h45]; exact z)).2.1
        have h51 := Imp_m h38.2.2.2.2.2.2.1 (by omega)
        refine En_Ps 1 (pc' := 56) (lv' := [(1, .int ((Int32.ofInt (-1)))), (0, .ref 3)]) (st' := [.int ((Int32.ofInt (-1)))]) rfl ?_
        refine En_top (by decide : (Int32.ofInt (-1)).toInt = -1) (fun z52 h53 => ?_)
        exact En_ret (v := some (.int z52)) rfl rfl rfl ⟨h36, h42, z39, h40, z52, rfl, ⟨by omega, by omega, by omega, by omega, by omega, by omega, by omega, fun _ => by omega, ⟨CT_eq h46 (by subst h45; rfl), fun zz => wyVc (by subst h45; (try have i0 := Imp_m h50 (by omega)); (try have i1 := Imp_m h49 (by omega)); (try have i2 := Imp_m h30 (by omega)); (try have i3 := Imp_m h20 (by omega)); (try have i4 := Imp_m h10 (by omega)); (try have i5 := Imp_m h38.2.2.2.2.1 (by omega)); omega)⟩⟩⟩
      · refine En_Ps 5 (pc' := 44) (lv' := [(1, .int ((Int32.ofInt 2))), (0, .ref 3)]) (st' := [.int ((Int32.ofInt (-1))), .int ((Int32.ofInt 2)), .ref 3]) rfl ?_
        refine En_icEq _ (by decide : (Int32.ofInt 2).toInt = 2) (by decide : (Int32.ofInt (-1)).toInt = -1) rfl (fun hx => by exfalso; omega) (fun h54 => ?_)
        refine En_Ps 2 (pc' := 52) (lv' := [(1, .int ((Int32.ofInt 2))), (0, .ref 3)]) (st' := [.int ((Int32.ofInt 1)), .ref 3]) rfl ?_
        have := (by decide : ((Int32.ofInt 1)).toInt = 1)
        refine En_callV rfl rfl rfl rfl rfl rfl rfl rfl (by decide +kernel : TG 3 = 3) (by decide +kernel) rfl (c_59x σ0 hσ0 ((Int32.ofInt 1)) (geI (by decide : (Int32.ofInt 1).toInt = 1) (by omega)) (leI (by decide : (Int32.ofInt 1).toInt = 1) (by omega)) f h_f hC) (by decide) (by decide) (fun v56 σ57 h55 => ?_)
        obtain ⟨h58, h59, z61, h62, rfl, h60⟩ := h55
        have h63 := h60.2.2.2.2.2.2.2
        have h64 := Fr_trans hF0 h59 (by decide +kernel)
        have h65 : pss By Nb ((Int32.ofInt 1)).toInt Sp = tW By Nb Sp := tWc (fun zz => by (try have i0 := Imp_m h30 (by omega)); (try have i1 := Imp_m h20 (by omega)); (try have i2 := Imp_m h10 (by omega)); omega)
        obtain ⟨S66, h67⟩ : ∃ q : PS, q = tW By Nb Sp := ⟨_, rfl⟩
        have h68 : CT By Nb σ57 S66 := by rw [h67]; exact (CT_eq h63 h65)
        have h69 := CT_k h68 h62
        have h70 : S66.2.2.2 = Sp.2.2.2 := by rw [h67]; exact pss_w
        have h71 : Imp (S66.1 = 0) (Sp.1 = 0) := fun z => (pss_g (by rw [h65, ← h67]; exact z)).1
        have h72 : Imp (S66.1 = 0) (((Int32.ofInt 1)).toInt = 1) := fun z => (pss_g (by rw [h65, ← h67]; exact z)).2.1
        have h73 := Imp_m h60.2.2.2.2.1 (by omega)
        refine En_Ps 1 (pc' := 56) (lv' := [(1, .int ((Int32.ofInt 2))), (0, .ref 3)]) (st' := [.int ((Int32.ofInt 2))]) rfl ?_
        refine En_top (by decide : (Int32.ofInt 2).toInt = 2) (fun z74 h75 => ?_)
        exact En_ret (v := some (.int z74)) rfl rfl rfl ⟨h58, h64, z61, h62, z74, rfl, ⟨by omega, by omega, by omega, by omega, by omega, by omega, by omega, fun _ => by omega, ⟨CT_eq h68 (by subst h67; rfl), fun zz => wyVc (by subst h67; (try have i0 := Imp_m h72 (by omega)); (try have i1 := Imp_m h71 (by omega)); (try have i2 := Imp_m h30 (by omega)); (try have i3 := Imp_m h20 (by omega)); (try have i4 := Imp_m h10 (by omega)); (try have i5 := Imp_m h60.2.2.2.2.2.2.1 (by omega)); omega)⟩⟩⟩
    · refine En_Ps 6 (pc' := 44) (lv' := [(1, .int ((Int32.ofInt 1))), (0, .ref 3)]) (st' := [.int ((Int32.ofInt (-1))), .int ((Int32.ofInt 1)), .ref 3]) rfl ?_
      refine En_icEq _ (by decide : (Int32.ofInt 1).toInt = 1) (by decide : (Int32.ofInt (-1)).toInt = -1) rfl (fun hx => by exfalso; omega) (fun h76 => ?_)
      refine En_Ps 2 (pc' := 52) (lv' := [(1, .int ((Int32.ofInt 1))), (0, .ref 3)]) (st' := [.int ((Int32.ofInt 1)), .ref 3]) rfl ?_
      have := (by decide : ((Int32.ofInt 1)).toInt = 1)
      refine En_callV rfl rfl rfl rfl rfl rfl rfl rfl (by decide +kernel : TG 3 = 3) (by decide +kernel) rfl (c_59x σ0 hσ0 ((Int32.ofInt 1)) (geI (by decide : (Int32.ofInt 1).toInt = 1) (by omega)) (leI (by decide : (Int32.ofInt 1).toInt = 1) (by omega)) f h_f hC) (by decide) (by decide) (fun v78 σ79 h77 => ?_)
      obtain ⟨h80, h81, z83, h84, rfl, h82⟩ := h77
      have h85 := h82.2.2.2.2.2.2.2
      have h86 := Fr_trans hF0 h81 (by decide +kernel)
      have h87 : pss By Nb ((Int32.ofInt 1)).toInt Sp = tW By Nb Sp := tWc (fun zz => by (try have i0 := Imp_m h20 (by omega)); (try have i1 := Imp_m h10 (by omega)); omega)
      obtain ⟨S88, h89⟩ : ∃ q : PS, q = tW By Nb Sp := ⟨_, rfl⟩
      have h90 : CT By Nb σ79 S88 := by rw [h89]; exact (CT_eq h85 h87)
      have h91 := CT_k h90 h84
      have h92 : S88.2.2.2 = Sp.2.2.2 := by rw [h89]; exact pss_w
      have h93 : Imp (S88.1 = 0) (Sp.1 = 0) := fun z => (pss_g (by rw [h87, ← h89]; exact z)).1
      have h94 : Imp (S88.1 = 0) (((Int32.ofInt 1)).toInt = 1) := fun z => (pss_g (by rw [h87, ← h89]; exact z)).2.1
      have h95 := Imp_m h82.2.2.2.2.1 (by omega)
      refine En_Ps 1 (pc' := 56) (lv' := [(1, .int ((Int32.ofInt 1))), (0, .ref 3)]) (st' := [.int ((Int32.ofInt 1))]) rfl ?_
      refine En_top (by decide : (Int32.ofInt 1).toInt = 1) (fun z96 h97 => ?_)
      exact En_ret (v := some (.int z96)) rfl rfl rfl ⟨h80, h86, z83, h84, z96, rfl, ⟨by omega, by omega, by omega, by omega, by omega, by omega, by omega, fun _ => by omega, ⟨CT_eq h90 (by subst h89; rfl), fun zz => wyVc (by subst h89; (try have i0 := Imp_m h94 (by omega)); (try have i1 := Imp_m h93 (by omega)); (try have i2 := Imp_m h20 (by omega)); (try have i3 := Imp_m h10 (by omega)); (try have i4 := Imp_m h82.2.2.2.2.2.2.1 (by omega)); omega)⟩⟩⟩
  · refine En_Ps 6 (pc' := 44) (lv' := [(1, .int ((Int32.ofInt 0))), (0, .ref 3)]) (st' := [.int ((Int32.ofInt (-1))), .int ((Int32.ofInt 0)), .ref 3]) rfl ?_
    refine En_icEq _ (by decide : (Int32.ofInt 0).toInt = 0) (by decide : (Int32.ofInt (-1)).toInt = -1) rfl (fun hx => by exfalso; omega) (fun h98 => ?_)
    refine En_Ps 2 (pc' := 52) (lv' := [(1, .int ((Int32.ofInt 0))), (0, .ref 3)]) (st' := [.int ((Int32.ofInt 1)), .ref 3]) rfl ?_
    have := (by decide : ((Int32.ofInt 1)).toInt = 1)
    refine En_callV rfl rfl rfl rfl rfl rfl rfl rfl (by decide +kernel : TG 3 = 3) (by decide +kernel) rfl (c_59x σ0 hσ0 ((Int32.ofInt 1)) (geI (by decide : (Int32.ofInt 1).toInt = 1) (by omega)) (leI (by decide : (Int32.ofInt 1).toInt = 1) (by omega)) f h_f hC) (by decide) (by decide) (fun v100 σ101 h99 => ?_)
    obtain ⟨h102, h103, z105, h106, rfl, h104⟩ := h99
    have h107 := h104.2.2.2.2.2.2.2
    have h108 := Fr_trans hF0 h103 (by decide +kernel)
    have h109 : pss By Nb ((Int32.ofInt 1)).toInt Sp = tW By Nb Sp := tWc (fun zz => by (try have i0 := Imp_m h10 (by omega)); omega)
    obtain ⟨S110, h111⟩ : ∃ q : PS, q = tW By Nb Sp := ⟨_, rfl⟩
    have h112 : CT By Nb σ101 S110 := by rw [h111]; exact (CT_eq h107 h109)
    have h113 := CT_k h112 h106
    have h114 : S110.2.2.2 = Sp.2.2.2 := by rw [h111]; exact pss_w
    have h115 : Imp (S110.1 = 0) (Sp.1 = 0) := fun z => (pss_g (by rw [h109, ← h111]; exact z)).1
    have h116 : Imp (S110.1 = 0) (((Int32.ofInt 1)).toInt = 1) := fun z => (pss_g (by rw [h109, ← h111]; exact z)).2.1
    have h117 := Imp_m h104.2.2.2.2.1 (by omega)
    refine En_Ps 1 (pc' := 56) (lv' := [(1, .int ((Int32.ofInt 0))), (0, .ref 3)]) (st' := [.int ((Int32.ofInt 0))]) rfl ?_
    refine En_top (by decide : (Int32.ofInt 0).toInt = 0) (fun z118 h119 => ?_)
    exact En_ret (v := some (.int z118)) rfl rfl rfl ⟨h102, h108, z105, h106, z118, rfl, ⟨by omega, by omega, by omega, by omega, by omega, by omega, by omega, fun _ => by omega, ⟨CT_eq h112 (by subst h111; rfl), fun zz => wyVc (by subst h111; (try have i0 := Imp_m h116 (by omega)); (try have i1 := Imp_m h115 (by omega)); (try have i2 := Imp_m h10 (by omega)); (try have i3 := Imp_m h104.2.2.2.2.2.2.1 (by omega)); omega)⟩⟩⟩
/-- DoorSchool$Reader.readDoor(LDoorSchool$Plan;)V -/
abbrev P_63x (σ0 : SG) (By : Int → Int) (Nb : Int) (Sp : PS) (a : Nat) (f : Int32) (sg : Int32) : PO := fun v σ => WT σ ∧ Fr [(3, 1), (3, 2), (3, 3), (3, 4), (3, 5), (3, 6), (18, 3), (20, 2), (28, 1), (28, 2), (28, 3)] σ0 σ ∧ ∃ f1 : Int32, (σ 3)[5]? = some (.int f1) ∧ v = none ∧ -f1.toInt ≤ 0 ∧ f1.toInt - 3 ≤ 0 ∧ -f1.toInt + f.toInt ≤ 0 ∧ f1.toInt - f.toInt - 3 ≤ 0 ∧ -f1.toInt + sg.toInt - 4 ≤ 0 ∧ f1.toInt - sg.toInt - 3 ≤ 0 ∧ f.toInt - f1.toInt ≤ 0 ∧ (CT By Nb σ (fDoor By Nb Sp) ∧ ((fDoor By Nb Sp).1 = 0 → KN σ a (fDoor By Nb Sp).2.2.2 (act (fDoor By Nb Sp).2.2.2)))
set_option maxRecDepth 10000 in
set_option maxHeartbeats 4000000 in
theorem c_63x {By : Int → Int} {Nb : Int} {Sp : PS} (σ0 : SG) (hσ0 : WT σ0) (a : Nat) (ha : TG a = 18) (f : Int32) (h_f : (σ0 3)[5]? = some (.int f)) (sg : Int32) (h_sg : (σ0 a)[1]? = some (.int sg)) (hp0 : -sg.toInt ≤ 0) (hC : CT By Nb σ0 Sp) (hg : Sp.1 = 0) (hP : PLA a) (hX : FXP σ0 a) (hK : KN σ0 a Sp.2.2.2 (act Sp.2.2.2)) : En 6 133 none mr_63 (P_63x σ0 By Nb Sp a f sg) 0 [(0, .ref 3), (1, .ref a)] [] σ0 := by
  obtain ⟨hl_f, hu_f⟩ := WT_int hσ0 (g := 3) (by decide +kernel) (by decide +kernel) (l := 0) (u := 3) (by decide +kernel) h_f
  obtain ⟨hl_sg, hu_sg⟩ := WT_int hσ0 (g := 18) ha (by decide +kernel) (l := (-1)) (u := 4) (by decide +kernel) h_sg
  have hF0 : Fr [(3, 1), (3, 2), (3, 3), (3, 4), (3, 5), (3, 6), (18, 3), (20, 2), (28, 1), (28, 2), (28, 3)] σ0 σ0 := Fr_rfl
  have h1 := CT_k hC h_f
  obtain ⟨z3, h2, h4, h5⟩ := WT_peekI hσ0 ha (by decide +kernel : FT 18 3 = (0, 0, 4)) (by decide +kernel)
  have h6 : Sp.2.2.2 2 = z3.toInt := KN_v hK (Or.inl (by decide)) (by decide) (by decide) (by rw [lcO_lt (by decide) (by decide), Nat.add_zero]) rfl h2
  refine En_Ps 1 (pc' := 1) (lv' := [(0, .ref 3), (1, .ref a)]) (st' := [.ref a]) rfl ?_
  refine En_getK (j := 3) h2 rfl rfl rfl ha (by decide +kernel) ?_
  refine En_Ps 1 (pc' := 5) (lv' := [(0, .ref 3), (1, .ref a)]) (st' := [.int ((Int32.ofInt 4)), .int z3]) rfl ?_
  refine En_icLt _ rfl (by decide : (Int32.ofInt 4).toInt = 4) rfl (fun h7 => ?_) (fun h7 => ?_)
  · refine En_Ps 1 (pc' := 15) (lv' := [(0, .ref 3), (1, .ref a)]) (st' := [.ref 3]) rfl ?_
    obtain ⟨z9, h8, h10, h11⟩ := WT_peekI hσ0 (by decide +kernel : TG 3 = 3) (by decide +kernel : FT 3 3 = (0, 0, 1600)) (by decide +kernel)
    refine En_callV rfl rfl rfl rfl rfl rfl rfl rfl (by decide +kernel : TG 3 = 3) (by decide +kernel) rfl (c_72x σ0 hσ0 z9 h8 hC.1 (CT_at hC (by omega) h8)) (by decide) (by decide) (fun v13 σ14 h12 => ?_)
    obtain ⟨h15, h16, rfl, h17⟩ := h12
    have h18 := h17
    have h19 := Fr_trans hF0 h16 (by decide +kernel)
    obtain ⟨S20, h21⟩ : ∃ q : PS, q = adv By Nb Sp := ⟨_, rfl⟩
    have h22 : CT By Nb σ14 S20 := by rw [h21]; exact (CT_adv hC (by omega) h8 h16 (by decide +kernel) h18.2)
    have h23 := CT_k h22 ((h16 _ _ (inW (by decide +kernel : TG 3 = 3) (by decide +kernel))).trans h_f)
    have h24 : S20.2.2.2 = Sp.2.2.2 := by rw [h21]; exact adv_w
    have h25 : S20.1 = Sp.1 := by rw [h21]; exact adv_1
    have h26 := KN_fr hP hK h16 (by decide +kernel)
    have h27 : S20.2.2.2 = Sp.2.2.2 := h24.trans (rfl : Sp.2.2.2 = Sp.2.2.2)
    refine En_Ps 1 (pc' := 19) (lv' := [(0, .ref 3), (1, .ref a)]) (st' := [.ref 3]) rfl ?_
    refine En_callV rfl rfl rfl rfl rfl rfl rfl rfl (by decide +kernel : TG 3 = 3) (by decide +kernel) rfl (c_75x σ14 h15 f ((h16 _ _ (inW (by decide +kernel : TG 3 = 3) (by decide +kernel))).trans h_f) h22) (by decide) (by decide) (fun v29 σ30 h28 => ?_)
    obtain ⟨h31, h32, z34, h35, z36, rfl, h33⟩ := h28
    have h37 := h33.2.2.2.2.2.2.2.2
    have h38 := Fr_trans h19 h32 (by decide +kernel)
    obtain ⟨S39, h40⟩ : ∃ q : PS, q = tW By Nb S20 := ⟨_, rfl⟩
    have h41 : CT By Nb σ30 S39 := by rw [h40]; exact h37.1
    have h42 := CT_k h41 h35
    have h43 : Imp (S39.1 = 0) (z36.toInt = wyV By Nb S20) := fun z => Imp_m h37.2 (by rw [← h40]; exact z)
    have h44 : Imp (S39.1 = 0) (S20.1 = 0) := fun z => tW_g (by rw [← h40]; exact z)
    have h45 : S39.2.2.2 = S20.2.2.2 := by rw [h40]; exact tW_w
    have h46 := KN_fr hP h26 h32 (by decide +kernel)
    have h47 : S39.2.2.2 = Sp.2.2.2 := h45.trans h27
    refine En_Ps 3 (pc' := 25) (lv' := [(2, .int z36), (0, .ref 3), (1, .ref a)]) (st' := [.ref 3, .ref 3]) rfl ?_
    refine En_ldcS (i := 14) rfl rfl rfl ?_
    refine En_callV rfl rfl rfl rfl rfl rfl rfl rfl (by decide +kernel : TG 3 = 3) (by decide +kernel) rfl (c_71s14x σ30 h31 h41) (by decide) (by decide) (fun v49 σ50 h48 => ?_)
    obtain ⟨h51, h52, z54, rfl, h53⟩ := h48
    have h55 := h53.2.2
    obtain rfl : σ30 = σ50 := Fr_nil h52
    have h56 := h55
    refine En_callV rfl rfl rfl rfl rfl rfl rfl rfl (by decide +kernel : TG 3 = 3) (by decide +kernel) rfl (c_59x σ30 h31 z54 (geI rfl (by omega)) (leI rfl (by omega)) z34 h35 h41) (by decide) (by decide) (fun v58 σ59 h57 => ?_)
    obtain ⟨h60, h61, z63, h64, rfl, h62⟩ := h57
    have h65 := h62.2.2.2.2.2.2.2
    have h66 := Fr_trans h38 h61 (by decide +kernel)
    have h67 : pss By Nb z54.toInt S39 = pss By Nb (iW By Nb 14 S39) S39 := pss_cg2 (fun zz => by (try have i0 := Imp_m h56 (by omega)); (try have i1 := Imp_m h44 (by omega)); (try have i2 := Imp_m h43 (by omega)); (try have i3 := Imp_m h33.2.2.2.2.2.2.2.1 (by omega)); omega)
    obtain ⟨S68, h69⟩ : ∃ q : PS, q = pss By Nb (iW By Nb 14 S39) S39 := ⟨_, rfl⟩
    have h70 : CT By Nb σ59 S68 := by rw [h69]; exact (CT_eq h65 h67)
    have h71 := CT_k h70 h64
    have h72 : S68.2.2.2 = S39.2.2.2 := by rw [h69]; exact pss_w
    have h73 : Imp (S68.1 = 0) (S39.1 = 0) := fun z => (pss_g (by rw [h67, ← h69]; exact z)).1
    have h74 : Imp (S68.1 = 0) (z54.toInt = 1) := fun z => (pss_g (by rw [h67, ← h69]; exact z)).2.1
    have h75 := KN_fr hP h46 h61 (by decide +kernel)
    have h76 : S68.2.2.2 = Sp.2.2.2 := h72.trans h47
    refine En_Ps 3 (pc' := 37) (lv' := [(2, .int z36), (0, .ref 3), (1, .ref a)]) (st' := [.int (((Int8.ofInt 50).toInt32)), .int ((Int32.ofInt 0)), .ref 3]) rfl ?_
    have := (by decide : ((Int32.ofInt 0)).toInt = 0)
    have := (by decide : (((Int8.ofInt 50).toInt32)).toInt = 50)
    refine En_callV rfl rfl rfl rfl rfl rfl rfl rfl (by decide +kernel : TG 3 = 3) (by decide +kernel) rfl (c_73x σ59 h60 ((Int32.ofInt 0)) (((Int8.ofInt 50).toInt32)) z63 h64 h70) (by decide) (by decide) (fun v78 σ79 h77 => ?_)
    obtain ⟨h80, h81, z83, h84, z85, rfl, h82⟩ := h77
    have h86 := h82.2.2.2.2.2.2.2.2.2.2
    have h87 := Fr_trans h66 h81 (by decide +kernel)
    have h88 : tN By Nb ((Int32.ofInt 0)).toInt (((Int8.ofInt 50).toInt32)).toInt S68 = tN By Nb (0) (50) S68 := tN_cg2 (fun zz => by omega) (fun zz => by omega)
    obtain ⟨S89, h90⟩ : ∃ q : PS, q = tN By Nb (0) (50) S68 := ⟨_, rfl⟩
    have h91 : CT By Nb σ79 S89 := by rw [h90]; exact (CT_eq h86.1 h88)
    have h92 := CT_k h91 h84
    have h93 : Imp (S89.1 = 0) (z85.toInt = tV By Nb S68.2.2.1) := fun z => Imp_m h86.2 (by rw [h88, ← h90]; exact z)
    have h94 : Imp (S89.1 = 0) (S68.1 = 0 ∧ tK By Nb S68.2.2.1 = 2 ∧ 0 ≤ tV By Nb S68.2.2.1 ∧ tV By Nb S68.2.2.1 ≤ 50) := fun z => tN_gg (by rw [← h90]; exact z)
    have h95 : S89.2.2.2 = S68.2.2.2 := by rw [h90]; exact tN_w
    have h96 := KN_fr hP h75 h81 (by decide +kernel)
    have h97 : S89.2.2.2 = Sp.2.2.2 := h95.trans h76
    have h98 := Imp_m h82.2.2.2.2.2.2.2.2.1 (by omega)
    have h99 := Imp_m h82.2.2.2.2.2.2.2.2.2.1 (by omega)
    refine En_Ps 2 (pc' := 42) (lv' := [(3, .int z85), (2, .int z36), (0, .ref 3), (1, .ref a)]) (st' := [.ref 3]) rfl ?_
    refine En_getK (j := 5) h84 rfl rfl rfl (by decide +kernel : TG 3 = 3) (by decide +kernel) ?_
    refine En_iNe _ rfl rfl (fun h100 => ?_) (fun h100 => ?_)
    · have h101 := Imp_m h82.2.2.2.2.2.2.2.1 (by omega)
      have h102 : fDoor By Nb Sp = S89 := by unfold fDoor; (try dsimp only); first | (rw [← h21, ← h40, ← h69, ← h90]; first | done | rfl) | (rw [← h21, ← h40, ← h69, ← h90]; rw [if_pos (by omega)]; first | done | rfl) | (rw [← h21, ← h40, ← h69, ← h90]; rw [if_neg (by omega)]; first | done | rfl) | (rw [← h21, ← h40, ← h69, ← h90]; rw [if_neg (by omega), if_pos (by omega)]; first | done | rfl) | (rw [← h21, ← h40, ← h69, ← h90]; rw [if_neg (by omega), if_neg (by omega)]; first | done | rfl) | (rw [← h21, ← h40, ← h69, ← h90]; rw [if_neg (by omega), if_neg (by omega), if_neg (by omega)]; first | done | rfl)
      exact En_ret (v := none) rfl rfl rfl ⟨h80, h87, z83, h84, rfl, ⟨by omega, by omega, by omega, by omega, by omega, by omega, by omega, (by rw [h102]; exact ⟨h91, fun z => absurd z (by omega)⟩)⟩⟩
    · have h103 := Imp_m h33.2.2.2.2.2.2.2.1 (by omega)
      have h104 := Imp_m h82.2.2.2.2.2.2.1 (by omega)
      try have h105 := Imp_m h94 (by omega)
      try have h106 := Imp_m h93 (by omega)
      try have h107 := Imp_m h74 (by omega)
      try have h108 := Imp_m h73 (by omega)
      try have h109 := Imp_m h56 (by omega)
      try have h110 := Imp_m h44 (by omega)
      try have h111 := Imp_m h43 (by omega)
      refine En_Ps 1 (pc' := 49) (lv' := [(3, .int z85), (2, .int z36), (0, .ref 3), (1, .ref a)]) (st' := [.ref a]) rfl ?_
      refine En_getR (j := 4) (g' := 19) (u := 0) rfl rfl rfl ha (by decide +kernel) h80 (by decide +kernel) (fun a113 h112 ha113 => ?_)
      refine En_Ps 1 (pc' := 53) (lv' := [(3, .int z85), (2, .int z36), (0, .ref 3), (1, .ref a)]) (st' := [.ref a, .ref a113]) rfl ?_
      refine En_getK (j := 3) ((h81 _ _ (inW ha (by decide +kernel))).trans ((h61 _ _ (inW ha (by decide +kernel))).trans ((h32 _ _ (inW ha (by decide +kernel))).trans ((h16 _ _ (inW ha (by decide +kernel))).trans h2)))) rfl rfl rfl ha (by decide +kernel) ?_
      refine En_aald (g' := 28) (u := 0) rfl rfl ha113 (by decide +kernel) h80 (by omega) (lnI (by decide +kernel : LN _ = 4) (by omega)) (FTsgl (by decide +kernel)) (fun a115 h114 ha115 => ?_)
      have h116 := DRc (d := z3.toInt) (FXP_fr hP hX h87 (by decide +kernel)) h112 h114 (by omega) (by omega)
      have h117 := lc_d (d := z3.toInt) (by omega) (by omega)
      obtain ⟨a120, h119, ha120⟩ := WT_peekR (g := 28) (j := 0) (g' := 20) (u := 0) h80 ha115 (by decide +kernel) (by decide +kernel)
      have h118 := DLc (d := z3.toInt) (FXP_fr hP hX h87 (by decide +kernel)) h116 h119 (by omega) (by omega)
      refine En_Ps 2 (pc' := 59) (lv' := [(3, .int z85), (2, .int z36), (0, .ref 3), (1, .ref a)]) (st' := [.int z85, .int z36, .ref a115]) rfl ?_
      refine En_callV rfl rfl rfl rfl rfl rfl rfl rfl ha115 (by decide +kernel) rfl (c_12x σ79 h80 a115 ha115 z36 z85 (geI rfl (by omega)) (leI rfl (by omega)) (geI rfl (by omega)) (leI rfl (by omega)) a120 ha120 h119) (by decide) (by decide) (fun v122 σ123 h121 => ?_)
      obtain ⟨h124, h125, rfl, h126⟩ := h121
      have h127 := h126
      have h128 := Fr_trans h87 h125 (by decide +kernel)
      obtain ⟨S129, h130⟩ : ∃ q : PS, q = wst (wst (wst (wst S89 (10 + 4 * Sp.2.2.2 2) (wyV By Nb S20)) (10 + 4 * Sp.2.2.2 2 + 1) (tV By Nb S68.2.2.1)) (10 + 4 * Sp.2.2.2 2 + 2) 0) (10 + 4 * Sp.2.2.2 2 + 3) (-1) := ⟨_, rfl⟩
      have h131 : CT By Nb σ123 S129 := by rw [h130]; exact CT_wst (CT_wst (CT_wst (CT_wst (CT_fr h91 h125 (by decide +kernel)))))
      have h134 : z3.toInt = Sp.2.2.2 2 := by omega
      have h132 : KN σ123 a (uPd (uPd (uPd (uPd Sp.2.2.2 (10 + 4 * Sp.2.2.2 2) (wyV By Nb S20)) (10 + 4 * Sp.2.2.2 2 + 1) (tV By Nb S68.2.2.1)) (10 + 4 * Sp.2.2.2 2 + 2) 0) (10 + 4 * Sp.2.2.2 2 + 3) (-1)) (fun t => ((((act Sp.2.2.2 t ∨ t = 10 + 4 * Sp.2.2.2 2) ∨ t = 10 + 4 * Sp.2.2.2 2 + 1) ∨ t = 10 + 4 * Sp.2.2.2 2 + 2) ∨ t = 10 + 4 * Sp.2.2.2 2 + 3)) := KN_w (KN_bgn (d := Sp.2.2.2 2) h96 h127 (by omega) (by omega) (by rw [← h134]; exact h116) (by rw [← h134]; exact h118)) (uPd4_cg (by omega) (by omega))
      have h133 : S129.2.2.2 = (uPd (uPd (uPd (uPd Sp.2.2.2 (10 + 4 * Sp.2.2.2 2) (wyV By Nb S20)) (10 + 4 * Sp.2.2.2 2 + 1) (tV By Nb S68.2.2.1)) (10 + 4 * Sp.2.2.2 2 + 2) 0) (10 + 4 * Sp.2.2.2 2 + 3) (-1)) := by rw [h130]; show uPd (uPd (uPd (uPd S89.2.2.2 _ _) _ _) _ _) _ _ = _; rw [h97]
      have h135 : S129.1 = S89.1 := by rw [h130]; rfl
      refine En_Ps 2 (pc' := 64) (lv' := [(3, .int z85), (2, .int z36), (0, .ref 3), (1, .ref a)]) (st' := [.ref a, .ref a]) rfl ?_
      refine En_getK (j := 3) ((h125 _ _ (inW ha (by decide +kernel))).trans ((h81 _ _ (inW ha (by decide +kernel))).trans ((h61 _ _ (inW ha (by decide +kernel))).trans ((h32 _ _ (inW ha (by decide +kernel))).trans ((h16 _ _ (inW ha (by decide +kernel))).trans h2))))) rfl rfl rfl ha (by decide +kernel) ?_
      refine En_Ps 2 (pc' := 69) (lv' := [(3, .int z85), (2, .int z36), (0, .ref 3), (1, .ref a)]) (st' := [.int ((z3 + ((Int32.ofInt 1)))), .ref a]) rfl ?_
      refine En_top (addI rfl (by decide : (Int32.ofInt 1).toInt = 1) (by omega) (by omega)) (fun z136 h137 => ?_)
      refine En_put (j := 3) rfl rfl rfl ha (by decide +kernel) rfl (vI (l := 0) (u := 4) (by decide +kernel) rfl (by omega) (by omega)) h124 h128 (by decide +kernel) (fun σ138 h139 h140 h141 h142 => ?_)
      obtain ⟨S143, h144⟩ : ∃ q : PS, q = wst S129 (2) (Sp.2.2.2 2 + 1) := ⟨_, rfl⟩
      have h145 : CT By Nb σ138 S143 := by rw [h144]; exact CT_wst (CT_ne h131 h142 (by have := hP; unfold PLA at this; omega))
      have h146 : KN σ138 a (uPd (uPd (uPd (uPd (uPd Sp.2.2.2 (10 + 4 * Sp.2.2.2 2) (wyV By Nb S20)) (10 + 4 * Sp.2.2.2 2 + 1) (tV By Nb S68.2.2.1)) (10 + 4 * Sp.2.2.2 2 + 2) 0) (10 + 4 * Sp.2.2.2 2 + 3) (-1)) (2) (Sp.2.2.2 2 + 1)) (fun t => (((((act Sp.2.2.2 t ∨ t = 10 + 4 * Sp.2.2.2 2) ∨ t = 10 + 4 * Sp.2.2.2 2 + 1) ∨ t = 10 + 4 * Sp.2.2.2 2 + 2) ∨ t = 10 + 4 * Sp.2.2.2 2 + 3) ∨ t = 2)) := KN_st h132 h141 h142 (by omega) (by omega) (by rw [lcO_lt (by decide) (by decide), Nat.add_zero]) (by decide) (by (try have i0 := Imp_m h94 (by omega)); (try have i1 := Imp_m h93 (by omega)); (try have i2 := Imp_m h74 (by omega)); (try have i3 := Imp_m h73 (by omega)); (try have i4 := Imp_m h56 (by omega)); (try have i5 := Imp_m h44 (by omega)); (try have i6 := Imp_m h43 (by omega)); (try have i7 := Imp_m h62.2.2.2.2.1 (by omega)); (try have i8 := Imp_m h62.2.2.2.2.2.2.1 (by omega)); (try have i9 := Imp_m h82.2.2.2.2.2.2.2.1 (by omega)); omega)
      have h147 : S143.2.2.2 = (uPd (uPd (uPd (uPd (uPd Sp.2.2.2 (10 + 4 * Sp.2.2.2 2) (wyV By Nb S20)) (10 + 4 * Sp.2.2.2 2 + 1) (tV By Nb S68.2.2.1)) (10 + 4 * Sp.2.2.2 2 + 2) 0) (10 + 4 * Sp.2.2.2 2 + 3) (-1)) (2) (Sp.2.2.2 2 + 1)) := by rw [h144]; show uPd S129.2.2.2 _ _ = _; rw [h133]
      have h148 : S143.1 = S129.1 := by rw [h144]; rfl
      have h149 := CT_k h145 ((h142 _ _ (Or.inr (by decide))).trans ((h125 _ _ (inW (by decide +kernel : TG 3 = 3) (by decide +kernel))).trans h84))
      have h150 : fDoor By Nb Sp = S143 := by unfold fDoor; (try dsimp only); first | (rw [← h21, ← h40, ← h69, ← h90, ← h130, ← h144]; first | done | rfl) | (rw [← h21, ← h40, ← h69, ← h90, ← h130, ← h144]; rw [if_pos (by omega)]; first | done | rfl) | (rw [← h21, ← h40, ← h69, ← h90, ← h130, ← h144]; rw [if_neg (by omega)]; first | done | rfl) | (rw [← h21, ← h40, ← h69, ← h90, ← h130, ← h144]; rw [if_neg (by omega), if_pos (by omega)]; first | done | rfl) | (rw [← h21, ← h40, ← h69, ← h90, ← h130, ← h144]; rw [if_neg (by omega), if_neg (by omega)]; first | done | rfl) | (rw [← h21, ← h40, ← h69, ← h90, ← h130, ← h144]; rw [if_neg (by omega), if_neg (by omega), if_neg (by omega)]; first | done | rfl)
      exact En_ret (v := none) rfl rfl rfl ⟨h139, h140, z83, ((h142 _ _ (Or.inr (by decide))).trans ((h125 _ _ (inW (by decide +kernel : TG 3 = 3) (by decide +kernel))).trans h84)), rfl, ⟨by omega, by omega, by omega, by omega, by omega, by omega, by omega, (by rw [h150]; exact ⟨h145, fun zz => by rw [h147]; exact KN_sub h146 (fun t t0 t1 y => ADr (act_dr (by omega) (by omega) y))⟩)⟩⟩
  · refine En_Ps 2 (pc' := 10) (lv' := [(0, .ref 3), (1, .ref a)]) (st' := [.int ((Int32.ofInt 3)), .ref 3]) rfl ?_
    have := (by decide : ((Int32.ofInt 3)).toInt = 3)
    refine En_callV rfl rfl rfl rfl rfl rfl rfl rfl (by decide +kernel : TG 3 = 3) (by decide +kernel) rfl (c_54x σ0 hσ0 ((Int32.ofInt 3)) (geI (by decide : (Int32.ofInt 3).toInt = 3) (by omega)) (leI (by decide : (Int32.ofInt 3).toInt = 3) (by omega)) f h_f hC) (by decide) (by decide) (fun v152 σ153 h151 => ?_)
    obtain ⟨h154, h155, z157, h158, rfl, h156⟩ := h151
    have h159 := h156.2.2.2.2.2.2
    have h160 := Fr_trans hF0 h155 (by decide +kernel)
    obtain ⟨S161, h162⟩ : ∃ q : PS, q = err By Nb 3 Sp := ⟨_, rfl⟩
    have h163 : CT By Nb σ153 S161 := by rw [h162]; exact (CT_eq h159 (err_cg (by omega)))
    have h164 := CT_k h163 h158
    have h165 : S161.2.2.2 = Sp.2.2.2 := by rw [h162]; exact err_w
    have h166 := KN_fr hP hK h155 (by decide +kernel)
    have h167 : S161.2.2.2 = Sp.2.2.2 := h165.trans (rfl : Sp.2.2.2 = Sp.2.2.2)
    have h168 : fDoor By Nb Sp = S161 := by unfold fDoor; (try dsimp only); first | (rw [← h162]; first | done | rfl) | (rw [← h162]; rw [if_pos (by omega)]; first | done | rfl) | (rw [← h162]; rw [if_neg (by omega)]; first | done | rfl) | (rw [← h162]; rw [if_neg (by omega), if_pos (by omega)]; first | done | rfl) | (rw [← h162]; rw [if_neg (by omega), if_neg (by omega)]; first | done | rfl) | (rw [← h162]; rw [if_neg (by omega), if_neg (by omega), if_neg (by omega)]; first | done | rfl)
    exact En_ret (v := none) rfl rfl rfl ⟨h154, h160, z157, h158, rfl, ⟨by omega, by omega, by omega, by omega, by omega, by omega, by omega, (by rw [h168]; exact ⟨h163, fun z => absurd z (by omega)⟩)⟩⟩
/-- DoorSchool$Reader.readSaid(LDoorSchool$Plan;LDoorSchool$Lessons;)V -/
abbrev P_69x (σ0 : SG) (By : Int → Int) (Nb : Int) (Sp : PS) (ix : Int) (jx : Int) (a : Nat) (b : Nat) (f : Int32) (sg : Int32) : PO := fun v σ => WT σ ∧ Fr [(3, 1), (3, 2), (3, 3), (3, 4), (3, 5), (3, 6), (20, 2), (21, 0), (22, 0)] σ0 σ ∧ ∃ f1 : Int32, (σ 3)[5]? = some (.int f1) ∧ v = none ∧ -f1.toInt ≤ 0 ∧ f1.toInt - 3 ≤ 0 ∧ -f1.toInt + f.toInt ≤ 0 ∧ f1.toInt - f.toInt - 3 ≤ 0 ∧ -f1.toInt + sg.toInt - 4 ≤ 0 ∧ f1.toInt - sg.toInt - 3 ≤ 0 ∧ f.toInt - f1.toInt ≤ 0 ∧ (CT By Nb σ (fSaid By Nb ix jx Sp) ∧ ((fSaid By Nb ix jx Sp).1 = 0 → KN σ a (fSaid By Nb ix jx Sp).2.2.2 (fun t => ((act Sp.2.2.2 t ∨ t = ix) ∨ t = ix + 1) ∨ t = jx)))
set_option maxRecDepth 10000 in
set_option maxHeartbeats 4000000 in
theorem c_69x {By : Int → Int} {Nb : Int} {Sp : PS} {ix : Int} {jx : Int} (σ0 : SG) (hσ0 : WT σ0) (a : Nat) (ha : TG a = 18) (b : Nat) (hb : TG b = 20) (f : Int32) (h_f : (σ0 3)[5]? = some (.int f)) (sg : Int32) (h_sg : (σ0 a)[1]? = some (.int sg)) (hp0 : -sg.toInt ≤ 0) (hC : CT By Nb σ0 Sp) (hg : Sp.1 = 0) (hP : PLA a) (hX : FXP σ0 a) (hK : KN σ0 a Sp.2.2.2 (act Sp.2.2.2)) (hL : LSN σ0 a b Sp.2.2.2 ix jx) : En 5 112 none mr_69 (P_69x σ0 By Nb Sp ix jx a b f sg) 0 [(0, .ref 3), (1, .ref a), (2, .ref b)] [] σ0 := by
  obtain ⟨hl_f, hu_f⟩ := WT_int hσ0 (g := 3) (by decide +kernel) (by decide +kernel) (l := 0) (u := 3) (by decide +kernel) h_f
  obtain ⟨hl_sg, hu_sg⟩ := WT_int hσ0 (g := 18) ha (by decide +kernel) (l := (-1)) (u := 4) (by decide +kernel) h_sg
  have hF0 : Fr [(3, 1), (3, 2), (3, 3), (3, 4), (3, 5), (3, 6), (20, 2), (21, 0), (22, 0)] σ0 σ0 := Fr_rfl
  have h1 := CT_k hC h_f
  have h2 : Sp.2.2.2 0 = sg.toInt := KN_v hK (Or.inl (by decide)) (by decide) (by decide) (by rw [lcO_lt (by decide) (by decide), Nat.add_zero]) rfl h_sg
  have h3 : pI (Sp.2.2.2 0) = pI (sg.toInt) := by rw [h2]
  obtain ⟨L1, L2, L3, L4, L5, L6, L7, L8, L9, L10, L11, L12, L13, L14, L15⟩ := id hL
  obtain ⟨a5, h4, ha5⟩ := WT_peekR (g := 20) (j := 0) (g' := 21) (u := 0) hσ0 hb (by decide +kernel) (by decide +kernel)
  obtain ⟨a7, h6, ha7⟩ := WT_peekR (g := 20) (j := 1) (g' := 22) (u := 0) hσ0 hb (by decide +kernel) (by decide +kernel)
  obtain ⟨z9, h8, h10, h11⟩ := WT_peekI hσ0 hb (by decide +kernel : FT 20 2 = (0, 0, 13)) (by decide +kernel)
  have h12 : a5 = b + 1 := ref_uniq h4 L12
  have h13 : a7 = b + 2 := ref_uniq h6 L13
  have h14 : Sp.2.2.2 jx = z9.toInt := KN_v hK L11 L9 L10 L1 (by rw [L2]; rfl) h8
  refine En_Ps 3 (pc' := 3) (lv' := [(0, .ref 3), (1, .ref a), (2, .ref b)]) (st' := [.ref a, .int ((Int32.ofInt 0)), .ref 3]) rfl ?_
  refine En_callV rfl rfl rfl rfl rfl rfl rfl rfl ha (by decide +kernel) rfl (c_51x σ0 hσ0 a ha sg h_sg (by omega)) (by decide) (by decide) (fun v16 σ17 h15 => ?_)
  obtain ⟨h18, h19, z21, rfl, h20⟩ := h15
  have h22 := h20.2.2
  obtain rfl : σ0 = σ17 := Fr_nil h19
  have h23 := h22
  have h24 : pI (Sp.2.2.2 0) = z21.toInt := by rw [(rfl : Sp.2.2.2 = Sp.2.2.2)]; omega
  refine En_Ps 2 (pc' := 8) (lv' := [(0, .ref 3), (1, .ref a), (2, .ref b)]) (st' := [.int ((z21 - ((Int32.ofInt 1)))), .int ((Int32.ofInt 0)), .ref 3]) rfl ?_
  refine En_top (subI rfl (by decide : (Int32.ofInt 1).toInt = 1) (by omega) (by omega)) (fun z25 h26 => ?_)
  have := (by decide : ((Int32.ofInt 0)).toInt = 0)
  refine En_callV rfl rfl rfl rfl rfl rfl rfl rfl (by decide +kernel : TG 3 = 3) (by decide +kernel) rfl (c_73x σ0 hσ0 ((Int32.ofInt 0)) z25 f h_f hC) (by decide) (by decide) (fun v28 σ29 h27 => ?_)
  obtain ⟨h30, h31, z33, h34, z35, rfl, h32⟩ := h27
  have h36 := h32.2.2.2.2.2.2.2.2.2.2
  have h37 := Fr_trans hF0 h31 (by decide +kernel)
  have h38 : tN By Nb ((Int32.ofInt 0)).toInt z25.toInt Sp = tN By Nb (0) (pI (Sp.2.2.2 0) - 1) Sp := tN_cg2 (fun zz => by omega) (fun zz => by omega)
  obtain ⟨S39, h40⟩ : ∃ q : PS, q = tN By Nb (0) (pI (Sp.2.2.2 0) - 1) Sp := ⟨_, rfl⟩
  have h41 : CT By Nb σ29 S39 := by rw [h40]; exact (CT_eq h36.1 h38)
  have h42 := CT_k h41 h34
  have h43 : Imp (S39.1 = 0) (z35.toInt = tV By Nb Sp.2.2.1) := fun z => Imp_m h36.2 (by rw [h38, ← h40]; exact z)
  have h44 : Imp (S39.1 = 0) (Sp.1 = 0 ∧ tK By Nb Sp.2.2.1 = 2 ∧ 0 ≤ tV By Nb Sp.2.2.1 ∧ tV By Nb Sp.2.2.1 ≤ pI (Sp.2.2.2 0) - 1) := fun z => tN_gg (by rw [← h40]; exact z)
  have h45 : S39.2.2.2 = Sp.2.2.2 := by rw [h40]; exact tN_w
  have h46 := KN_fr hP hK h31 (by decide +kernel)
  have h47 : S39.2.2.2 = Sp.2.2.2 := h45.trans (rfl : Sp.2.2.2 = Sp.2.2.2)
  have h48 := Imp_m h32.2.2.2.2.2.2.2.2.1 (by omega)
  have h49 := Imp_m h32.2.2.2.2.2.2.2.2.2.1 (by omega)
  refine En_Ps 1 (pc' := 12) (lv' := [(3, .int z35), (0, .ref 3), (1, .ref a), (2, .ref b)]) (st' := []) rfl ?_
  refine En_Ps 1 (pc' := 13) (lv' := [(3, .int z35), (0, .ref 3), (1, .ref a), (2, .ref b)]) (st' := [.ref 3]) rfl ?_
  refine En_ldcS (i := 8) rfl rfl rfl ?_
  refine En_callV rfl rfl rfl rfl rfl rfl rfl rfl (by decide +kernel : TG 3 = 3) (by decide +kernel) rfl (c_71s8x σ29 h30 h41) (by decide) (by decide) (fun v51 σ52 h50 => ?_)
  obtain ⟨h53, h54, z56, rfl, h55⟩ := h50
  have h57 := h55.2.2
  obtain rfl : σ29 = σ52 := Fr_nil h54
  have h58 := h57
  refine En_iEq _ rfl rfl (fun h59 => ?_) (fun h59 => ?_)
  · refine En_Ps 5 (pc' := 32) (lv' := [(4, .int ((Int32.ofInt 0))), (3, .int z35), (0, .ref 3), (1, .ref a), (2, .ref b)]) (st' := [.int ((Int32.ofInt 1)), .int ((Int32.ofInt 0)), .ref 3]) rfl ?_
    refine En_icEq _ (by decide : (Int32.ofInt 0).toInt = 0) (by decide : (Int32.ofInt 1).toInt = 1) rfl (fun hx => by exfalso; have := Imp_m h32.2.2.2.2.2.2.1 (by omega); have := Imp_m h32.2.2.2.2.2.2.2.1 (by omega); omega) (fun h60 => ?_)
    refine En_Ps 1 (pc' := 36) (lv' := [(4, .int ((Int32.ofInt 0))), (3, .int z35), (0, .ref 3), (1, .ref a), (2, .ref b)]) (st' := [.ref 3, .ref 3]) rfl ?_
    refine En_ldcS (i := 12) rfl rfl rfl ?_
    refine En_callV rfl rfl rfl rfl rfl rfl rfl rfl (by decide +kernel : TG 3 = 3) (by decide +kernel) rfl (c_71s12x σ29 h30 h41) (by decide) (by decide) (fun v62 σ63 h61 => ?_)
    obtain ⟨h64, h65, z67, rfl, h66⟩ := h61
    have h68 := h66.2.2
    obtain rfl : σ29 = σ63 := Fr_nil h65
    have h69 := h68
    refine En_iEq _ rfl rfl (fun h70 => ?_) (fun h70 => ?_)
    · refine En_Ps 1 (pc' := 49) (lv' := [(4, .int ((Int32.ofInt 0))), (3, .int z35), (0, .ref 3), (1, .ref a), (2, .ref b)]) (st' := [.int ((Int32.ofInt 0)), .ref 3]) rfl ?_
      have := (by decide : ((Int32.ofInt 0)).toInt = 0)
      refine En_callV rfl rfl rfl rfl rfl rfl rfl rfl (by decide +kernel : TG 3 = 3) (by decide +kernel) rfl (c_59x σ29 h30 ((Int32.ofInt 0)) (geI (by decide : (Int32.ofInt 0).toInt = 0) (by omega)) (leI (by decide : (Int32.ofInt 0).toInt = 0) (by omega)) z33 h34 h41) (by decide) (by decide) (fun v72 σ73 h71 => ?_)
      obtain ⟨h74, h75, z77, h78, rfl, h76⟩ := h71
      have h79 := h76.2.2.2.2.2.2.2
      have h80 := Fr_trans h37 h75 (by decide +kernel)
      have h81 : pss By Nb ((Int32.ofInt 0)).toInt S39 = dD By Nb S39 := dDc (fun zz => by (try have i0 := Imp_m h69 (by omega)); (try have i1 := Imp_m h58 (by omega)); (try have i2 := Imp_m h44 (by omega)); (try have i3 := Imp_m h43 (by omega)); (try have i4 := Imp_m h32.2.2.2.2.2.2.1 (by omega)); (try have i5 := Imp_m h32.2.2.2.2.2.2.2.1 (by omega)); omega)
      obtain ⟨S82, h83⟩ : ∃ q : PS, q = dD By Nb S39 := ⟨_, rfl⟩
      have h84 : CT By Nb σ73 S82 := by rw [h83]; exact (CT_eq h79 h81)
      have h85 := CT_k h84 h78
      have h86 : S82.2.2.2 = S39.2.2.2 := by rw [h83]; exact pss_w
      have h87 : Imp (S82.1 = 0) (S39.1 = 0) := fun z => (pss_g (by rw [h81, ← h83]; exact z)).1
      have h88 : Imp (S82.1 = 0) (((Int32.ofInt 0)).toInt = 1) := fun z => (pss_g (by rw [h81, ← h83]; exact z)).2.1
      have h89 := KN_fr hP h46 h75 (by decide +kernel)
      have h90 : S82.2.2.2 = Sp.2.2.2 := h86.trans h47
      have h91 := Imp_m h76.2.2.2.2.2.2.1 (by omega)
      refine En_Ps 1 (pc' := 53) (lv' := [(4, .int ((Int32.ofInt 0))), (3, .int z35), (0, .ref 3), (1, .ref a), (2, .ref b)]) (st' := [.ref 3]) rfl ?_
      refine En_getK (j := 5) h78 rfl rfl rfl (by decide +kernel : TG 3 = 3) (by decide +kernel) ?_
      refine En_iNe _ rfl rfl (fun h92 => ?_) (fun hx => by exfalso; have := Imp_m h32.2.2.2.2.2.2.1 (by omega); have := Imp_m h32.2.2.2.2.2.2.2.1 (by omega); omega)
      have h93 : fSaid By Nb ix jx Sp = S82 := by unfold fSaid; (try dsimp only); first | (rw [← h40, ← h83]; first | done | rfl) | (rw [← h40, ← h83]; rw [if_pos (by omega)]; first | done | rfl) | (rw [← h40, ← h83]; rw [if_neg (by omega)]; first | done | rfl) | (rw [← h40, ← h83]; rw [if_neg (by omega), if_pos (by omega)]; first | done | rfl) | (rw [← h40, ← h83]; rw [if_neg (by omega), if_neg (by omega)]; first | done | rfl) | (rw [← h40, ← h83]; rw [if_neg (by omega), if_neg (by omega), if_neg (by omega)]; first | done | rfl)
      exact En_ret (v := none) rfl rfl rfl ⟨h74, h80, z77, h78, rfl, ⟨by omega, by omega, by omega, by omega, by omega, by omega, by omega, (by rw [h93]; exact ⟨h84, fun z => absurd z (by omega)⟩)⟩⟩
    · refine En_Ps 2 (pc' := 49) (lv' := [(4, .int ((Int32.ofInt 0))), (3, .int z35), (0, .ref 3), (1, .ref a), (2, .ref b)]) (st' := [.int ((Int32.ofInt 1)), .ref 3]) rfl ?_
      have := (by decide : ((Int32.ofInt 1)).toInt = 1)
      refine En_callV rfl rfl rfl rfl rfl rfl rfl rfl (by decide +kernel : TG 3 = 3) (by decide +kernel) rfl (c_59x σ29 h30 ((Int32.ofInt 1)) (geI (by decide : (Int32.ofInt 1).toInt = 1) (by omega)) (leI (by decide : (Int32.ofInt 1).toInt = 1) (by omega)) z33 h34 h41) (by decide) (by decide) (fun v95 σ96 h94 => ?_)
      obtain ⟨h97, h98, z100, h101, rfl, h99⟩ := h94
      have h102 := h99.2.2.2.2.2.2.2
      have h103 := Fr_trans h37 h98 (by decide +kernel)
      have h104 : pss By Nb ((Int32.ofInt 1)).toInt S39 = dD By Nb S39 := dDc (fun zz => by (try have i0 := Imp_m h69 (by omega)); (try have i1 := Imp_m h58 (by omega)); (try have i2 := Imp_m h44 (by omega)); (try have i3 := Imp_m h43 (by omega)); (try have i4 := Imp_m h32.2.2.2.2.2.2.1 (by omega)); (try have i5 := Imp_m h32.2.2.2.2.2.2.2.1 (by omega)); omega)
      obtain ⟨S105, h106⟩ : ∃ q : PS, q = dD By Nb S39 := ⟨_, rfl⟩
      have h107 : CT By Nb σ96 S105 := by rw [h106]; exact (CT_eq h102 h104)
      have h108 := CT_k h107 h101
      have h109 : S105.2.2.2 = S39.2.2.2 := by rw [h106]; exact pss_w
      have h110 : Imp (S105.1 = 0) (S39.1 = 0) := fun z => (pss_g (by rw [h104, ← h106]; exact z)).1
      have h111 : Imp (S105.1 = 0) (((Int32.ofInt 1)).toInt = 1) := fun z => (pss_g (by rw [h104, ← h106]; exact z)).2.1
      have h112 := KN_fr hP h46 h98 (by decide +kernel)
      have h113 : S105.2.2.2 = Sp.2.2.2 := h109.trans h47
      have h114 := Imp_m h99.2.2.2.2.1 (by omega)
      refine En_Ps 1 (pc' := 53) (lv' := [(4, .int ((Int32.ofInt 0))), (3, .int z35), (0, .ref 3), (1, .ref a), (2, .ref b)]) (st' := [.ref 3]) rfl ?_
      refine En_getK (j := 5) h101 rfl rfl rfl (by decide +kernel : TG 3 = 3) (by decide +kernel) ?_
      refine En_iNe _ rfl rfl (fun h115 => ?_) (fun h115 => ?_)
      · have h116 := Imp_m h32.2.2.2.2.2.2.2.1 (by omega)
        have h117 : fSaid By Nb ix jx Sp = S105 := by unfold fSaid; (try dsimp only); first | (rw [← h40, ← h106]; first | done | rfl) | (rw [← h40, ← h106]; rw [if_pos (by omega)]; first | done | rfl) | (rw [← h40, ← h106]; rw [if_neg (by omega)]; first | done | rfl) | (rw [← h40, ← h106]; rw [if_neg (by omega), if_pos (by omega)]; first | done | rfl) | (rw [← h40, ← h106]; rw [if_neg (by omega), if_neg (by omega)]; first | done | rfl) | (rw [← h40, ← h106]; rw [if_neg (by omega), if_neg (by omega), if_neg (by omega)]; first | done | rfl)
        exact En_ret (v := none) rfl rfl rfl ⟨h97, h103, z100, h101, rfl, ⟨by omega, by omega, by omega, by omega, by omega, by omega, by omega, (by rw [h117]; exact ⟨h107, fun z => absurd z (by omega)⟩)⟩⟩
      · have h118 := Imp_m h32.2.2.2.2.2.2.1 (by omega)
        try have h119 := Imp_m h111 (by omega)
        try have h120 := Imp_m h110 (by omega)
        try have h121 := Imp_m h69 (by omega)
        try have h122 := Imp_m h58 (by omega)
        try have h123 := Imp_m h44 (by omega)
        try have h124 := Imp_m h43 (by omega)
        refine En_Ps 3 (pc' := 63) (lv' := [(4, .int ((Int32.ofInt 0))), (3, .int z35), (0, .ref 3), (1, .ref a), (2, .ref b)]) (st' := [.int ((Int32.ofInt 0)), .int z35, .ref b]) rfl ?_
        have := (by decide : ((Int32.ofInt 0)).toInt = 0)
        refine En_callV rfl rfl rfl rfl rfl rfl rfl rfl hb (by decide +kernel) rfl (c_31x σ96 h97 b hb z35 ((Int32.ofInt 0)) (geI rfl (by omega)) (leI rfl (by omega)) (geI (by decide : (Int32.ofInt 0).toInt = 0) (by omega)) (leI (by decide : (Int32.ofInt 0).toInt = 0) (by omega)) a5 ha5 ((h98 _ _ (inW hb (by decide +kernel))).trans ((h31 _ _ (inW hb (by decide +kernel))).trans h4)) a7 ha7 ((h98 _ _ (inW hb (by decide +kernel))).trans ((h31 _ _ (inW hb (by decide +kernel))).trans h6)) z9 ((h98 _ _ (inW hb (by decide +kernel))).trans ((h31 _ _ (inW hb (by decide +kernel))).trans h8)) (by omega)) (by decide) (by decide) (fun v126 σ127 h125 => ?_)
        obtain ⟨h128, h129, z131, h132, rfl, h130⟩ := h125
        have h133 := h130.2.2.2.2
        have h134 := Fr_trans h103 h129 (by decide +kernel)
        obtain ⟨S135, h136⟩ : ∃ q : PS, q = wst (wst (wst S105 ix (tV By Nb Sp.2.2.1)) (ix + 1) (iW By Nb 8 S39)) jx (S105.2.2.2 jx + 1) := ⟨_, rfl⟩
        have h137 : CT By Nb σ127 S135 := by rw [h136]; exact CT_wst (CT_wst (CT_wst (CT_fr h107 h129 (by decide +kernel))))
        have h138 : KN σ127 a (uPd (uPd (uPd Sp.2.2.2 ix (tV By Nb Sp.2.2.1)) (ix + 1) (iW By Nb 8 S39)) jx (Sp.2.2.2 jx + 1)) (fun t => (((act Sp.2.2.2 t ∨ t = ix) ∨ t = ix + 1) ∨ t = jx)) := KN_w (KN_add (i := ix) (i' := ix + 1) (j := jx) h112 h133 L7 rfl L8 L9 L10 L1 L2 (by rw [h12]; exact L3) (by rw [L4]; exact h14) (by rw [h13]; exact L5) (by rw [L6]; exact h14) (by omega)) (uPd3_cg (by omega) (by omega) (by omega))
        have h139 : S135.2.2.2 = (uPd (uPd (uPd Sp.2.2.2 ix (tV By Nb Sp.2.2.1)) (ix + 1) (iW By Nb 8 S39)) jx (Sp.2.2.2 jx + 1)) := by rw [h136]; show uPd (uPd (uPd S105.2.2.2 _ _) _ _) _ (S105.2.2.2 jx + 1) = _; rw [h113]
        have h140 : S135.1 = S105.1 := by rw [h136]; rfl
        have h141 : fSaid By Nb ix jx Sp = S135 := by unfold fSaid; (try dsimp only); first | (rw [← h40, ← h106, ← h136]; first | done | rfl) | (rw [← h40, ← h106, ← h136]; rw [if_pos (by omega)]; first | done | rfl) | (rw [← h40, ← h106, ← h136]; rw [if_neg (by omega)]; first | done | rfl) | (rw [← h40, ← h106, ← h136]; rw [if_neg (by omega), if_pos (by omega)]; first | done | rfl) | (rw [← h40, ← h106, ← h136]; rw [if_neg (by omega), if_neg (by omega)]; first | done | rfl) | (rw [← h40, ← h106, ← h136]; rw [if_neg (by omega), if_neg (by omega), if_neg (by omega)]; first | done | rfl)
        exact En_ret (v := none) rfl rfl rfl ⟨h128, h134, z100, ((h129 _ _ (inW (by decide +kernel : TG 3 = 3) (by decide +kernel))).trans h101), rfl, ⟨by omega, by omega, by omega, by omega, by omega, by omega, by omega, (by rw [h141]; exact ⟨h137, fun zz => by rw [h139]; exact h138⟩)⟩⟩
  · refine En_Ps 6 (pc' := 32) (lv' := [(4, .int ((Int32.ofInt 1))), (3, .int z35), (0, .ref 3), (1, .ref a), (2, .ref b)]) (st' := [.int ((Int32.ofInt 1)), .int ((Int32.ofInt 1)), .ref 3]) rfl ?_
    refine En_icEq _ (by decide : (Int32.ofInt 1).toInt = 1) (by decide : (Int32.ofInt 1).toInt = 1) rfl (fun h142 => ?_) (fun hx => by exfalso; have := Imp_m h32.2.2.2.2.2.2.1 (by omega); have := Imp_m h32.2.2.2.2.2.2.2.1 (by omega); omega)
    refine En_Ps 2 (pc' := 49) (lv' := [(4, .int ((Int32.ofInt 1))), (3, .int z35), (0, .ref 3), (1, .ref a), (2, .ref b)]) (st' := [.int ((Int32.ofInt 1)), .ref 3]) rfl ?_
    have := (by decide : ((Int32.ofInt 1)).toInt = 1)
    refine En_callV rfl rfl rfl rfl rfl rfl rfl rfl (by decide +kernel : TG 3 = 3) (by decide +kernel) rfl (c_59x σ29 h30 ((Int32.ofInt 1)) (geI (by decide : (Int32.ofInt 1).toInt = 1) (by omega)) (leI (by decide : (Int32.ofInt 1).toInt = 1) (by omega)) z33 h34 h41) (by decide) (by decide) (fun v144 σ145 h143 => ?_)
    obtain ⟨h146, h147, z149, h150, rfl, h148⟩ := h143
    have h151 := h148.2.2.2.2.2.2.2
    have h152 := Fr_trans h37 h147 (by decide +kernel)
    have h153 : pss By Nb ((Int32.ofInt 1)).toInt S39 = dD By Nb S39 := dDc (fun zz => by (try have i0 := Imp_m h58 (by omega)); (try have i1 := Imp_m h44 (by omega)); (try have i2 := Imp_m h43 (by omega)); (try have i3 := Imp_m h32.2.2.2.2.2.2.1 (by omega)); (try have i4 := Imp_m h32.2.2.2.2.2.2.2.1 (by omega)); omega)
    obtain ⟨S154, h155⟩ : ∃ q : PS, q = dD By Nb S39 := ⟨_, rfl⟩
    have h156 : CT By Nb σ145 S154 := by rw [h155]; exact (CT_eq h151 h153)
    have h157 := CT_k h156 h150
    have h158 : S154.2.2.2 = S39.2.2.2 := by rw [h155]; exact pss_w
    have h159 : Imp (S154.1 = 0) (S39.1 = 0) := fun z => (pss_g (by rw [h153, ← h155]; exact z)).1
    have h160 : Imp (S154.1 = 0) (((Int32.ofInt 1)).toInt = 1) := fun z => (pss_g (by rw [h153, ← h155]; exact z)).2.1
    have h161 := KN_fr hP h46 h147 (by decide +kernel)
    have h162 : S154.2.2.2 = Sp.2.2.2 := h158.trans h47
    have h163 := Imp_m h148.2.2.2.2.1 (by omega)
    refine En_Ps 1 (pc' := 53) (lv' := [(4, .int ((Int32.ofInt 1))), (3, .int z35), (0, .ref 3), (1, .ref a), (2, .ref b)]) (st' := [.ref 3]) rfl ?_
    refine En_getK (j := 5) h150 rfl rfl rfl (by decide +kernel : TG 3 = 3) (by decide +kernel) ?_
    refine En_iNe _ rfl rfl (fun h164 => ?_) (fun h164 => ?_)
    · have h165 := Imp_m h32.2.2.2.2.2.2.2.1 (by omega)
      have h166 : fSaid By Nb ix jx Sp = S154 := by unfold fSaid; (try dsimp only); first | (rw [← h40, ← h155]; first | done | rfl) | (rw [← h40, ← h155]; rw [if_pos (by omega)]; first | done | rfl) | (rw [← h40, ← h155]; rw [if_neg (by omega)]; first | done | rfl) | (rw [← h40, ← h155]; rw [if_neg (by omega), if_pos (by omega)]; first | done | rfl) | (rw [← h40, ← h155]; rw [if_neg (by omega), if_neg (by omega)]; first | done | rfl) | (rw [← h40, ← h155]; rw [if_neg (by omega), if_neg (by omega), if_neg (by omega)]; first | done | rfl)
      exact En_ret (v := none) rfl rfl rfl ⟨h146, h152, z149, h150, rfl, ⟨by omega, by omega, by omega, by omega, by omega, by omega, by omega, (by rw [h166]; exact ⟨h156, fun z => absurd z (by omega)⟩)⟩⟩
    · have h167 := Imp_m h32.2.2.2.2.2.2.1 (by omega)
      try have h168 := Imp_m h160 (by omega)
      try have h169 := Imp_m h159 (by omega)
      try have h170 := Imp_m h58 (by omega)
      try have h171 := Imp_m h44 (by omega)
      try have h172 := Imp_m h43 (by omega)
      refine En_Ps 3 (pc' := 63) (lv' := [(4, .int ((Int32.ofInt 1))), (3, .int z35), (0, .ref 3), (1, .ref a), (2, .ref b)]) (st' := [.int ((Int32.ofInt 1)), .int z35, .ref b]) rfl ?_
      have := (by decide : ((Int32.ofInt 1)).toInt = 1)
      refine En_callV rfl rfl rfl rfl rfl rfl rfl rfl hb (by decide +kernel) rfl (c_31x σ145 h146 b hb z35 ((Int32.ofInt 1)) (geI rfl (by omega)) (leI rfl (by omega)) (geI (by decide : (Int32.ofInt 1).toInt = 1) (by omega)) (leI (by decide : (Int32.ofInt 1).toInt = 1) (by omega)) a5 ha5 ((h147 _ _ (inW hb (by decide +kernel))).trans ((h31 _ _ (inW hb (by decide +kernel))).trans h4)) a7 ha7 ((h147 _ _ (inW hb (by decide +kernel))).trans ((h31 _ _ (inW hb (by decide +kernel))).trans h6)) z9 ((h147 _ _ (inW hb (by decide +kernel))).trans ((h31 _ _ (inW hb (by decide +kernel))).trans h8)) (by omega)) (by decide) (by decide) (fun v174 σ175 h173 => ?_)
      obtain ⟨h176, h177, z179, h180, rfl, h178⟩ := h173
      have h181 := h178.2.2.2.2
      have h182 := Fr_trans h152 h177 (by decide +kernel)
      obtain ⟨S183, h184⟩ : ∃ q : PS, q = wst (wst (wst S154 ix (tV By Nb Sp.2.2.1)) (ix + 1) (iW By Nb 8 S39)) jx (S154.2.2.2 jx + 1) := ⟨_, rfl⟩
      have h185 : CT By Nb σ175 S183 := by rw [h184]; exact CT_wst (CT_wst (CT_wst (CT_fr h156 h177 (by decide +kernel))))
      have h186 : KN σ175 a (uPd (uPd (uPd Sp.2.2.2 ix (tV By Nb Sp.2.2.1)) (ix + 1) (iW By Nb 8 S39)) jx (Sp.2.2.2 jx + 1)) (fun t => (((act Sp.2.2.2 t ∨ t = ix) ∨ t = ix + 1) ∨ t = jx)) := KN_w (KN_add (i := ix) (i' := ix + 1) (j := jx) h161 h181 L7 rfl L8 L9 L10 L1 L2 (by rw [h12]; exact L3) (by rw [L4]; exact h14) (by rw [h13]; exact L5) (by rw [L6]; exact h14) (by omega)) (uPd3_cg (by omega) (by omega) (by omega))
      have h187 : S183.2.2.2 = (uPd (uPd (uPd Sp.2.2.2 ix (tV By Nb Sp.2.2.1)) (ix + 1) (iW By Nb 8 S39)) jx (Sp.2.2.2 jx + 1)) := by rw [h184]; show uPd (uPd (uPd S154.2.2.2 _ _) _ _) _ (S154.2.2.2 jx + 1) = _; rw [h162]
      have h188 : S183.1 = S154.1 := by rw [h184]; rfl
      have h189 : fSaid By Nb ix jx Sp = S183 := by unfold fSaid; (try dsimp only); first | (rw [← h40, ← h155, ← h184]; first | done | rfl) | (rw [← h40, ← h155, ← h184]; rw [if_pos (by omega)]; first | done | rfl) | (rw [← h40, ← h155, ← h184]; rw [if_neg (by omega)]; first | done | rfl) | (rw [← h40, ← h155, ← h184]; rw [if_neg (by omega), if_pos (by omega)]; first | done | rfl) | (rw [← h40, ← h155, ← h184]; rw [if_neg (by omega), if_neg (by omega)]; first | done | rfl) | (rw [← h40, ← h155, ← h184]; rw [if_neg (by omega), if_neg (by omega), if_neg (by omega)]; first | done | rfl)
      exact En_ret (v := none) rfl rfl rfl ⟨h176, h182, z149, ((h177 _ _ (inW (by decide +kernel : TG 3 = 3) (by decide +kernel))).trans h150), rfl, ⟨by omega, by omega, by omega, by omega, by omega, by omega, by omega, (by rw [h189]; exact ⟨h185, fun zz => by rw [h187]; exact h186⟩)⟩⟩
/-- DoorSchool$Reader.readLesson(LDoorSchool$Plan;)V -/
abbrev P_67x (σ0 : SG) (By : Int → Int) (Nb : Int) (Sp : PS) (a : Nat) (f : Int32) (sg : Int32) : PO := fun v σ => WT σ ∧ Fr [(3, 1), (3, 2), (3, 3), (3, 4), (3, 5), (3, 6), (20, 2), (21, 0), (22, 0)] σ0 σ ∧ ∃ f1 : Int32, (σ 3)[5]? = some (.int f1) ∧ v = none ∧ -f1.toInt ≤ 0 ∧ f1.toInt - 3 ≤ 0 ∧ -f1.toInt + f.toInt ≤ 0 ∧ f1.toInt - f.toInt - 3 ≤ 0 ∧ -f1.toInt + sg.toInt - 4 ≤ 0 ∧ f1.toInt - sg.toInt - 3 ≤ 0 ∧ f.toInt - f1.toInt ≤ 0 ∧ (CT By Nb σ (fLesson By Nb Sp) ∧ ((fLesson By Nb Sp).1 = 0 → KN σ a (fLesson By Nb Sp).2.2.2 (act (fLesson By Nb Sp).2.2.2)))
set_option maxRecDepth 10000 in
set_option maxHeartbeats 4000000 in
theorem c_67x {By : Int → Int} {Nb : Int} {Sp : PS} (σ0 : SG) (hσ0 : WT σ0) (a : Nat) (ha : TG a = 18) (f : Int32) (h_f : (σ0 3)[5]? = some (.int f)) (sg : Int32) (h_sg : (σ0 a)[1]? = some (.int sg)) (hp0 : -sg.toInt ≤ 0) (hC : CT By Nb σ0 Sp) (hg : Sp.1 = 0) (hP : PLA a) (hX : FXP σ0 a) (hK : KN σ0 a Sp.2.2.2 (act Sp.2.2.2)) : En 6 136 none mr_67 (P_67x σ0 By Nb Sp a f sg) 0 [(0, .ref 3), (1, .ref a)] [] σ0 := by
  obtain ⟨hl_f, hu_f⟩ := WT_int hσ0 (g := 3) (by decide +kernel) (by decide +kernel) (l := 0) (u := 3) (by decide +kernel) h_f
  obtain ⟨hl_sg, hu_sg⟩ := WT_int hσ0 (g := 18) ha (by decide +kernel) (l := (-1)) (u := 4) (by decide +kernel) h_sg
  have hF0 : Fr [(3, 1), (3, 2), (3, 3), (3, 4), (3, 5), (3, 6), (20, 2), (21, 0), (22, 0)] σ0 σ0 := Fr_rfl
  have h1 := CT_k hC h_f
  obtain ⟨z3, h2, h4, h5⟩ := WT_peekI hσ0 ha (by decide +kernel : FT 18 3 = (0, 0, 4)) (by decide +kernel)
  have h6 : Sp.2.2.2 2 = z3.toInt := KN_v hK (Or.inl (by decide)) (by decide) (by decide) (by rw [lcO_lt (by decide) (by decide), Nat.add_zero]) rfl h2
  refine En_Ps 1 (pc' := 1) (lv' := [(0, .ref 3), (1, .ref a)]) (st' := [.ref 3]) rfl ?_
  obtain ⟨z8, h7, h9, h10⟩ := WT_peekI hσ0 (by decide +kernel : TG 3 = 3) (by decide +kernel : FT 3 3 = (0, 0, 1600)) (by decide +kernel)
  refine En_callV rfl rfl rfl rfl rfl rfl rfl rfl (by decide +kernel : TG 3 = 3) (by decide +kernel) rfl (c_72x σ0 hσ0 z8 h7 hC.1 (CT_at hC (by omega) h7)) (by decide) (by decide) (fun v12 σ13 h11 => ?_)
  obtain ⟨h14, h15, rfl, h16⟩ := h11
  have h17 := h16
  have h18 := Fr_trans hF0 h15 (by decide +kernel)
  obtain ⟨S19, h20⟩ : ∃ q : PS, q = adv By Nb Sp := ⟨_, rfl⟩
  have h21 : CT By Nb σ13 S19 := by rw [h20]; exact (CT_adv hC (by omega) h7 h15 (by decide +kernel) h17.2)
  have h22 := CT_k h21 ((h15 _ _ (inW (by decide +kernel : TG 3 = 3) (by decide +kernel))).trans h_f)
  have h23 : S19.2.2.2 = Sp.2.2.2 := by rw [h20]; exact adv_w
  have h24 : S19.1 = Sp.1 := by rw [h20]; exact adv_1
  have h25 := KN_fr hP hK h15 (by decide +kernel)
  have h26 : S19.2.2.2 = Sp.2.2.2 := h23.trans (rfl : Sp.2.2.2 = Sp.2.2.2)
  refine En_Ps 3 (pc' := 7) (lv' := [(0, .ref 3), (1, .ref a)]) (st' := [.ref a, .int ((Int32.ofInt 0)), .ref 3]) rfl ?_
  refine En_getK (j := 3) ((h15 _ _ (inW ha (by decide +kernel))).trans h2) rfl rfl rfl ha (by decide +kernel) ?_
  refine En_Ps 2 (pc' := 12) (lv' := [(0, .ref 3), (1, .ref a)]) (st' := [.int ((z3 - ((Int32.ofInt 1)))), .int ((Int32.ofInt 0)), .ref 3]) rfl ?_
  refine En_top (subI rfl (by decide : (Int32.ofInt 1).toInt = 1) (by omega) (by omega)) (fun z27 h28 => ?_)
  have := (by decide : ((Int32.ofInt 0)).toInt = 0)
  refine En_callV rfl rfl rfl rfl rfl rfl rfl rfl (by decide +kernel : TG 3 = 3) (by decide +kernel) rfl (c_58x σ13 h14 ((Int32.ofInt 0)) z27 f ((h15 _ _ (inW (by decide +kernel : TG 3 = 3) (by decide +kernel))).trans h_f) h21) (by decide) (by decide) (fun v30 σ31 h29 => ?_)
  obtain ⟨h32, h33, z35, h36, z37, rfl, h34⟩ := h29
  have h38 := h34.2.2.2.2.2.2.2.2.2.2
  have h39 := Fr_trans h18 h33 (by decide +kernel)
  have h40 : nH By Nb ((Int32.ofInt 0)).toInt z27.toInt S19 = nH By Nb (0) (Sp.2.2.2 2 - 1) S19 := nH_cg2 (fun zz => by omega) (fun zz => by omega)
  obtain ⟨S41, h42⟩ : ∃ q : PS, q = nH By Nb (0) (Sp.2.2.2 2 - 1) S19 := ⟨_, rfl⟩
  have h43 : CT By Nb σ31 S41 := by rw [h42]; exact (CT_eq h38.1 h40)
  have h44 := CT_k h43 h36
  have h45 : Imp (S41.1 = 0) (z37.toInt = tV By Nb S19.2.2.1) := fun z => Imp_m h38.2 (by rw [h40, ← h42]; exact z)
  have h46 : Imp (S41.1 = 0) (S19.1 = 0 ∧ tK By Nb S19.2.2.1 = 2 ∧ 0 ≤ tV By Nb S19.2.2.1 ∧ tV By Nb S19.2.2.1 ≤ Sp.2.2.2 2 - 1) := fun z => nH_gg (by rw [← h42]; exact z)
  have h47 : S41.2.2.2 = S19.2.2.2 := by rw [h42]; exact nH_w
  have h48 := KN_fr hP h25 h33 (by decide +kernel)
  have h49 : S41.2.2.2 = Sp.2.2.2 := h47.trans h26
  have h50 := Imp_m h34.2.2.2.2.2.2.2.2.1 (by omega)
  have h51 := Imp_m h34.2.2.2.2.2.2.2.2.2.1 (by omega)
  refine En_Ps 2 (pc' := 17) (lv' := [(2, .int z37), (0, .ref 3), (1, .ref a)]) (st' := [.ref 3]) rfl ?_
  refine En_getK (j := 5) h36 rfl rfl rfl (by decide +kernel : TG 3 = 3) (by decide +kernel) ?_
  refine En_iEq _ rfl rfl (fun h52 => ?_) (fun h52 => ?_)
  · have h53 := Imp_m h34.2.2.2.2.2.2.1 (by omega)
    try have h54 := Imp_m h46 (by omega)
    try have h55 := Imp_m h45 (by omega)
    refine En_Ps 1 (pc' := 25) (lv' := [(2, .int z37), (0, .ref 3), (1, .ref a)]) (st' := [.ref a]) rfl ?_
    refine En_getR (j := 4) (g' := 19) (u := 0) rfl rfl rfl ha (by decide +kernel) h32 (by decide +kernel) (fun a57 h56 ha57 => ?_)
    refine En_Ps 1 (pc' := 29) (lv' := [(2, .int z37), (0, .ref 3), (1, .ref a)]) (st' := [.int z37, .ref a57]) rfl ?_
    refine En_aald (g' := 28) (u := 0) rfl rfl ha57 (by decide +kernel) h32 (by omega) (lnI (by decide +kernel : LN _ = 4) (by omega)) (FTsgl (by decide +kernel)) (fun a59 h58 ha59 => ?_)
    have h60 := DRc (d := z37.toInt) (FXP_fr hP hX h39 (by decide +kernel)) h56 h58 (by omega) (by omega)
    have h61 := lc_d (d := z37.toInt) (by omega) (by omega)
    refine En_getR (j := 0) (g' := 20) (u := 0) rfl rfl rfl ha59 (by decide +kernel) h32 (by decide +kernel) (fun a63 h62 ha63 => ?_)
    have h64 := DLc (d := z37.toInt) (FXP_fr hP hX h39 (by decide +kernel)) h60 h62 (by omega) (by omega)
    refine En_Ps 2 (pc' := 35) (lv' := [(3, .ref a63), (2, .int z37), (0, .ref 3), (1, .ref a)]) (st' := [.ref a63]) rfl ?_
    refine En_getI (j := 2) (l := 0) (u := 13) rfl rfl rfl ha63 (by decide +kernel) h32 (by decide +kernel) (fun z66 h65 h67 h68 => ?_)
    have h69 : Sp.2.2.2 (12 + 4 * z37.toInt) = z66.toInt := KN_v h48 (Or.inr (Or.inl ⟨by omega, by omega, by omega⟩)) (by omega) (by omega) (by omega) (by omega) h65
    have h70 : z37.toInt = (tV By Nb S19.2.2.1) := by omega
    rw [h70] at h69
    refine En_Ps 1 (pc' := 40) (lv' := [(3, .ref a63), (2, .int z37), (0, .ref 3), (1, .ref a)]) (st' := [.int (((Int8.ofInt 12).toInt32)), .int z66]) rfl ?_
    refine En_icLt _ rfl (by decide : ((Int8.ofInt 12).toInt32).toInt = 12) rfl (fun h71 => ?_) (fun h71 => ?_)
    · refine En_Ps 1 (pc' := 50) (lv' := [(3, .ref a63), (2, .int z37), (0, .ref 3), (1, .ref a)]) (st' := [.ref 3]) rfl ?_
      obtain ⟨z73, h72, h74, h75⟩ := WT_peekI h32 (by decide +kernel : TG 3 = 3) (by decide +kernel : FT 3 3 = (0, 0, 1600)) (by decide +kernel)
      refine En_callV rfl rfl rfl rfl rfl rfl rfl rfl (by decide +kernel : TG 3 = 3) (by decide +kernel) rfl (c_72x σ31 h32 z73 h72 h43.1 (CT_at h43 (by omega) h72)) (by decide) (by decide) (fun v77 σ78 h76 => ?_)
      obtain ⟨h79, h80, rfl, h81⟩ := h76
      have h82 := h81
      have h83 := Fr_trans h39 h80 (by decide +kernel)
      obtain ⟨S84, h85⟩ : ∃ q : PS, q = adv By Nb S41 := ⟨_, rfl⟩
      have h86 : CT By Nb σ78 S84 := by rw [h85]; exact (CT_adv h43 (by omega) h72 h80 (by decide +kernel) h82.2)
      have h87 := CT_k h86 ((h80 _ _ (inW (by decide +kernel : TG 3 = 3) (by decide +kernel))).trans h36)
      have h88 : S84.2.2.2 = S41.2.2.2 := by rw [h85]; exact adv_w
      have h89 : S84.1 = S41.1 := by rw [h85]; exact adv_1
      have h90 := KN_fr hP h48 h80 (by decide +kernel)
      have h91 : S84.2.2.2 = Sp.2.2.2 := h88.trans h49
      refine En_Ps 3 (pc' := 56) (lv' := [(3, .ref a63), (2, .int z37), (0, .ref 3), (1, .ref a)]) (st' := [.ref a63, .ref a, .ref 3]) rfl ?_
      refine En_callV rfl rfl rfl rfl rfl rfl rfl rfl (by decide +kernel : TG 3 = 3) (by decide +kernel) rfl (c_69x σ78 h79 a ha a63 ha63 z35 ((h80 _ _ (inW (by decide +kernel : TG 3 = 3) (by decide +kernel))).trans h36) sg ((h80 _ _ (inW ha (by decide +kernel))).trans ((h33 _ _ (inW ha (by decide +kernel))).trans ((h15 _ _ (inW ha (by decide +kernel))).trans h_sg))) (by omega) h86 (by omega) hP (FXP_fr hP hX h83 (by decide +kernel)) (by rw [h91]; exact h90) (show LSN σ78 a a63 S84.2.2.2 (26 + 24 * (tV By Nb S19.2.2.1) + 2 * Sp.2.2.2 (12 + 4 * (tV By Nb S19.2.2.1))) (12 + 4 * (tV By Nb S19.2.2.1)) from by rw [h91]; exact LSN_d (FXP_fr hP hX h83 (by decide +kernel)) (by omega) (by omega) (by omega) (by rw [← h70]; exact h64) rfl (by omega) (by omega))) (by decide) (by decide) (fun v93 σ94 h92 => ?_)
      obtain ⟨h95, h96, z98, h99, rfl, h97⟩ := h92
      have h100 := h97.2.2.2.2.2.2.2
      have h101 := Fr_trans h83 h96 (by decide +kernel)
      obtain ⟨S102, h103⟩ : ∃ q : PS, q = fSaid By Nb (26 + 24 * (tV By Nb S19.2.2.1) + 2 * Sp.2.2.2 (12 + 4 * (tV By Nb S19.2.2.1))) (12 + 4 * (tV By Nb S19.2.2.1)) S84 := ⟨_, rfl⟩
      have h104 : CT By Nb σ94 S102 := by rw [h103]; exact h100.1
      have h105 := CT_k h104 h99
      have h106 : fLesson By Nb Sp = S102 := by unfold fLesson; (try dsimp only); first | (rw [← h20, ← h42, ← h85, ← h103]; first | done | rfl) | (rw [← h20, ← h42, ← h85, ← h103]; rw [if_pos (by omega)]; first | done | rfl) | (rw [← h20, ← h42, ← h85, ← h103]; rw [if_neg (by omega)]; first | done | rfl) | (rw [← h20, ← h42, ← h85, ← h103]; rw [if_neg (by omega), if_pos (by omega)]; first | done | rfl) | (rw [← h20, ← h42, ← h85, ← h103]; rw [if_neg (by omega), if_neg (by omega)]; first | done | rfl) | (rw [← h20, ← h42, ← h85, ← h103]; rw [if_neg (by omega), if_neg (by omega), if_neg (by omega)]; first | done | rfl)
      exact En_ret (v := none) rfl rfl rfl ⟨h95, h101, z98, h99, rfl, ⟨by omega, by omega, by omega, by omega, by omega, by omega, by omega, (by rw [h106]; exact ⟨h104, fun zz => by exact (by rw [h103] at zz ⊢; exact KN_les (d := (tV By Nb S19.2.2.1)) zz (h100.2 zz) (by omega) (by omega) rfl rfl (by rw [h91]) (by omega))⟩)⟩⟩
    · refine En_Ps 2 (pc' := 45) (lv' := [(3, .ref a63), (2, .int z37), (0, .ref 3), (1, .ref a)]) (st' := [.int ((Int32.ofInt 3)), .ref 3]) rfl ?_
      have := (by decide : ((Int32.ofInt 3)).toInt = 3)
      refine En_callV rfl rfl rfl rfl rfl rfl rfl rfl (by decide +kernel : TG 3 = 3) (by decide +kernel) rfl (c_54x σ31 h32 ((Int32.ofInt 3)) (geI (by decide : (Int32.ofInt 3).toInt = 3) (by omega)) (leI (by decide : (Int32.ofInt 3).toInt = 3) (by omega)) z35 h36 h43) (by decide) (by decide) (fun v108 σ109 h107 => ?_)
      obtain ⟨h110, h111, z113, h114, rfl, h112⟩ := h107
      have h115 := h112.2.2.2.2.2.2
      have h116 := Fr_trans h39 h111 (by decide +kernel)
      obtain ⟨S117, h118⟩ : ∃ q : PS, q = err By Nb 3 S41 := ⟨_, rfl⟩
      have h119 : CT By Nb σ109 S117 := by rw [h118]; exact (CT_eq h115 (err_cg (by omega)))
      have h120 := CT_k h119 h114
      have h121 : S117.2.2.2 = S41.2.2.2 := by rw [h118]; exact err_w
      have h122 := KN_fr hP h48 h111 (by decide +kernel)
      have h123 : S117.2.2.2 = Sp.2.2.2 := h121.trans h49
      have h124 := Imp_m h112.2.2.2.2.1 (by omega)
      have h125 : fLesson By Nb Sp = S117 := by unfold fLesson; (try dsimp only); first | (rw [← h20, ← h42, ← h118]; first | done | rfl) | (rw [← h20, ← h42, ← h118]; rw [if_pos (by omega)]; first | done | rfl) | (rw [← h20, ← h42, ← h118]; rw [if_neg (by omega)]; first | done | rfl) | (rw [← h20, ← h42, ← h118]; rw [if_neg (by omega), if_pos (by omega)]; first | done | rfl) | (rw [← h20, ← h42, ← h118]; rw [if_neg (by omega), if_neg (by omega)]; first | done | rfl) | (rw [← h20, ← h42, ← h118]; rw [if_neg (by omega), if_neg (by omega), if_neg (by omega)]; first | done | rfl)
      exact En_ret (v := none) rfl rfl rfl ⟨h110, h116, z113, h114, rfl, ⟨by omega, by omega, by omega, by omega, by omega, by omega, by omega, (by rw [h125]; exact ⟨h119, fun z => absurd z (by omega)⟩)⟩⟩
  · have h126 := Imp_m h34.2.2.2.2.2.2.2.1 (by omega)
    have h127 : fLesson By Nb Sp = S41 := by unfold fLesson; (try dsimp only); first | (rw [← h20, ← h42]; first | done | rfl) | (rw [← h20, ← h42]; rw [if_pos (by omega)]; first | done | rfl) | (rw [← h20, ← h42]; rw [if_neg (by omega)]; first | done | rfl) | (rw [← h20, ← h42]; rw [if_neg (by omega), if_pos (by omega)]; first | done | rfl) | (rw [← h20, ← h42]; rw [if_neg (by omega), if_neg (by omega)]; first | done | rfl) | (rw [← h20, ← h42]; rw [if_neg (by omega), if_neg (by omega), if_neg (by omega)]; first | done | rfl)
    exact En_ret (v := none) rfl rfl rfl ⟨h32, h39, z35, h36, rfl, ⟨by omega, by omega, by omega, by omega, by omega, by omega, by omega, (by rw [h127]; exact ⟨h43, fun z => absurd z (by omega)⟩)⟩⟩

