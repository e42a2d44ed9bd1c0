/-- DoorSchool$Reader.takePart(I)I -/
abbrev P_74x (σ0 : SG) (By : Int → Int) (Nb : Int) (Sp : PS) (a : Int32) (f : Int32) : PO := fun v σ => WT σ ∧ Fr [(3, 1), (3, 2), (3, 3), (3, 4), (3, 5), (3, 6)] σ0 σ ∧ ∃ f1 : Int32, (σ 3)[5]? = some (.int f1) ∧ ∃ ret : Int32, v = some (.int ret) ∧ -ret.toInt - 1 ≤ 0 ∧ ret.toInt - 15 ≤ 0 ∧ -f1.toInt ≤ 0 ∧ f1.toInt - 3 ≤ 0 ∧ -f1.toInt + f.toInt ≤ 0 ∧ f.toInt - f1.toInt ≤ 0 ∧ Imp (f1.toInt ≤ 0) (-ret.toInt ≤ 0 ∧ ret.toInt - 15 ≤ 0) ∧ (CT By Nb σ (tP By Nb a.toInt Sp) ∧ Imp ((tP By Nb a.toInt Sp).1 = 0) (ret.toInt = tV By Nb Sp.2.2.1))
set_option maxRecDepth 10000 in
set_option maxHeartbeats 4000000 in
theorem c_74x {By : Int → Int} {Nb : Int} {Sp : PS} (σ0 : SG) (hσ0 : WT σ0) (a : Int32) (hl_a : (-1) ≤ a.toInt) (hu_a : a.toInt ≤ 15) (f : Int32) (h_f : (σ0 3)[5]? = some (.int f)) (hC : CT By Nb σ0 Sp) (ha : Sp.1 = 0 → 0 ≤ a.toInt) : En 2 43 none mr_74 (P_74x σ0 By Nb Sp a f) 0 [(0, .ref 3), (1, .int a)] [] σ0 := by
  obtain ⟨hl_f, hu_f⟩ := WT_int hσ0 (g := 3) (by decide +kernel) (by decide +kernel) (l := 0) (u := 3) (by decide +kernel) h_f
  have hF0 : Fr [(3, 1), (3, 2), (3, 3), (3, 4), (3, 5), (3, 6)] σ0 σ0 := Fr_rfl
  obtain ⟨z2, h1, h3, h4⟩ := WT_peekI hσ0 tgz_3 (by decide +kernel : FT 3 1 = (0, 0, 4)) (by decide +kernel)
  obtain ⟨z6, h5, h7, h8⟩ := WT_peekI hσ0 tgz_3 (by decide +kernel : FT 3 4 = (0, (-2147483648), 1000000)) (by decide +kernel)
  have h9 := CT_k hC h_f
  have h10 : Imp (Sp.1 = 0) (tK By Nb Sp.2.2.1 = z2.toInt) := CT_t hC h1
  have h11 : Imp (Sp.1 = 0 ∧ tK By Nb Sp.2.2.1 = 2) (z6.toInt = tV By Nb Sp.2.2.1 ∧ 0 ≤ tV By Nb Sp.2.2.1) := fun q => CT_u hC h5 q.1 q.2
  refine En_Ps 3 (pc' := 4) (lv' := [(0, .ref 3), (1, .int a)]) (st' := [.int (((Int8.ofInt 15).toInt32)), .int ((Int32.ofInt 0)), .ref 3]) rfl ?_
  have := (by decide : ((Int32.ofInt 0)).toInt = 0)
  have := (by decide : (((Int8.ofInt 15).toInt32)).toInt = 15)
  refine En_callV rfl rfl rfl rfl rfl rfl rfl rfl tgz_3 (by decide +kernel) rfl (c_58x σ0 hσ0 ((Int32.ofInt 0)) (((Int8.ofInt 15).toInt32)) f h_f hC) (by decide) (by decide) (fun v13 σ14 h12 => ?_)
  obtain ⟨h15, h16, z18, h19, z20, rfl, h17⟩ := h12
  have h21 := h17.2.2.2.2.2.2.2.2.2
  have h22 := Fr_trans hF0 h16 (by decide +kernel)
  have h23 : nH By Nb ((Int32.ofInt 0)).toInt (((Int8.ofInt 15).toInt32)).toInt Sp = nH By Nb (0) (15) Sp := nH_cg2 (fun zz => by omega) (fun zz => by omega)
  obtain ⟨S24, h25⟩ : ∃ q : PS, q = nH By Nb (0) (15) Sp := ⟨_, rfl⟩
  have h26 : CT By Nb σ14 S24 := by rw [h25]; exact (CT_eq h21.1 h23)
  have h27 := CT_k h26 h19
  have h28 : Imp (S24.1 = 0) (tK By Nb S24.2.2.1 = z2.toInt) := CT_t h26 ((h16 _ _ (inW tgz_3 (by decide +kernel))).trans h1)
  have h29 : Imp (S24.1 = 0 ∧ tK By Nb S24.2.2.1 = 2) (z6.toInt = tV By Nb S24.2.2.1 ∧ 0 ≤ tV By Nb S24.2.2.1) := fun q => CT_u h26 ((h16 _ _ (inW tgz_3 (by decide +kernel))).trans h5) q.1 q.2
  have h30 : Imp (S24.1 = 0) (z20.toInt = tV By Nb Sp.2.2.1) := fun z => Imp_m h21.2 (by rw [h23, ← h25]; exact z)
  have h31 : Imp (S24.1 = 0) (Sp.1 = 0 ∧ tK By Nb Sp.2.2.1 = 2 ∧ 0 ≤ tV By Nb Sp.2.2.1 ∧ tV By Nb Sp.2.2.1 ≤ 15) := fun z => nH_gg (by rw [← h25]; exact z)
  have h32 : S24.2.2.2 = Sp.2.2.2 := by rw [h25]; exact nH_w
  have h33 := Imp_m h17.2.2.2.2.2.2.2.1 (by omega)
  have h34 := Imp_m h17.2.2.2.2.2.2.2.2.1 (by omega)
  refine En_Ps 2 (pc' := 9) (lv' := [(2, .int z20), (0, .ref 3), (1, .int a)]) (st' := [.ref 3]) rfl ?_
  refine En_getK (j := 5) h19 rfl rfl rfl tgz_3 (by decide +kernel) ?_
  refine En_iNe _ rfl rfl (fun h35 => ?_) (fun h35 => ?_)
  · have h36 := Imp_m h17.2.2.2.2.2.2.1 (by omega)
    refine En_Ps 1 (pc' := 29) (lv' := [(2, .int z20), (0, .ref 3), (1, .int a)]) (st' := [.ref 3]) rfl ?_
    refine En_getK (j := 5) h19 rfl rfl rfl tgz_3 (by decide +kernel) ?_
    refine En_iNe _ rfl rfl (fun h37 => ?_) (fun hx => by exfalso; have := Imp_m h17.2.2.2.2.2.1 (by omega); omega)
    refine En_Ps 1 (pc' := 40) (lv' := [(2, .int z20), (0, .ref 3), (1, .int a)]) (st' := [.int z20]) rfl ?_
    exact En_ret (v := some (.int z20)) rfl rfl rfl ⟨h15, h22, z18, h19, z20, rfl, ⟨by omega, by omega, by omega, by omega, by omega, by omega, fun _ => by have := Imp_m h17.2.2.2.2.2.1 (by omega); omega, (by have q0 : tP By Nb a.toInt Sp = S24 := (by subst h25; first | exact tPc_e (by omega) (by omega) | exact tPc_a (by omega) | exact tPc_b (by omega)); rw [q0]; exact ⟨h26, fun zz => by (try have i0 := Imp_m h31 (by omega)); (try have i1 := Imp_m h30 (by omega)); (try have i2 := Imp_m h28 (by omega)); (try have i3 := Imp_m h10 (by omega)); (try have i4 := Imp_m h11 (by omega)); (try have i5 := Imp_m h29 (by omega)); (try have i6 := Imp_m h17.2.2.2.2.2.1 (by omega)); omega⟩)⟩⟩
  · have h38 := Imp_m h17.2.2.2.2.2.1 (by omega)
    try have h39 := Imp_m h31 (by omega)
    try have h40 := Imp_m h30 (by omega)
    try have h41 := Imp_m h28 (by omega)
    try have h42 := Imp_m h10 (by omega)
    try have h43 := Imp_m h11 (by omega)
    try have h44 := Imp_m h29 (by omega)
    refine En_Ps 2 (pc' := 17) (lv' := [(2, .int z20), (0, .ref 3), (1, .int a)]) (st' := [.int a, .int z20]) rfl ?_
    have h45 : sbI (z20.toInt) a.toInt = sbI (tV By Nb Sp.2.2.1) a.toInt := sbI_cg (by omega) rfl
    refine En_Ps 2 (pc' := 19) (lv' := [(2, .int z20), (0, .ref 3), (1, .int a)]) (st' := [.int ((a ^^^ ((Int32.ofInt (-1))))), .int z20]) rfl ?_
    refine En_nam (fun z46 h47 => ?_)
    refine En_Ps 1 (pc' := 20) (lv' := [(2, .int z20), (0, .ref 3), (1, .int a)]) (st' := [.int ((z20 &&& z46))]) rfl ?_
    refine En_nam (fun z48 h49 => ?_)
    obtain ⟨h50, h51⟩ := andn_rng h49 rfl (by omega) (by omega : _ ≤ (15 : Int))
    refine En_iEq _ rfl rfl (fun h52 => ?_) (fun h52 => ?_)
    · have := sub_sbw h49 h47 rfl rfl (by omega) (by omega) (by omega)
      refine En_Ps 1 (pc' := 29) (lv' := [(2, .int z20), (0, .ref 3), (1, .int a)]) (st' := [.ref 3]) rfl ?_
      refine En_getK (j := 5) h19 rfl rfl rfl tgz_3 (by decide +kernel) ?_
      refine En_iNe _ rfl rfl (fun hx => by exfalso; have := Imp_m h17.2.2.2.2.2.2.1 (by omega); omega) (fun h53 => ?_)
      refine En_Ps 1 (pc' := 36) (lv' := [(2, .int z20), (0, .ref 3), (1, .int a)]) (st' := [.ref 3]) rfl ?_
      obtain ⟨z55, h54, h56, h57⟩ := WT_peekI h15 tgz_3 (by decide +kernel : FT 3 3 = (0, 0, 1600)) (by decide +kernel)
      refine En_callV rfl rfl rfl rfl rfl rfl rfl rfl tgz_3 (by decide +kernel) rfl (c_72x σ14 h15 z55 h54 h26.1 (CT_at h26 (by omega) h54)) (by decide) (by decide) (fun v59 σ60 h58 => ?_)
      obtain ⟨h61, h62, rfl, h63⟩ := h58
      have h64 := h63
      have h65 := Fr_trans h22 h62 (by decide +kernel)
      obtain ⟨S66, h67⟩ : ∃ q : PS, q = adv By Nb S24 := ⟨_, rfl⟩
      have h68 : CT By Nb σ60 S66 := by rw [h67]; exact (CT_adv h26 (by omega) h54 h62 (by decide +kernel) h64.2)
      have h69 := CT_k h68 ((h62 _ _ (inW tgz_3 (by decide +kernel))).trans h19)
      have h70 : S66.2.2.2 = S24.2.2.2 := by rw [h67]; exact adv_w
      have h71 : S66.1 = S24.1 := by rw [h67]; exact adv_1
      refine En_Ps 1 (pc' := 40) (lv' := [(2, .int z20), (0, .ref 3), (1, .int a)]) (st' := [.int z20]) rfl ?_
      exact En_ret (v := some (.int z20)) rfl rfl rfl ⟨h61, h65, z18, ((h62 _ _ (inW tgz_3 (by decide +kernel))).trans h19), z20, rfl, ⟨by omega, by omega, by omega, by omega, by omega, by omega, fun _ => by omega, (by have q0 : tP By Nb a.toInt Sp = S66 := (by subst h67; subst h25; first | exact tPc_e (by omega) (by omega) | exact tPc_a (by omega) | exact tPc_b (by omega)); rw [q0]; exact ⟨h68, fun zz => by (try have i0 := Imp_m h31 (by omega)); (try have i1 := Imp_m h30 (by omega)); (try have i2 := Imp_m h28 (by omega)); (try have i3 := Imp_m h10 (by omega)); (try have i4 := Imp_m h11 (by omega)); (try have i5 := Imp_m h29 (by omega)); (try have i6 := Imp_m h17.2.2.2.2.2.2.1 (by omega)); omega⟩)⟩⟩
    · have := sub_sbw h49 h47 rfl rfl (by omega) (by omega) (by omega)
      refine En_Ps 2 (pc' := 25) (lv' := [(2, .int z20), (0, .ref 3), (1, .int a)]) (st' := [.int ((Int32.ofInt 2)), .ref 3]) rfl ?_
      have := (by decide : ((Int32.ofInt 2)).toInt = 2)
      refine En_callV rfl rfl rfl rfl rfl rfl rfl rfl tgz_3 (by decide +kernel) rfl (c_54x σ14 h15 ((Int32.ofInt 2)) (geI (by decide : (Int32.ofInt 2).toInt = 2) (by omega)) (leI (by decide : (Int32.ofInt 2).toInt = 2) (by omega)) z18 h19 h26) (by decide) (by decide) (fun v73 σ74 h72 => ?_)
      obtain ⟨h75, h76, z78, h79, rfl, h77⟩ := h72
      have h80 := h77.2.2.2.2.2
      have h81 := Fr_trans h22 h76 (by decide +kernel)
      obtain ⟨S82, h83⟩ : ∃ q : PS, q = err By Nb 2 S24 := ⟨_, rfl⟩
      have h84 : CT By Nb σ74 S82 := by rw [h83]; exact (CT_eq h80 (err_cg (by omega)))
      have h85 := CT_k h84 h79
      have h86 : Imp (S82.1 = 0) (tK By Nb S82.2.2.1 = z2.toInt) := CT_t h84 ((h76 _ _ (inW tgz_3 (by decide +kernel))).trans ((h16 _ _ (inW tgz_3 (by decide +kernel))).trans h1))
      have h87 : Imp (S82.1 = 0 ∧ tK By Nb S82.2.2.1 = 2) (z6.toInt = tV By Nb S82.2.2.1 ∧ 0 ≤ tV By Nb S82.2.2.1) := fun q => CT_u h84 ((h76 _ _ (inW tgz_3 (by decide +kernel))).trans ((h16 _ _ (inW tgz_3 (by decide +kernel))).trans h5)) q.1 q.2
      have h88 : S82.2.2.2 = S24.2.2.2 := by rw [h83]; exact err_w
      have h89 := Imp_m h77.2.2.2.1 (by omega)
      refine En_Ps 1 (pc' := 29) (lv' := [(2, .int z20), (0, .ref 3), (1, .int a)]) (st' := [.ref 3]) rfl ?_
      refine En_getK (j := 5) h79 rfl rfl rfl tgz_3 (by decide +kernel) ?_
      refine En_iNe _ rfl rfl (fun h90 => ?_) (fun hx => by exfalso; have := Imp_m h17.2.2.2.2.2.2.1 (by omega); have := Imp_m h77.2.2.2.2.1 (by omega); omega)
      refine En_Ps 1 (pc' := 40) (lv' := [(2, .int z20), (0, .ref 3), (1, .int a)]) (st' := [.int z20]) rfl ?_
      exact En_ret (v := some (.int z20)) rfl rfl rfl ⟨h75, h81, z78, h79, z20, rfl, ⟨by omega, by omega, by omega, by omega, by omega, by omega, fun _ => by omega, (by have q0 : tP By Nb a.toInt Sp = S82 := (by subst h83; subst h25; first | exact tPc_e (by omega) (by omega) | exact tPc_a (by omega) | exact tPc_b (by omega)); rw [q0]; exact ⟨h84, fun zz => by (try have i0 := Imp_m h86 (by omega)); (try have i1 := Imp_m h31 (by omega)); (try have i2 := Imp_m h30 (by omega)); (try have i3 := Imp_m h28 (by omega)); (try have i4 := Imp_m h10 (by omega)); (try have i5 := Imp_m h11 (by omega)); (try have i6 := Imp_m h29 (by omega)); (try have i7 := Imp_m h87 (by omega)); (try have i8 := Imp_m h17.2.2.2.2.2.2.1 (by omega)); (try have i9 := Imp_m h77.2.2.2.2.1 (by omega)); omega⟩)⟩⟩
/-- DoorSchool$Reader.readOwner(LDoorSchool$Plan;)V -/
abbrev P_68x (σ0 : SG) (By : Int → Int) (Nb : Int) (Sp : PS) (a : Nat) (f : Int32) (sg : Int32) : PO := fun v σ => WT σ ∧ Fr [(3, 1), (3, 2), (3, 3), (3, 4), (3, 5), (3, 6), (18, 6), (18, 7)] σ0 σ ∧ ∃ f1 : Int32, (σ 3)[5]? = some (.int f1) ∧ v = none ∧ OUT σ0 σ a ∧ -f1.toInt ≤ 0 ∧ f1.toInt - 3 ≤ 0 ∧ -f1.toInt + f.toInt ≤ 0 ∧ f.toInt - f1.toInt ≤ 0 ∧ (CT By Nb σ (fOwner By Nb Sp) ∧ ((fOwner By Nb Sp).1 = 0 → KN σ a (fOwner By Nb Sp).2.2.2 (act (fOwner By Nb Sp).2.2.2)))
set_option maxRecDepth 10000 in
set_option maxHeartbeats 4000000 in
theorem c_68x {By : Int → Int} {Nb : Int} {Sp : PS} (σ0 : SG) (hσ0 : WT σ0) (a : Nat) (ha : TG a = 18) (f : Int32) (h_f : (σ0 3)[5]? = some (.int f)) (sg : Int32) (h_sg : (σ0 a)[1]? = some (.int sg)) (hp0 : -sg.toInt ≤ 0) (hC : CT By Nb σ0 Sp) (hg : Sp.1 = 0) (hP : PLA a) (hX : FXP σ0 a) (hK : KN σ0 a Sp.2.2.2 (act Sp.2.2.2)) : En 3 66 none mr_68 (P_68x σ0 By Nb Sp a f sg) 0 [(0, .ref 3), (1, .ref a)] [] σ0 := by
  obtain ⟨hl_f, hu_f⟩ := WT_int hσ0 (g := 3) (by decide +kernel) (by decide +kernel) (l := 0) (u := 3) (by decide +kernel) h_f
  obtain ⟨hl_sg, hu_sg⟩ := WT_int hσ0 (g := 18) ha (by decide +kernel) (l := (-1)) (u := 4) (by decide +kernel) h_sg
  have hF0 : Fr [(3, 1), (3, 2), (3, 3), (3, 4), (3, 5), (3, 6), (18, 6), (18, 7)] σ0 σ0 := Fr_rfl
  have h1 := CT_k hC h_f
  have h2 : Sp.2.2.2 0 = sg.toInt := KN_v hK (Or.inl (by decide)) (by decide) (by decide) (by rw [lcO_lt (by decide) (by decide), Nat.add_zero]) rfl h_sg
  have h3 : pI (Sp.2.2.2 0) = pI (sg.toInt) := by rw [h2]
  refine En_Ps 1 (pc' := 1) (lv' := [(0, .ref 3), (1, .ref a)]) (st' := [.ref 3]) rfl ?_
  obtain ⟨z5, h4, h6, h7⟩ := WT_peekI hσ0 tgz_3 (by decide +kernel : FT 3 3 = (0, 0, 1600)) (by decide +kernel)
  refine En_callV rfl rfl rfl rfl rfl rfl rfl rfl tgz_3 (by decide +kernel) rfl (c_72x σ0 hσ0 z5 h4 hC.1 (CT_at hC (by omega) h4)) (by decide) (by decide) (fun v9 σ10 h8 => ?_)
  obtain ⟨h11, h12, rfl, h13⟩ := h8
  have h14 := h13
  have h15 := Fr_trans hF0 h12 (by decide +kernel)
  obtain ⟨S16, h17⟩ : ∃ q : PS, q = adv By Nb Sp := ⟨_, rfl⟩
  have h18 : CT By Nb σ10 S16 := by rw [h17]; exact (CT_adv hC (by omega) h4 h12 (by decide +kernel) h14.2)
  have h19 := CT_k h18 ((h12 _ _ (inW tgz_3 (by decide +kernel))).trans h_f)
  have h20 : S16.2.2.2 = Sp.2.2.2 := by rw [h17]; exact adv_w
  have h21 : S16.1 = Sp.1 := by rw [h17]; exact adv_1
  have h22 := KN_fr hP hK h12 (by decide +kernel)
  have h23 : S16.2.2.2 = Sp.2.2.2 := h20.trans (rfl : Sp.2.2.2 = Sp.2.2.2)
  have o24 : OUT σ0 σ10 a := OUT_fr OUT_0 h12 (by decide +kernel)
  refine En_Ps 3 (pc' := 7) (lv' := [(0, .ref 3), (1, .ref a)]) (st' := [.ref a, .int ((Int32.ofInt 0)), .ref 3]) rfl ?_
  refine En_callV rfl rfl rfl rfl rfl rfl rfl rfl ha (by decide +kernel) rfl (c_51x σ10 h11 a ha sg ((h12 _ _ (inW ha (by decide +kernel))).trans h_sg) (by omega)) (by decide) (by decide) (fun v26 σ27 h25 => ?_)
  obtain ⟨h28, h29, z31, rfl, h30⟩ := h25
  have h32 := h30.2.2
  obtain rfl : σ10 = σ27 := Fr_nil h29
  have h33 := h32
  have h34 : pI (S16.2.2.2 0) = z31.toInt := by rw [h23]; omega
  refine En_Ps 2 (pc' := 12) (lv' := [(0, .ref 3), (1, .ref a)]) (st' := [.int ((z31 - ((Int32.ofInt 1)))), .int ((Int32.ofInt 0)), .ref 3]) rfl ?_
  refine En_top (subI rfl (by decide : (Int32.ofInt 1).toInt = 1) (by omega) (by omega)) (fun z35 h36 => ?_)
  have := (by decide : ((Int32.ofInt 0)).toInt = 0)
  refine En_callV rfl rfl rfl rfl rfl rfl rfl rfl tgz_3 (by decide +kernel) rfl (c_73x σ10 h11 ((Int32.ofInt 0)) z35 f ((h12 _ _ (inW tgz_3 (by decide +kernel))).trans h_f) h18) (by decide) (by decide) (fun v38 σ39 h37 => ?_)
  obtain ⟨h40, h41, z43, h44, z45, rfl, h42⟩ := h37
  have h46 := h42.2.2.2.2.2.2.2.2.2
  have h47 := Fr_trans h15 h41 (by decide +kernel)
  have h48 : tN By Nb ((Int32.ofInt 0)).toInt z35.toInt S16 = tN By Nb (0) (pI (S16.2.2.2 0) - 1) S16 := tN_cg2 (fun zz => by omega) (fun zz => by omega)
  obtain ⟨S49, h50⟩ : ∃ q : PS, q = tN By Nb (0) (pI (S16.2.2.2 0) - 1) S16 := ⟨_, rfl⟩
  have h51 : CT By Nb σ39 S49 := by rw [h50]; exact (CT_eq h46.1 h48)
  have h52 := CT_k h51 h44
  have h53 : Imp (S49.1 = 0) (z45.toInt = tV By Nb S16.2.2.1) := fun z => Imp_m h46.2 (by rw [h48, ← h50]; exact z)
  have h54 : Imp (S49.1 = 0) (S16.1 = 0 ∧ tK By Nb S16.2.2.1 = 2 ∧ 0 ≤ tV By Nb S16.2.2.1 ∧ tV By Nb S16.2.2.1 ≤ pI (S16.2.2.2 0) - 1) := fun z => tN_gg (by rw [← h50]; exact z)
  have h55 : S49.2.2.2 = S16.2.2.2 := by rw [h50]; exact tN_w
  have h56 := KN_fr hP h22 h41 (by decide +kernel)
  have h57 : S49.2.2.2 = Sp.2.2.2 := h55.trans h23
  have o58 : OUT σ0 σ39 a := OUT_fr o24 h41 (by decide +kernel)
  have h59 := Imp_m h42.2.2.2.2.2.2.2.1 (by omega)
  have h60 := Imp_m h42.2.2.2.2.2.2.2.2.1 (by omega)
  refine En_Ps 3 (pc' := 18) (lv' := [(2, .int z45), (0, .ref 3), (1, .ref a)]) (st' := [.int z45, .ref 3]) rfl ?_
  refine En_callV rfl rfl rfl rfl rfl rfl rfl rfl tgz_3 (by decide +kernel) rfl (c_74x σ39 h40 z45 (geI rfl (by omega)) (leI rfl (by omega)) z43 h44 h51 (fun zz => by (try have i0 := Imp_m h54 (by omega)); (try have i1 := Imp_m h53 (by omega)); (try have i2 := Imp_m h42.2.2.2.2.2.1 (by omega)); (try have i3 := Imp_m h42.2.2.2.2.2.2.1 (by omega)); omega)) (by decide) (by decide) (fun v62 σ63 h61 => ?_)
  obtain ⟨h64, h65, z67, h68, z69, rfl, h66⟩ := h61
  have h70 := h66.2.2.2.2.2.2.2
  have h71 := Fr_trans h47 h65 (by decide +kernel)
  have h72 : tP By Nb z45.toInt S49 = tP By Nb (tV By Nb S16.2.2.1) S49 := tP_cg2 (fun zz => by (try have i0 := Imp_m h54 (by omega)); (try have i1 := Imp_m h53 (by omega)); (try have i2 := Imp_m h42.2.2.2.2.2.1 (by omega)); (try have i3 := Imp_m h42.2.2.2.2.2.2.1 (by omega)); omega)
  obtain ⟨S73, h74⟩ : ∃ q : PS, q = tP By Nb (tV By Nb S16.2.2.1) S49 := ⟨_, rfl⟩
  have h75 : CT By Nb σ63 S73 := by rw [h74]; exact (CT_eq h70.1 h72)
  have h76 := CT_k h75 h68
  have h77 : Imp (S73.1 = 0) (z69.toInt = tV By Nb S49.2.2.1) := fun z => Imp_m h70.2 (by rw [h72, ← h74]; exact z)
  have h78 : Imp (S73.1 = 0) (S49.1 = 0) := fun z => tP_g (by rw [← h74]; exact z)
  have h79 : S73.2.2.2 = S49.2.2.2 := by rw [h74]; exact tP_w
  have h80 := KN_fr hP h56 h65 (by decide +kernel)
  have h81 : S73.2.2.2 = Sp.2.2.2 := h79.trans h57
  have o82 : OUT σ0 σ63 a := OUT_fr o58 h65 (by decide +kernel)
  refine En_Ps 2 (pc' := 23) (lv' := [(3, .int z69), (2, .int z45), (0, .ref 3), (1, .ref a)]) (st' := [.ref 3]) rfl ?_
  refine En_getK (j := 5) h68 rfl rfl rfl tgz_3 (by decide +kernel) ?_
  refine En_iNe _ rfl rfl (fun h83 => ?_) (fun h83 => ?_)
  · have h84 : fOwner By Nb Sp = S73 := by unfold fOwner fRule; (try dsimp only); first | (rw [← h17, ← h50, ← h74]; first | done | rfl) | (rw [← h17, ← h50, ← h74]; rw [if_pos (by omega)]; first | done | rfl) | (rw [← h17, ← h50, ← h74]; rw [if_neg (by omega)]; first | done | rfl) | (rw [← h17, ← h50, ← h74]; rw [if_neg (by omega), if_pos (by omega)]; first | done | rfl) | (rw [← h17, ← h50, ← h74]; rw [if_neg (by omega), if_neg (by omega)]; first | done | rfl) | (rw [← h17, ← h50, ← h74]; rw [if_neg (by omega), if_neg (by omega), if_neg (by omega)]; first | done | rfl)
    exact En_ret (v := none) rfl rfl rfl ⟨h64, h71, z67, h68, rfl, ⟨o82, by omega, by omega, by omega, by omega, (by rw [h84]; exact ⟨h75, fun z => absurd z (by omega)⟩)⟩⟩
  · have h85 := Imp_m h42.2.2.2.2.2.1 (by omega)
    have h86 := Imp_m h66.2.2.2.2.2.2.1 (by omega)
    try have h87 := Imp_m h78 (by omega)
    try have h88 := Imp_m h77 (by omega)
    try have h89 := Imp_m h54 (by omega)
    try have h90 := Imp_m h53 (by omega)
    refine En_Ps 2 (pc' := 31) (lv' := [(3, .int z69), (2, .int z45), (0, .ref 3), (1, .ref a)]) (st' := [.int z45, .ref a]) rfl ?_
    refine En_put (j := 6) rfl rfl rfl ha (by decide +kernel) rfl (vI (l := 0) (u := 15) (by decide +kernel) rfl (by omega) (by omega)) h64 h71 (by decide +kernel) (fun σ91 h92 h93 h94 h95 => ?_)
    obtain ⟨S96, h97⟩ : ∃ q : PS, q = wst S73 (8) ((tV By Nb S16.2.2.1)) := ⟨_, rfl⟩
    have h98 : CT By Nb σ91 S96 := by rw [h97]; exact CT_wst (CT_ne h75 h95 (by have := hP; unfold PLA at this; omega))
    have h99 : KN σ91 a (uPd Sp.2.2.2 (8) ((tV By Nb S16.2.2.1))) (fun t => (act Sp.2.2.2 t ∨ t = 8)) := KN_st h80 h94 h95 (by omega) (by omega) (by rw [lcO_lt (by decide) (by decide), Nat.add_zero]) (by decide) (by (try have i0 := Imp_m h78 (by omega)); (try have i1 := Imp_m h77 (by omega)); (try have i2 := Imp_m h54 (by omega)); (try have i3 := Imp_m h53 (by omega)); (try have i4 := Imp_m h42.2.2.2.2.2.2.1 (by omega)); omega)
    have h100 : S96.2.2.2 = (uPd Sp.2.2.2 (8) ((tV By Nb S16.2.2.1))) := by rw [h97]; show uPd S73.2.2.2 _ _ = _; rw [h81]
    have h101 : S96.1 = S73.1 := by rw [h97]; rfl
    have h102 := CT_k h98 ((h95 _ _ (Or.inr (by decide))).trans h68)
    have o103 : OUT σ0 σ91 a := OUT_st o82 h95 (by omega)
    refine En_Ps 2 (pc' := 36) (lv' := [(3, .int z69), (2, .int z45), (0, .ref 3), (1, .ref a)]) (st' := [.int z69, .ref a]) rfl ?_
    refine En_put (j := 7) rfl rfl rfl ha (by decide +kernel) rfl (vI (l := 0) (u := 15) (by decide +kernel) rfl (by omega) (by omega)) h92 h93 (by decide +kernel) (fun σ104 h105 h106 h107 h108 => ?_)
    obtain ⟨S109, h110⟩ : ∃ q : PS, q = wst S96 (8 + 1) ((tV By Nb S49.2.2.1)) := ⟨_, rfl⟩
    have h111 : CT By Nb σ104 S109 := by rw [h110]; exact CT_wst (CT_ne h98 h108 (by have := hP; unfold PLA at this; omega))
    have h112 : KN σ104 a (uPd (uPd Sp.2.2.2 (8) ((tV By Nb S16.2.2.1))) (8 + 1) ((tV By Nb S49.2.2.1))) (fun t => ((act Sp.2.2.2 t ∨ t = 8) ∨ t = 8 + 1)) := KN_st h99 h107 h108 (by omega) (by omega) (by rw [lcO_lt (by decide) (by decide), Nat.add_zero]) (by decide) (by (try have i0 := Imp_m h78 (by omega)); (try have i1 := Imp_m h77 (by omega)); (try have i2 := Imp_m h54 (by omega)); (try have i3 := Imp_m h53 (by omega)); (try have i4 := Imp_m h42.2.2.2.2.2.2.1 (by omega)); omega)
    have h113 : S109.2.2.2 = (uPd (uPd Sp.2.2.2 (8) ((tV By Nb S16.2.2.1))) (8 + 1) ((tV By Nb S49.2.2.1))) := by rw [h110]; show uPd S96.2.2.2 _ _ = _; rw [h100]
    have h114 : S109.1 = S96.1 := by rw [h110]; rfl
    have h115 := CT_k h111 ((h108 _ _ (Or.inr (by decide))).trans ((h95 _ _ (Or.inr (by decide))).trans h68))
    have o116 : OUT σ0 σ104 a := OUT_st o103 h108 (by omega)
    have h117 : fOwner By Nb Sp = S109 := by unfold fOwner fRule; (try dsimp only); first | (rw [← h17, ← h50, ← h74, ← h97, ← h110]; first | done | rfl) | (rw [← h17, ← h50, ← h74, ← h97, ← h110]; rw [if_pos (by omega)]; first | done | rfl) | (rw [← h17, ← h50, ← h74, ← h97, ← h110]; rw [if_neg (by omega)]; first | done | rfl) | (rw [← h17, ← h50, ← h74, ← h97, ← h110]; rw [if_neg (by omega), if_pos (by omega)]; first | done | rfl) | (rw [← h17, ← h50, ← h74, ← h97, ← h110]; rw [if_neg (by omega), if_neg (by omega)]; first | done | rfl) | (rw [← h17, ← h50, ← h74, ← h97, ← h110]; rw [if_neg (by omega), if_neg (by omega), if_neg (by omega)]; first | done | rfl)
    exact En_ret (v := none) rfl rfl rfl ⟨h105, h106, z67, ((h108 _ _ (Or.inr (by decide))).trans ((h95 _ _ (Or.inr (by decide))).trans h68)), rfl, ⟨o116, by omega, by omega, by omega, by omega, (by rw [h117]; exact ⟨h111, fun zz => by rw [h113]; exact KN_sub h112 (fun t t0 t1 y => Or.inl (Or.inl (act_low (by omega) (act_low (by omega) y))))⟩)⟩⟩
/-- DoorSchool$Reader.readHouse(LDoorSchool$Plan;)V -/
abbrev P_66x (σ0 : SG) (By : Int → Int) (Nb : Int) (Sp : PS) (a : Nat) (f : Int32) (sg : Int32) : PO := fun v σ => WT σ ∧ Fr [(3, 1), (3, 2), (3, 3), (3, 4), (3, 5), (3, 6), (18, 8), (23, 0), (24, 0)] σ0 σ ∧ ∃ f1 : Int32, (σ 3)[5]? = some (.int f1) ∧ v = none ∧ OUT σ0 σ a ∧ -f1.toInt ≤ 0 ∧ f1.toInt - 3 ≤ 0 ∧ -f1.toInt + f.toInt ≤ 0 ∧ f.toInt - f1.toInt ≤ 0 ∧ (CT By Nb σ (fHouse By Nb Sp) ∧ ((fHouse By Nb Sp).1 = 0 → KN σ a (fHouse By Nb Sp).2.2.2 (act (fHouse By Nb Sp).2.2.2)))
set_option maxRecDepth 10000 in
set_option maxHeartbeats 4000000 in
theorem c_66x {By : Int → Int} {Nb : Int} {Sp : PS} (σ0 : SG) (hσ0 : WT σ0) (a : Nat) (ha : TG a = 18) (f : Int32) (h_f : (σ0 3)[5]? = some (.int f)) (sg : Int32) (h_sg : (σ0 a)[1]? = some (.int sg)) (hp0 : -sg.toInt ≤ 0) (hC : CT By Nb σ0 Sp) (hg : Sp.1 = 0) (hP : PLA a) (hX : FXP σ0 a) (hK : KN σ0 a Sp.2.2.2 (act Sp.2.2.2)) : En 3 66 none mr_66 (P_66x σ0 By Nb Sp a f sg) 0 [(0, .ref 3), (1, .ref a)] [] σ0 := by
  obtain ⟨hl_f, hu_f⟩ := WT_int hσ0 (g := 3) (by decide +kernel) (by decide +kernel) (l := 0) (u := 3) (by decide +kernel) h_f
  obtain ⟨hl_sg, hu_sg⟩ := WT_int hσ0 (g := 18) ha (by decide +kernel) (l := (-1)) (u := 4) (by decide +kernel) h_sg
  have hF0 : Fr [(3, 1), (3, 2), (3, 3), (3, 4), (3, 5), (3, 6), (18, 8), (23, 0), (24, 0)] σ0 σ0 := Fr_rfl
  have h1 := CT_k hC h_f
  have h2 : Sp.2.2.2 0 = sg.toInt := KN_v hK (Or.inl (by decide)) (by decide) (by decide) (by rw [lcO_lt (by decide) (by decide), Nat.add_zero]) rfl h_sg
  have h3 : pI (Sp.2.2.2 0) = pI (sg.toInt) := by rw [h2]
  obtain ⟨z5, h4, h6, h7⟩ := WT_peekI hσ0 ha (by decide +kernel : FT 18 8 = (0, 0, 4)) (by decide +kernel)
  have h8 : Sp.2.2.2 4 = z5.toInt := KN_v hK (Or.inl (by decide)) (by decide) (by decide) (by rw [lcO_lt (by decide) (by decide), Nat.add_zero]) rfl h4
  refine En_Ps 1 (pc' := 1) (lv' := [(0, .ref 3), (1, .ref a)]) (st' := [.ref a]) rfl ?_
  refine En_getK (j := 8) h4 rfl rfl rfl ha (by decide +kernel) ?_
  refine En_Ps 1 (pc' := 5) (lv' := [(0, .ref 3), (1, .ref a)]) (st' := [.int ((Int32.ofInt 4)), .int z5]) rfl ?_
  refine En_icLt _ rfl (by decide : (Int32.ofInt 4).toInt = 4) rfl (fun h9 => ?_) (fun h9 => ?_)
  · refine En_Ps 1 (pc' := 15) (lv' := [(0, .ref 3), (1, .ref a)]) (st' := [.ref 3]) rfl ?_
    obtain ⟨z11, h10, h12, h13⟩ := WT_peekI hσ0 tgz_3 (by decide +kernel : FT 3 3 = (0, 0, 1600)) (by decide +kernel)
    refine En_callV rfl rfl rfl rfl rfl rfl rfl rfl tgz_3 (by decide +kernel) rfl (c_72x σ0 hσ0 z11 h10 hC.1 (CT_at hC (by omega) h10)) (by decide) (by decide) (fun v15 σ16 h14 => ?_)
    obtain ⟨h17, h18, rfl, h19⟩ := h14
    have h20 := h19
    have h21 := Fr_trans hF0 h18 (by decide +kernel)
    obtain ⟨S22, h23⟩ : ∃ q : PS, q = adv By Nb Sp := ⟨_, rfl⟩
    have h24 : CT By Nb σ16 S22 := by rw [h23]; exact (CT_adv hC (by omega) h10 h18 (by decide +kernel) h20.2)
    have h25 := CT_k h24 ((h18 _ _ (inW tgz_3 (by decide +kernel))).trans h_f)
    have h26 : S22.2.2.2 = Sp.2.2.2 := by rw [h23]; exact adv_w
    have h27 : S22.1 = Sp.1 := by rw [h23]; exact adv_1
    have h28 := KN_fr hP hK h18 (by decide +kernel)
    have h29 : S22.2.2.2 = Sp.2.2.2 := h26.trans (rfl : Sp.2.2.2 = Sp.2.2.2)
    have o30 : OUT σ0 σ16 a := OUT_fr OUT_0 h18 (by decide +kernel)
    refine En_Ps 3 (pc' := 21) (lv' := [(0, .ref 3), (1, .ref a)]) (st' := [.ref a, .int ((Int32.ofInt 0)), .ref 3]) rfl ?_
    refine En_callV rfl rfl rfl rfl rfl rfl rfl rfl ha (by decide +kernel) rfl (c_51x σ16 h17 a ha sg ((h18 _ _ (inW ha (by decide +kernel))).trans h_sg) (by omega)) (by decide) (by decide) (fun v32 σ33 h31 => ?_)
    obtain ⟨h34, h35, z37, rfl, h36⟩ := h31
    have h38 := h36.2.2
    obtain rfl : σ16 = σ33 := Fr_nil h35
    have h39 := h38
    have h40 : pI (S22.2.2.2 0) = z37.toInt := by rw [h29]; omega
    refine En_Ps 2 (pc' := 26) (lv' := [(0, .ref 3), (1, .ref a)]) (st' := [.int ((z37 - ((Int32.ofInt 1)))), .int ((Int32.ofInt 0)), .ref 3]) rfl ?_
    refine En_top (subI rfl (by decide : (Int32.ofInt 1).toInt = 1) (by omega) (by omega)) (fun z41 h42 => ?_)
    have := (by decide : ((Int32.ofInt 0)).toInt = 0)
    refine En_callV rfl rfl rfl rfl rfl rfl rfl rfl tgz_3 (by decide +kernel) rfl (c_73x σ16 h17 ((Int32.ofInt 0)) z41 f ((h18 _ _ (inW tgz_3 (by decide +kernel))).trans h_f) h24) (by decide) (by decide) (fun v44 σ45 h43 => ?_)
    obtain ⟨h46, h47, z49, h50, z51, rfl, h48⟩ := h43
    have h52 := h48.2.2.2.2.2.2.2.2.2
    have h53 := Fr_trans h21 h47 (by decide +kernel)
    have h54 : tN By Nb ((Int32.ofInt 0)).toInt z41.toInt S22 = tN By Nb (0) (pI (S22.2.2.2 0) - 1) S22 := tN_cg2 (fun zz => by omega) (fun zz => by omega)
    obtain ⟨S55, h56⟩ : ∃ q : PS, q = tN By Nb (0) (pI (S22.2.2.2 0) - 1) S22 := ⟨_, rfl⟩
    have h57 : CT By Nb σ45 S55 := by rw [h56]; exact (CT_eq h52.1 h54)
    have h58 := CT_k h57 h50
    have h59 : Imp (S55.1 = 0) (z51.toInt = tV By Nb S22.2.2.1) := fun z => Imp_m h52.2 (by rw [h54, ← h56]; exact z)
    have h60 : Imp (S55.1 = 0) (S22.1 = 0 ∧ tK By Nb S22.2.2.1 = 2 ∧ 0 ≤ tV By Nb S22.2.2.1 ∧ tV By Nb S22.2.2.1 ≤ pI (S22.2.2.2 0) - 1) := fun z => tN_gg (by rw [← h56]; exact z)
    have h61 : S55.2.2.2 = S22.2.2.2 := by rw [h56]; exact tN_w
    have h62 := KN_fr hP h28 h47 (by decide +kernel)
    have h63 : S55.2.2.2 = Sp.2.2.2 := h61.trans h29
    have o64 : OUT σ0 σ45 a := OUT_fr o30 h47 (by decide +kernel)
    have h65 := Imp_m h48.2.2.2.2.2.2.2.1 (by omega)
    have h66 := Imp_m h48.2.2.2.2.2.2.2.2.1 (by omega)
    refine En_Ps 3 (pc' := 32) (lv' := [(2, .int z51), (0, .ref 3), (1, .ref a)]) (st' := [.int z51, .ref 3]) rfl ?_
    refine En_callV rfl rfl rfl rfl rfl rfl rfl rfl tgz_3 (by decide +kernel) rfl (c_74x σ45 h46 z51 (geI rfl (by omega)) (leI rfl (by omega)) z49 h50 h57 (fun zz => by (try have i0 := Imp_m h60 (by omega)); (try have i1 := Imp_m h59 (by omega)); (try have i2 := Imp_m h48.2.2.2.2.2.1 (by omega)); (try have i3 := Imp_m h48.2.2.2.2.2.2.1 (by omega)); omega)) (by decide) (by decide) (fun v68 σ69 h67 => ?_)
    obtain ⟨h70, h71, z73, h74, z75, rfl, h72⟩ := h67
    have h76 := h72.2.2.2.2.2.2.2
    have h77 := Fr_trans h53 h71 (by decide +kernel)
    have h78 : tP By Nb z51.toInt S55 = tP By Nb (tV By Nb S22.2.2.1) S55 := tP_cg2 (fun zz => by (try have i0 := Imp_m h60 (by omega)); (try have i1 := Imp_m h59 (by omega)); (try have i2 := Imp_m h48.2.2.2.2.2.1 (by omega)); (try have i3 := Imp_m h48.2.2.2.2.2.2.1 (by omega)); omega)
    obtain ⟨S79, h80⟩ : ∃ q : PS, q = tP By Nb (tV By Nb S22.2.2.1) S55 := ⟨_, rfl⟩
    have h81 : CT By Nb σ69 S79 := by rw [h80]; exact (CT_eq h76.1 h78)
    have h82 := CT_k h81 h74
    have h83 : Imp (S79.1 = 0) (z75.toInt = tV By Nb S55.2.2.1) := fun z => Imp_m h76.2 (by rw [h78, ← h80]; exact z)
    have h84 : Imp (S79.1 = 0) (S55.1 = 0) := fun z => tP_g (by rw [← h80]; exact z)
    have h85 : S79.2.2.2 = S55.2.2.2 := by rw [h80]; exact tP_w
    have h86 := KN_fr hP h62 h71 (by decide +kernel)
    have h87 : S79.2.2.2 = Sp.2.2.2 := h85.trans h63
    have o88 : OUT σ0 σ69 a := OUT_fr o64 h71 (by decide +kernel)
    refine En_Ps 2 (pc' := 37) (lv' := [(3, .int z75), (2, .int z51), (0, .ref 3), (1, .ref a)]) (st' := [.ref 3]) rfl ?_
    refine En_getK (j := 5) h74 rfl rfl rfl tgz_3 (by decide +kernel) ?_
    refine En_iNe _ rfl rfl (fun h89 => ?_) (fun h89 => ?_)
    · have h90 : fRule By Nb (146 + 2 * Sp.2.2.2 4) S22 = S79 := by unfold fRule; (try dsimp only); rw [← h56, ← h80]; first | (rw [if_pos (by omega)]; first | done | rfl) | (rw [if_neg (by omega)]; first | done | rfl)
      have h91 : fHouse By Nb Sp = S79 := by unfold fHouse; (try dsimp only); first | (rw [← h23, h90]; first | done | rfl) | (rw [← h23, h90]; rw [if_pos (by omega)]; first | done | rfl) | (rw [← h23, h90]; rw [if_neg (by omega)]; first | done | rfl) | (rw [← h23, h90]; rw [if_neg (by omega), if_pos (by omega)]; first | done | rfl) | (rw [← h23, h90]; rw [if_neg (by omega), if_neg (by omega)]; first | done | rfl) | (rw [← h23, h90]; rw [if_neg (by omega), if_neg (by omega), if_neg (by omega)]; first | done | rfl)
      exact En_ret (v := none) rfl rfl rfl ⟨h70, h77, z73, h74, rfl, ⟨o88, by omega, by omega, by omega, by omega, (by rw [h91]; exact ⟨h81, fun z => absurd z (by omega)⟩)⟩⟩
    · have h92 := Imp_m h48.2.2.2.2.2.1 (by omega)
      have h93 := Imp_m h72.2.2.2.2.2.2.1 (by omega)
      try have h94 := Imp_m h84 (by omega)
      try have h95 := Imp_m h83 (by omega)
      try have h96 := Imp_m h60 (by omega)
      try have h97 := Imp_m h59 (by omega)
      refine En_Ps 1 (pc' := 44) (lv' := [(3, .int z75), (2, .int z51), (0, .ref 3), (1, .ref a)]) (st' := [.ref a]) rfl ?_
      refine En_getR (j := 9) (g' := 23) (u := 0) rfl rfl rfl ha (by decide +kernel) h70 (by decide +kernel) (fun a99 h98 ha99 => ?_)
      refine En_Ps 1 (pc' := 48) (lv' := [(3, .int z75), (2, .int z51), (0, .ref 3), (1, .ref a)]) (st' := [.ref a, .ref a99]) rfl ?_
      refine En_getK (j := 8) ((h71 _ _ (inW ha (by decide +kernel))).trans ((h47 _ _ (inW ha (by decide +kernel))).trans ((h18 _ _ (inW ha (by decide +kernel))).trans h4))) rfl rfl rfl ha (by decide +kernel) ?_
      refine En_Ps 1 (pc' := 52) (lv' := [(3, .int z75), (2, .int z51), (0, .ref 3), (1, .ref a)]) (st' := [.int z51, .int z5, .ref a99]) rfl ?_
      refine En_iast (l := 0) (u := 15) rfl rfl ha99 (by decide +kernel) (by omega) (lnI (by decide +kernel : LN _ = 4) (by omega)) (FTsgl (by decide +kernel)) (rngI rfl (by omega) (by omega)) h70 h77 (by decide +kernel) (fun σ100 h101 h102 h103 h104 => ?_)
      have h105 : a99 = a + 5 := ref_uniq ((h104 _ _ (Or.inl (neTG ha ha99 (by decide)))).trans h98) (FXP_fr hP hX h102 (by decide +kernel)).2.2.1
      have h106 := lc_h (m := Sp.2.2.2 4) (by omega) (by omega)
      obtain ⟨S107, h108⟩ : ∃ q : PS, q = wst S79 (146 + 2 * Sp.2.2.2 4) ((tV By Nb S22.2.2.1)) := ⟨_, rfl⟩
      have h109 : CT By Nb σ100 S107 := by rw [h108]; exact CT_wst (CT_ne h81 h104 (by have := hP; unfold PLA at this; omega))
      have h110 : KN σ100 a (uPd Sp.2.2.2 (146 + 2 * Sp.2.2.2 4) ((tV By Nb S22.2.2.1))) (fun t => (act Sp.2.2.2 t ∨ t = 146 + 2 * Sp.2.2.2 4)) := KN_st h86 h103 h104 (by omega) (by omega) (by omega) (by omega) (by (try have i0 := Imp_m h84 (by omega)); (try have i1 := Imp_m h83 (by omega)); (try have i2 := Imp_m h60 (by omega)); (try have i3 := Imp_m h59 (by omega)); (try have i4 := Imp_m h48.2.2.2.2.2.2.1 (by omega)); omega)
      have h111 : S107.2.2.2 = (uPd Sp.2.2.2 (146 + 2 * Sp.2.2.2 4) ((tV By Nb S22.2.2.1))) := by rw [h108]; show uPd S79.2.2.2 _ _ = _; rw [h87]
      have h112 : S107.1 = S79.1 := by rw [h108]; rfl
      have h113 := CT_k h109 ((h104 _ _ (Or.inl (neTG tgz_3 ha99 (by decide)))).trans h74)
      have o114 : OUT σ0 σ100 a := OUT_st o88 h104 (by omega)
      refine En_Ps 1 (pc' := 54) (lv' := [(3, .int z75), (2, .int z51), (0, .ref 3), (1, .ref a)]) (st' := [.ref a]) rfl ?_
      refine En_getR (j := 10) (g' := 24) (u := 0) rfl rfl rfl ha (by decide +kernel) h101 (by decide +kernel) (fun a116 h115 ha116 => ?_)
      refine En_Ps 1 (pc' := 58) (lv' := [(3, .int z75), (2, .int z51), (0, .ref 3), (1, .ref a)]) (st' := [.ref a, .ref a116]) rfl ?_
      refine En_getK (j := 8) ((h104 _ _ (Or.inl (neTG ha ha99 (by decide)))).trans ((h71 _ _ (inW ha (by decide +kernel))).trans ((h47 _ _ (inW ha (by decide +kernel))).trans ((h18 _ _ (inW ha (by decide +kernel))).trans h4)))) rfl rfl rfl ha (by decide +kernel) ?_
      refine En_Ps 1 (pc' := 62) (lv' := [(3, .int z75), (2, .int z51), (0, .ref 3), (1, .ref a)]) (st' := [.int z75, .int z5, .ref a116]) rfl ?_
      refine En_iast (l := 0) (u := 15) rfl rfl ha116 (by decide +kernel) (by omega) (lnI (by decide +kernel : LN _ = 4) (by omega)) (FTsgl (by decide +kernel)) (rngI rfl (by omega) (by omega)) h101 h102 (by decide +kernel) (fun σ117 h118 h119 h120 h121 => ?_)
      have h122 : a116 = a + 6 := ref_uniq ((h121 _ _ (Or.inl (neTG ha ha116 (by decide)))).trans h115) (FXP_fr hP hX h119 (by decide +kernel)).2.2.2.1
      have h123 := lc_h (m := Sp.2.2.2 4) (by omega) (by omega)
      obtain ⟨S124, h125⟩ : ∃ q : PS, q = wst S107 (146 + 2 * Sp.2.2.2 4 + 1) ((tV By Nb S55.2.2.1)) := ⟨_, rfl⟩
      have h126 : CT By Nb σ117 S124 := by rw [h125]; exact CT_wst (CT_ne h109 h121 (by have := hP; unfold PLA at this; omega))
      have h127 : KN σ117 a (uPd (uPd Sp.2.2.2 (146 + 2 * Sp.2.2.2 4) ((tV By Nb S22.2.2.1))) (146 + 2 * Sp.2.2.2 4 + 1) ((tV By Nb S55.2.2.1))) (fun t => ((act Sp.2.2.2 t ∨ t = 146 + 2 * Sp.2.2.2 4) ∨ t = 146 + 2 * Sp.2.2.2 4 + 1)) := KN_st h110 h120 h121 (by omega) (by omega) (by omega) (by omega) (by (try have i0 := Imp_m h84 (by omega)); (try have i1 := Imp_m h83 (by omega)); (try have i2 := Imp_m h60 (by omega)); (try have i3 := Imp_m h59 (by omega)); (try have i4 := Imp_m h48.2.2.2.2.2.2.1 (by omega)); omega)
      have h128 : S124.2.2.2 = (uPd (uPd Sp.2.2.2 (146 + 2 * Sp.2.2.2 4) ((tV By Nb S22.2.2.1))) (146 + 2 * Sp.2.2.2 4 + 1) ((tV By Nb S55.2.2.1))) := by rw [h125]; show uPd S107.2.2.2 _ _ = _; rw [h111]
      have h129 : S124.1 = S107.1 := by rw [h125]; rfl
      have h130 := CT_k h126 ((h121 _ _ (Or.inl (neTG tgz_3 ha116 (by decide)))).trans ((h104 _ _ (Or.inl (neTG tgz_3 ha99 (by decide)))).trans h74))
      have o131 : OUT σ0 σ117 a := OUT_st o114 h121 (by omega)
      have h132 : fRule By Nb (146 + 2 * Sp.2.2.2 4) S22 = S124 := by unfold fRule; (try dsimp only); rw [← h56, ← h80, ← h108, ← h125]; first | (rw [if_pos (by omega)]; first | done | rfl) | (rw [if_neg (by omega)]; first | done | rfl)
      refine En_Ps 2 (pc' := 65) (lv' := [(3, .int z75), (2, .int z51), (0, .ref 3), (1, .ref a)]) (st' := [.ref a, .ref a]) rfl ?_
      refine En_getK (j := 8) ((h121 _ _ (Or.inl (neTG ha ha116 (by decide)))).trans ((h104 _ _ (Or.inl (neTG ha ha99 (by decide)))).trans ((h71 _ _ (inW ha (by decide +kernel))).trans ((h47 _ _ (inW ha (by decide +kernel))).trans ((h18 _ _ (inW ha (by decide +kernel))).trans h4))))) rfl rfl rfl ha (by decide +kernel) ?_
      refine En_Ps 2 (pc' := 70) (lv' := [(3, .int z75), (2, .int z51), (0, .ref 3), (1, .ref a)]) (st' := [.int ((z5 + ((Int32.ofInt 1)))), .ref a]) rfl ?_
      refine En_top (addI rfl (by decide : (Int32.ofInt 1).toInt = 1) (by omega) (by omega)) (fun z133 h134 => ?_)
      refine En_put (j := 8) rfl rfl rfl ha (by decide +kernel) rfl (vI (l := 0) (u := 4) (by decide +kernel) rfl (by omega) (by omega)) h118 h119 (by decide +kernel) (fun σ135 h136 h137 h138 h139 => ?_)
      obtain ⟨S140, h141⟩ : ∃ q : PS, q = wst S124 (4) (Sp.2.2.2 4 + 1) := ⟨_, rfl⟩
      have h142 : CT By Nb σ135 S140 := by rw [h141]; exact CT_wst (CT_ne h126 h139 (by have := hP; unfold PLA at this; omega))
      have h143 : KN σ135 a (uPd (uPd (uPd Sp.2.2.2 (146 + 2 * Sp.2.2.2 4) ((tV By Nb S22.2.2.1))) (146 + 2 * Sp.2.2.2 4 + 1) ((tV By Nb S55.2.2.1))) (4) (Sp.2.2.2 4 + 1)) (fun t => (((act Sp.2.2.2 t ∨ t = 146 + 2 * Sp.2.2.2 4) ∨ t = 146 + 2 * Sp.2.2.2 4 + 1) ∨ t = 4)) := KN_st h127 h138 h139 (by omega) (by omega) (by rw [lcO_lt (by decide) (by decide), Nat.add_zero]) (by decide) (by (try have i0 := Imp_m h84 (by omega)); (try have i1 := Imp_m h83 (by omega)); (try have i2 := Imp_m h60 (by omega)); (try have i3 := Imp_m h59 (by omega)); (try have i4 := Imp_m h48.2.2.2.2.2.2.1 (by omega)); omega)
      have h144 : S140.2.2.2 = (uPd (uPd (uPd Sp.2.2.2 (146 + 2 * Sp.2.2.2 4) ((tV By Nb S22.2.2.1))) (146 + 2 * Sp.2.2.2 4 + 1) ((tV By Nb S55.2.2.1))) (4) (Sp.2.2.2 4 + 1)) := by rw [h141]; show uPd S124.2.2.2 _ _ = _; rw [h128]
      have h145 : S140.1 = S124.1 := by rw [h141]; rfl
      have h146 := CT_k h142 ((h139 _ _ (Or.inr (by decide))).trans ((h121 _ _ (Or.inl (neTG tgz_3 ha116 (by decide)))).trans ((h104 _ _ (Or.inl (neTG tgz_3 ha99 (by decide)))).trans h74)))
      have o147 : OUT σ0 σ135 a := OUT_st o131 h139 (by omega)
      have h148 : fHouse By Nb Sp = S140 := by unfold fHouse; (try dsimp only); first | (rw [← h23, h132, ← h141]; first | done | rfl) | (rw [← h23, h132, ← h141]; rw [if_pos (by omega)]; first | done | rfl) | (rw [← h23, h132, ← h141]; rw [if_neg (by omega)]; first | done | rfl) | (rw [← h23, h132, ← h141]; rw [if_neg (by omega), if_pos (by omega)]; first | done | rfl) | (rw [← h23, h132, ← h141]; rw [if_neg (by omega), if_neg (by omega)]; first | done | rfl) | (rw [← h23, h132, ← h141]; rw [if_neg (by omega), if_neg (by omega), if_neg (by omega)]; first | done | rfl)
      exact En_ret (v := none) rfl rfl rfl ⟨h136, h137, z73, ((h139 _ _ (Or.inr (by decide))).trans ((h121 _ _ (Or.inl (neTG tgz_3 ha116 (by decide)))).trans ((h104 _ _ (Or.inl (neTG tgz_3 ha99 (by decide)))).trans h74))), rfl, ⟨o147, by omega, by omega, by omega, by omega, (by rw [h148]; exact ⟨h142, fun zz => by rw [h144]; exact KN_sub h143 (fun t t0 t1 y => AHs (by omega) y)⟩)⟩⟩
  · refine En_Ps 2 (pc' := 10) (lv' := [(0, .ref 3), (1, .ref a)]) (st' := [.int ((Int32.ofInt 3)), .ref 3]) rfl ?_
    have := (by decide : ((Int32.ofInt 3)).toInt = 3)
    refine En_callV rfl rfl rfl rfl rfl rfl rfl rfl tgz_3 (by decide +kernel) rfl (c_54x σ0 hσ0 ((Int32.ofInt 3)) (geI (by decide : (Int32.ofInt 3).toInt = 3) (by omega)) (leI (by decide : (Int32.ofInt 3).toInt = 3) (by omega)) f h_f hC) (by decide) (by decide) (fun v150 σ151 h149 => ?_)
    obtain ⟨h152, h153, z155, h156, rfl, h154⟩ := h149
    have h157 := h154.2.2.2.2.2
    have h158 := Fr_trans hF0 h153 (by decide +kernel)
    obtain ⟨S159, h160⟩ : ∃ q : PS, q = err By Nb 3 Sp := ⟨_, rfl⟩
    have h161 : CT By Nb σ151 S159 := by rw [h160]; exact (CT_eq h157 (err_cg (by omega)))
    have h162 := CT_k h161 h156
    have h163 : S159.2.2.2 = Sp.2.2.2 := by rw [h160]; exact err_w
    have h164 := KN_fr hP hK h153 (by decide +kernel)
    have h165 : S159.2.2.2 = Sp.2.2.2 := h163.trans (rfl : Sp.2.2.2 = Sp.2.2.2)
    have o166 : OUT σ0 σ151 a := OUT_fr OUT_0 h153 (by decide +kernel)
    have h167 : fHouse By Nb Sp = S159 := by unfold fHouse; (try dsimp only); first | (rw [← h160]; first | done | rfl) | (rw [← h160]; rw [if_pos (by omega)]; first | done | rfl) | (rw [← h160]; rw [if_neg (by omega)]; first | done | rfl) | (rw [← h160]; rw [if_neg (by omega), if_pos (by omega)]; first | done | rfl) | (rw [← h160]; rw [if_neg (by omega), if_neg (by omega)]; first | done | rfl) | (rw [← h160]; rw [if_neg (by omega), if_neg (by omega), if_neg (by omega)]; first | done | rfl)
    exact En_ret (v := none) rfl rfl rfl ⟨h152, h158, z155, h156, rfl, ⟨o166, by omega, by omega, by omega, by omega, (by rw [h167]; exact ⟨h161, fun z => absurd z (by omega)⟩)⟩⟩
/-- DoorSchool$Reader.readCourse(LDoorSchool$Plan;)V -/
abbrev P_62x (σ0 : SG) (By : Int → Int) (Nb : Int) (Sp : PS) (a : Nat) (f : Int32) (sg : Int32) : PO := fun v σ => WT σ ∧ Fr [(3, 1), (3, 2), (3, 3), (3, 4), (3, 5), (3, 6), (18, 11), (25, 0)] σ0 σ ∧ ∃ f1 : Int32, (σ 3)[5]? = some (.int f1) ∧ v = none ∧ OUT σ0 σ a ∧ -f1.toInt ≤ 0 ∧ f1.toInt - 3 ≤ 0 ∧ -f1.toInt + f.toInt ≤ 0 ∧ f.toInt - f1.toInt ≤ 0 ∧ (CT By Nb σ (fCourse By Nb Sp) ∧ ((fCourse By Nb Sp).1 = 0 → KN σ a (fCourse By Nb Sp).2.2.2 (act (fCourse By Nb Sp).2.2.2)))
set_option maxRecDepth 10000 in
set_option maxHeartbeats 4000000 in
theorem c_62x {By : Int → Int} {Nb : Int} {Sp : PS} (σ0 : SG) (hσ0 : WT σ0) (a : Nat) (ha : TG a = 18) (f : Int32) (h_f : (σ0 3)[5]? = some (.int f)) (sg : Int32) (h_sg : (σ0 a)[1]? = some (.int sg)) (hp0 : -sg.toInt ≤ 0) (hC : CT By Nb σ0 Sp) (hg : Sp.1 = 0) (hP : PLA a) (hX : FXP σ0 a) (hK : KN σ0 a Sp.2.2.2 (act Sp.2.2.2)) : En 5 112 none mr_62 (P_62x σ0 By Nb Sp a f sg) 0 [(0, .ref 3), (1, .ref a)] [] σ0 := by
  obtain ⟨hl_f, hu_f⟩ := WT_int hσ0 (g := 3) (by decide +kernel) (by decide +kernel) (l := 0) (u := 3) (by decide +kernel) h_f
  obtain ⟨hl_sg, hu_sg⟩ := WT_int hσ0 (g := 18) ha (by decide +kernel) (l := (-1)) (u := 4) (by decide +kernel) h_sg
  have hF0 : Fr [(3, 1), (3, 2), (3, 3), (3, 4), (3, 5), (3, 6), (18, 11), (25, 0)] σ0 σ0 := Fr_rfl
  have h1 := CT_k hC h_f
  obtain ⟨z3, h2, h4, h5⟩ := WT_peekI hσ0 ha (by decide +kernel : FT 18 11 = (0, 0, 6)) (by decide +kernel)
  have h6 : Sp.2.2.2 5 = z3.toInt := KN_v hK (Or.inl (by decide)) (by decide) (by decide) (by rw [lcO_lt (by decide) (by decide), Nat.add_zero]) rfl h2
  refine En_Ps 1 (pc' := 1) (lv' := [(0, .ref 3), (1, .ref a)]) (st' := [.ref a]) rfl ?_
  refine En_getK (j := 11) h2 rfl rfl rfl ha (by decide +kernel) ?_
  refine En_Ps 1 (pc' := 6) (lv' := [(0, .ref 3), (1, .ref a)]) (st' := [.int (((Int8.ofInt 6).toInt32)), .int z3]) rfl ?_
  refine En_icLt _ rfl (by decide : ((Int8.ofInt 6).toInt32).toInt = 6) rfl (fun h7 => ?_) (fun h7 => ?_)
  · refine En_Ps 1 (pc' := 16) (lv' := [(0, .ref 3), (1, .ref a)]) (st' := [.ref 3]) rfl ?_
    obtain ⟨z9, h8, h10, h11⟩ := WT_peekI hσ0 tgz_3 (by decide +kernel : FT 3 3 = (0, 0, 1600)) (by decide +kernel)
    refine En_callV rfl rfl rfl rfl rfl rfl rfl rfl tgz_3 (by decide +kernel) rfl (c_72x σ0 hσ0 z9 h8 hC.1 (CT_at hC (by omega) h8)) (by decide) (by decide) (fun v13 σ14 h12 => ?_)
    obtain ⟨h15, h16, rfl, h17⟩ := h12
    have h18 := h17
    have h19 := Fr_trans hF0 h16 (by decide +kernel)
    obtain ⟨S20, h21⟩ : ∃ q : PS, q = adv By Nb Sp := ⟨_, rfl⟩
    have h22 : CT By Nb σ14 S20 := by rw [h21]; exact (CT_adv hC (by omega) h8 h16 (by decide +kernel) h18.2)
    have h23 := CT_k h22 ((h16 _ _ (inW tgz_3 (by decide +kernel))).trans h_f)
    have h24 : S20.2.2.2 = Sp.2.2.2 := by rw [h21]; exact adv_w
    have h25 : S20.1 = Sp.1 := by rw [h21]; exact adv_1
    have h26 := KN_fr hP hK h16 (by decide +kernel)
    have h27 : S20.2.2.2 = Sp.2.2.2 := h24.trans (rfl : Sp.2.2.2 = Sp.2.2.2)
    have o28 : OUT σ0 σ14 a := OUT_fr OUT_0 h16 (by decide +kernel)
    refine En_Ps 2 (pc' := 21) (lv' := [(0, .ref 3), (1, .ref a)]) (st' := [.ref 3, .ref 3]) rfl ?_
    refine En_ldcS (i := 15) rfl rfl rfl ?_
    refine En_callV rfl rfl rfl rfl rfl rfl rfl rfl tgz_3 (by decide +kernel) rfl (c_71s15x σ14 h15 h22) (by decide) (by decide) (fun v30 σ31 h29 => ?_)
    obtain ⟨h32, h33, z35, rfl, h34⟩ := h29
    have h36 := h34.2.2
    obtain rfl : σ14 = σ31 := Fr_nil h33
    have h37 := h36
    refine En_callV rfl rfl rfl rfl rfl rfl rfl rfl tgz_3 (by decide +kernel) rfl (c_59x σ14 h15 z35 (geI rfl (by omega)) (leI rfl (by omega)) f ((h16 _ _ (inW tgz_3 (by decide +kernel))).trans h_f) h22) (by decide) (by decide) (fun v39 σ40 h38 => ?_)
    obtain ⟨h41, h42, z44, h45, rfl, h43⟩ := h38
    have h46 := h43.2.2.2.2.2.2
    have h47 := Fr_trans h19 h42 (by decide +kernel)
    have h48 : pss By Nb z35.toInt S20 = pss By Nb (iW By Nb 15 S20) S20 := pss_cg2 (fun zz => by (try have i0 := Imp_m h37 (by omega)); omega)
    obtain ⟨S49, h50⟩ : ∃ q : PS, q = pss By Nb (iW By Nb 15 S20) S20 := ⟨_, rfl⟩
    have h51 : CT By Nb σ40 S49 := by rw [h50]; exact (CT_eq h46 h48)
    have h52 := CT_k h51 h45
    have h53 : S49.2.2.2 = S20.2.2.2 := by rw [h50]; exact pss_w
    have h54 : Imp (S49.1 = 0) (S20.1 = 0) := fun z => (pss_g (by rw [h48, ← h50]; exact z)).1
    have h55 : Imp (S49.1 = 0) (z35.toInt = 1) := fun z => (pss_g (by rw [h48, ← h50]; exact z)).2.1
    have h56 := KN_fr hP h26 h42 (by decide +kernel)
    have h57 : S49.2.2.2 = Sp.2.2.2 := h53.trans h27
    have o58 : OUT σ0 σ40 a := OUT_fr o28 h42 (by decide +kernel)
    refine En_Ps 3 (pc' := 33) (lv' := [(0, .ref 3), (1, .ref a)]) (st' := [.int (((Int8.ofInt 9).toInt32)), .int ((Int32.ofInt 1)), .ref 3]) rfl ?_
    have := (by decide : ((Int32.ofInt 1)).toInt = 1)
    have := (by decide : (((Int8.ofInt 9).toInt32)).toInt = 9)
    refine En_callV rfl rfl rfl rfl rfl rfl rfl rfl tgz_3 (by decide +kernel) rfl (c_73x σ40 h41 ((Int32.ofInt 1)) (((Int8.ofInt 9).toInt32)) z44 h45 h51) (by decide) (by decide) (fun v60 σ61 h59 => ?_)
    obtain ⟨h62, h63, z65, h66, z67, rfl, h64⟩ := h59
    have h68 := h64.2.2.2.2.2.2.2.2.2
    have h69 := Fr_trans h47 h63 (by decide +kernel)
    have h70 : tN By Nb ((Int32.ofInt 1)).toInt (((Int8.ofInt 9).toInt32)).toInt S49 = tN By Nb (1) (9) S49 := tN_cg2 (fun zz => by omega) (fun zz => by omega)
    obtain ⟨S71, h72⟩ : ∃ q : PS, q = tN By Nb (1) (9) S49 := ⟨_, rfl⟩
    have h73 : CT By Nb σ61 S71 := by rw [h72]; exact (CT_eq h68.1 h70)
    have h74 := CT_k h73 h66
    have h75 : Imp (S71.1 = 0) (z67.toInt = tV By Nb S49.2.2.1) := fun z => Imp_m h68.2 (by rw [h70, ← h72]; exact z)
    have h76 : Imp (S71.1 = 0) (S49.1 = 0 ∧ tK By Nb S49.2.2.1 = 2 ∧ 1 ≤ tV By Nb S49.2.2.1 ∧ tV By Nb S49.2.2.1 ≤ 9) := fun z => tN_gg (by rw [← h72]; exact z)
    have h77 : S71.2.2.2 = S49.2.2.2 := by rw [h72]; exact tN_w
    have h78 := KN_fr hP h56 h63 (by decide +kernel)
    have h79 : S71.2.2.2 = Sp.2.2.2 := h77.trans h57
    have o80 : OUT σ0 σ61 a := OUT_fr o58 h63 (by decide +kernel)
    have h81 := Imp_m h64.2.2.2.2.2.2.2.1 (by omega)
    have h82 := Imp_m h64.2.2.2.2.2.2.2.2.1 (by omega)
    refine En_Ps 2 (pc' := 38) (lv' := [(2, .int z67), (0, .ref 3), (1, .ref a)]) (st' := [.ref 3]) rfl ?_
    refine En_getK (j := 5) h66 rfl rfl rfl tgz_3 (by decide +kernel) ?_
    refine En_iNe _ rfl rfl (fun h83 => ?_) (fun h83 => ?_)
    · have h84 := Imp_m h64.2.2.2.2.2.2.1 (by omega)
      have h85 : fCourse By Nb Sp = S71 := by unfold fCourse; (try dsimp only); first | (rw [← h21, ← h50, ← h72]; first | done | rfl) | (rw [← h21, ← h50, ← h72]; rw [if_pos (by omega)]; first | done | rfl) | (rw [← h21, ← h50, ← h72]; rw [if_neg (by omega)]; first | done | rfl) | (rw [← h21, ← h50, ← h72]; rw [if_neg (by omega), if_pos (by omega)]; first | done | rfl) | (rw [← h21, ← h50, ← h72]; rw [if_neg (by omega), if_neg (by omega)]; first | done | rfl) | (rw [← h21, ← h50, ← h72]; rw [if_neg (by omega), if_neg (by omega), if_neg (by omega)]; first | done | rfl)
      exact En_ret (v := none) rfl rfl rfl ⟨h62, h69, z65, h66, rfl, ⟨o80, by omega, by omega, by omega, by omega, (by rw [h85]; exact ⟨h73, fun z => absurd z (by omega)⟩)⟩⟩
    · have h86 := Imp_m h64.2.2.2.2.2.1 (by omega)
      try have h87 := Imp_m h76 (by omega)
      try have h88 := Imp_m h75 (by omega)
      try have h89 := Imp_m h55 (by omega)
      try have h90 := Imp_m h54 (by omega)
      try have h91 := Imp_m h37 (by omega)
      refine En_Ps 1 (pc' := 45) (lv' := [(2, .int z67), (0, .ref 3), (1, .ref a)]) (st' := [.ref a]) rfl ?_
      refine En_getR (j := 12) (g' := 25) (u := 0) rfl rfl rfl ha (by decide +kernel) h62 (by decide +kernel) (fun a93 h92 ha93 => ?_)
      refine En_Ps 1 (pc' := 49) (lv' := [(2, .int z67), (0, .ref 3), (1, .ref a)]) (st' := [.ref a, .ref a93]) rfl ?_
      refine En_getK (j := 11) ((h63 _ _ (inW ha (by decide +kernel))).trans ((h42 _ _ (inW ha (by decide +kernel))).trans ((h16 _ _ (inW ha (by decide +kernel))).trans h2))) rfl rfl rfl ha (by decide +kernel) ?_
      refine En_Ps 1 (pc' := 53) (lv' := [(2, .int z67), (0, .ref 3), (1, .ref a)]) (st' := [.int z67, .int z3, .ref a93]) rfl ?_
      refine En_iast (l := 0) (u := 9) rfl rfl ha93 (by decide +kernel) (by omega) (lnI (by decide +kernel : LN _ = 6) (by omega)) (FTsgl (by decide +kernel)) (rngI rfl (by omega) (by omega)) h62 h69 (by decide +kernel) (fun σ94 h95 h96 h97 h98 => ?_)
      have h99 : a93 = a + 7 := ref_uniq ((h98 _ _ (Or.inl (neTG ha ha93 (by decide)))).trans h92) (FXP_fr hP hX h96 (by decide +kernel)).2.2.2.2.1
      have h100 := lc_c (m := Sp.2.2.2 5) (by omega) (by omega)
      obtain ⟨S101, h102⟩ : ∃ q : PS, q = wst S71 (154 + 2 * Sp.2.2.2 5) ((tV By Nb S49.2.2.1)) := ⟨_, rfl⟩
      have h103 : CT By Nb σ94 S101 := by rw [h102]; exact CT_wst (CT_ne h73 h98 (by have := hP; unfold PLA at this; omega))
      have h104 : KN σ94 a (uPd Sp.2.2.2 (154 + 2 * Sp.2.2.2 5) ((tV By Nb S49.2.2.1))) (fun t => (act Sp.2.2.2 t ∨ t = 154 + 2 * Sp.2.2.2 5)) := KN_st h78 h97 h98 (by omega) (by omega) (by omega) (by omega) (by (try have i0 := Imp_m h76 (by omega)); (try have i1 := Imp_m h75 (by omega)); (try have i2 := Imp_m h55 (by omega)); (try have i3 := Imp_m h54 (by omega)); (try have i4 := Imp_m h37 (by omega)); (try have i5 := Imp_m h43.2.2.2.1 (by omega)); (try have i6 := Imp_m h43.2.2.2.2.2.1 (by omega)); (try have i7 := Imp_m h64.2.2.2.2.2.2.1 (by omega)); omega)
      have h105 : S101.2.2.2 = (uPd Sp.2.2.2 (154 + 2 * Sp.2.2.2 5) ((tV By Nb S49.2.2.1))) := by rw [h102]; show uPd S71.2.2.2 _ _ = _; rw [h79]
      have h106 : S101.1 = S71.1 := by rw [h102]; rfl
      have h107 := CT_k h103 ((h98 _ _ (Or.inl (neTG tgz_3 ha93 (by decide)))).trans h66)
      have o108 : OUT σ0 σ94 a := OUT_st o80 h98 (by omega)
      refine En_Ps 2 (pc' := 56) (lv' := [(2, .int z67), (0, .ref 3), (1, .ref a)]) (st' := [.ref a, .ref a]) rfl ?_
      refine En_getK (j := 11) ((h98 _ _ (Or.inl (neTG ha ha93 (by decide)))).trans ((h63 _ _ (inW ha (by decide +kernel))).trans ((h42 _ _ (inW ha (by decide +kernel))).trans ((h16 _ _ (inW ha (by decide +kernel))).trans h2)))) rfl rfl rfl ha (by decide +kernel) ?_
      refine En_Ps 2 (pc' := 61) (lv' := [(2, .int z67), (0, .ref 3), (1, .ref a)]) (st' := [.int ((z3 + ((Int32.ofInt 1)))), .ref a]) rfl ?_
      refine En_top (addI rfl (by decide : (Int32.ofInt 1).toInt = 1) (by omega) (by omega)) (fun z109 h110 => ?_)
      refine En_put (j := 11) rfl rfl rfl ha (by decide +kernel) rfl (vI (l := 0) (u := 6) (by decide +kernel) rfl (by omega) (by omega)) h95 h96 (by decide +kernel) (fun σ111 h112 h113 h114 h115 => ?_)
      obtain ⟨S116, h117⟩ : ∃ q : PS, q = wst S101 (5) (Sp.2.2.2 5 + 1) := ⟨_, rfl⟩
      have h118 : CT By Nb σ111 S116 := by rw [h117]; exact CT_wst (CT_ne h103 h115 (by have := hP; unfold PLA at this; omega))
      have h119 : KN σ111 a (uPd (uPd Sp.2.2.2 (154 + 2 * Sp.2.2.2 5) ((tV By Nb S49.2.2.1))) (5) (Sp.2.2.2 5 + 1)) (fun t => ((act Sp.2.2.2 t ∨ t = 154 + 2 * Sp.2.2.2 5) ∨ t = 5)) := KN_st h104 h114 h115 (by omega) (by omega) (by rw [lcO_lt (by decide) (by decide), Nat.add_zero]) (by decide) (by (try have i0 := Imp_m h76 (by omega)); (try have i1 := Imp_m h75 (by omega)); (try have i2 := Imp_m h55 (by omega)); (try have i3 := Imp_m h54 (by omega)); (try have i4 := Imp_m h37 (by omega)); (try have i5 := Imp_m h43.2.2.2.1 (by omega)); (try have i6 := Imp_m h43.2.2.2.2.2.1 (by omega)); (try have i7 := Imp_m h64.2.2.2.2.2.2.1 (by omega)); omega)
      have h120 : S116.2.2.2 = (uPd (uPd Sp.2.2.2 (154 + 2 * Sp.2.2.2 5) ((tV By Nb S49.2.2.1))) (5) (Sp.2.2.2 5 + 1)) := by rw [h117]; show uPd S101.2.2.2 _ _ = _; rw [h105]
      have h121 : S116.1 = S101.1 := by rw [h117]; rfl
      have h122 := CT_k h118 ((h115 _ _ (Or.inr (by decide))).trans ((h98 _ _ (Or.inl (neTG tgz_3 ha93 (by decide)))).trans h66))
      have o123 : OUT σ0 σ111 a := OUT_st o108 h115 (by omega)
      have h124 : fCourse By Nb Sp = S116 := by unfold fCourse; (try dsimp only); first | (rw [← h21, ← h50, ← h72, ← h102, ← h117]; first | done | rfl) | (rw [← h21, ← h50, ← h72, ← h102, ← h117]; rw [if_pos (by omega)]; first | done | rfl) | (rw [← h21, ← h50, ← h72, ← h102, ← h117]; rw [if_neg (by omega)]; first | done | rfl) | (rw [← h21, ← h50, ← h72, ← h102, ← h117]; rw [if_neg (by omega), if_pos (by omega)]; first | done | rfl) | (rw [← h21, ← h50, ← h72, ← h102, ← h117]; rw [if_neg (by omega), if_neg (by omega)]; first | done | rfl) | (rw [← h21, ← h50, ← h72, ← h102, ← h117]; rw [if_neg (by omega), if_neg (by omega), if_neg (by omega)]; first | done | rfl)
      exact En_ret (v := none) rfl rfl rfl ⟨h112, h113, z65, ((h115 _ _ (Or.inr (by decide))).trans ((h98 _ _ (Or.inl (neTG tgz_3 ha93 (by decide)))).trans h66)), rfl, ⟨o123, by omega, by omega, by omega, by omega, (by rw [h124]; exact ⟨h118, fun zz => by rw [h120]; exact KN_sub h119 (fun t t0 t1 y => ACs (by omega) y)⟩)⟩⟩
  · refine En_Ps 2 (pc' := 11) (lv' := [(0, .ref 3), (1, .ref a)]) (st' := [.int ((Int32.ofInt 3)), .ref 3]) rfl ?_
    have := (by decide : ((Int32.ofInt 3)).toInt = 3)
    refine En_callV rfl rfl rfl rfl rfl rfl rfl rfl tgz_3 (by decide +kernel) rfl (c_54x σ0 hσ0 ((Int32.ofInt 3)) (geI (by decide : (Int32.ofInt 3).toInt = 3) (by omega)) (leI (by decide : (Int32.ofInt 3).toInt = 3) (by omega)) f h_f hC) (by decide) (by decide) (fun v126 σ127 h125 => ?_)
    obtain ⟨h128, h129, z131, h132, rfl, h130⟩ := h125
    have h133 := h130.2.2.2.2.2
    have h134 := Fr_trans hF0 h129 (by decide +kernel)
    obtain ⟨S135, h136⟩ : ∃ q : PS, q = err By Nb 3 Sp := ⟨_, rfl⟩
    have h137 : CT By Nb σ127 S135 := by rw [h136]; exact (CT_eq h133 (err_cg (by omega)))
    have h138 := CT_k h137 h132
    have h139 : S135.2.2.2 = Sp.2.2.2 := by rw [h136]; exact err_w
    have h140 := KN_fr hP hK h129 (by decide +kernel)
    have h141 : S135.2.2.2 = Sp.2.2.2 := h139.trans (rfl : Sp.2.2.2 = Sp.2.2.2)
    have o142 : OUT σ0 σ127 a := OUT_fr OUT_0 h129 (by decide +kernel)
    have h143 : fCourse By Nb Sp = S135 := by unfold fCourse; (try dsimp only); first | (rw [← h136]; first | done | rfl) | (rw [← h136]; rw [if_pos (by omega)]; first | done | rfl) | (rw [← h136]; rw [if_neg (by omega)]; first | done | rfl) | (rw [← h136]; rw [if_neg (by omega), if_pos (by omega)]; first | done | rfl) | (rw [← h136]; rw [if_neg (by omega), if_neg (by omega)]; first | done | rfl) | (rw [← h136]; rw [if_neg (by omega), if_neg (by omega), if_neg (by omega)]; first | done | rfl)
    exact En_ret (v := none) rfl rfl rfl ⟨h128, h134, z131, h132, rfl, ⟨o142, by omega, by omega, by omega, by omega, (by rw [h143]; exact ⟨h137, fun z => absurd z (by omega)⟩)⟩⟩
/-- DoorSchool$Reader.readAhead(LDoorSchool$Plan;)V -/
abbrev P_61x (σ0 : SG) (By : Int → Int) (Nb : Int) (Sp : PS) (a : Nat) (f : Int32) (sg : Int32) : PO := fun v σ => WT σ ∧ Fr [(3, 1), (3, 2), (3, 3), (3, 4), (3, 5), (3, 6), (26, 0)] σ0 σ ∧ ∃ f1 : Int32, (σ 3)[5]? = some (.int f1) ∧ v = none ∧ OUT σ0 σ a ∧ -f1.toInt ≤ 0 ∧ f1.toInt - 3 ≤ 0 ∧ -f1.toInt + f.toInt ≤ 0 ∧ f.toInt - f1.toInt ≤ 0 ∧ (CT By Nb σ (fAhead By Nb Sp) ∧ ((fAhead By Nb Sp).1 = 0 → KN σ a (fAhead By Nb Sp).2.2.2 (act (fAhead By Nb Sp).2.2.2)))
set_option maxRecDepth 10000 in
set_option maxHeartbeats 4000000 in
theorem c_61x {By : Int → Int} {Nb : Int} {Sp : PS} (σ0 : SG) (hσ0 : WT σ0) (a : Nat) (ha : TG a = 18) (f : Int32) (h_f : (σ0 3)[5]? = some (.int f)) (sg : Int32) (h_sg : (σ0 a)[1]? = some (.int sg)) (hp0 : -sg.toInt ≤ 0) (hC : CT By Nb σ0 Sp) (hg : Sp.1 = 0) (hP : PLA a) (hX : FXP σ0 a) (hK : KN σ0 a Sp.2.2.2 (act Sp.2.2.2)) : En 3 66 none mr_61 (P_61x σ0 By Nb Sp a f sg) 0 [(0, .ref 3), (1, .ref a)] [] σ0 := by
  obtain ⟨hl_f, hu_f⟩ := WT_int hσ0 (g := 3) (by decide +kernel) (by decide +kernel) (l := 0) (u := 3) (by decide +kernel) h_f
  obtain ⟨hl_sg, hu_sg⟩ := WT_int hσ0 (g := 18) ha (by decide +kernel) (l := (-1)) (u := 4) (by decide +kernel) h_sg
  have hF0 : Fr [(3, 1), (3, 2), (3, 3), (3, 4), (3, 5), (3, 6), (26, 0)] σ0 σ0 := Fr_rfl
  have h1 := CT_k hC h_f
  obtain ⟨z3, h2, h4, h5⟩ := WT_peekI hσ0 ha (by decide +kernel : FT 18 11 = (0, 0, 6)) (by decide +kernel)
  have h6 : Sp.2.2.2 5 = z3.toInt := KN_v hK (Or.inl (by decide)) (by decide) (by decide) (by rw [lcO_lt (by decide) (by decide), Nat.add_zero]) rfl h2
  refine En_Ps 1 (pc' := 1) (lv' := [(0, .ref 3), (1, .ref a)]) (st' := [.ref 3]) rfl ?_
  obtain ⟨z8, h7, h9, h10⟩ := WT_peekI hσ0 tgz_3 (by decide +kernel : FT 3 3 = (0, 0, 1600)) (by decide +kernel)
  refine En_callV rfl rfl rfl rfl rfl rfl rfl rfl tgz_3 (by decide +kernel) rfl (c_72x σ0 hσ0 z8 h7 hC.1 (CT_at hC (by omega) h7)) (by decide) (by decide) (fun v12 σ13 h11 => ?_)
  obtain ⟨h14, h15, rfl, h16⟩ := h11
  have h17 := h16
  have h18 := Fr_trans hF0 h15 (by decide +kernel)
  obtain ⟨S19, h20⟩ : ∃ q : PS, q = adv By Nb Sp := ⟨_, rfl⟩
  have h21 : CT By Nb σ13 S19 := by rw [h20]; exact (CT_adv hC (by omega) h7 h15 (by decide +kernel) h17.2)
  have h22 := CT_k h21 ((h15 _ _ (inW tgz_3 (by decide +kernel))).trans h_f)
  have h23 : S19.2.2.2 = Sp.2.2.2 := by rw [h20]; exact adv_w
  have h24 : S19.1 = Sp.1 := by rw [h20]; exact adv_1
  have h25 := KN_fr hP hK h15 (by decide +kernel)
  have h26 : S19.2.2.2 = Sp.2.2.2 := h23.trans (rfl : Sp.2.2.2 = Sp.2.2.2)
  have o27 : OUT σ0 σ13 a := OUT_fr OUT_0 h15 (by decide +kernel)
  refine En_Ps 3 (pc' := 7) (lv' := [(0, .ref 3), (1, .ref a)]) (st' := [.ref a, .int ((Int32.ofInt 0)), .ref 3]) rfl ?_
  refine En_getK (j := 11) ((h15 _ _ (inW ha (by decide +kernel))).trans h2) rfl rfl rfl ha (by decide +kernel) ?_
  refine En_Ps 2 (pc' := 12) (lv' := [(0, .ref 3), (1, .ref a)]) (st' := [.int ((z3 - ((Int32.ofInt 1)))), .int ((Int32.ofInt 0)), .ref 3]) rfl ?_
  refine En_top (subI rfl (by decide : (Int32.ofInt 1).toInt = 1) (by omega) (by omega)) (fun z28 h29 => ?_)
  have := (by decide : ((Int32.ofInt 0)).toInt = 0)
  refine En_callV rfl rfl rfl rfl rfl rfl rfl rfl tgz_3 (by decide +kernel) rfl (c_73x σ13 h14 ((Int32.ofInt 0)) z28 f ((h15 _ _ (inW tgz_3 (by decide +kernel))).trans h_f) h21) (by decide) (by decide) (fun v31 σ32 h30 => ?_)
  obtain ⟨h33, h34, z36, h37, z38, rfl, h35⟩ := h30
  have h39 := h35.2.2.2.2.2.2.2.2.2
  have h40 := Fr_trans h18 h34 (by decide +kernel)
  have h41 : tN By Nb ((Int32.ofInt 0)).toInt z28.toInt S19 = tN By Nb (0) (Sp.2.2.2 5 - 1) S19 := tN_cg2 (fun zz => by omega) (fun zz => by omega)
  obtain ⟨S42, h43⟩ : ∃ q : PS, q = tN By Nb (0) (Sp.2.2.2 5 - 1) S19 := ⟨_, rfl⟩
  have h44 : CT By Nb σ32 S42 := by rw [h43]; exact (CT_eq h39.1 h41)
  have h45 := CT_k h44 h37
  have h46 : Imp (S42.1 = 0) (z38.toInt = tV By Nb S19.2.2.1) := fun z => Imp_m h39.2 (by rw [h41, ← h43]; exact z)
  have h47 : Imp (S42.1 = 0) (S19.1 = 0 ∧ tK By Nb S19.2.2.1 = 2 ∧ 0 ≤ tV By Nb S19.2.2.1 ∧ tV By Nb S19.2.2.1 ≤ Sp.2.2.2 5 - 1) := fun z => tN_gg (by rw [← h43]; exact z)
  have h48 : S42.2.2.2 = S19.2.2.2 := by rw [h43]; exact tN_w
  have h49 := KN_fr hP h25 h34 (by decide +kernel)
  have h50 : S42.2.2.2 = Sp.2.2.2 := h48.trans h26
  have o51 : OUT σ0 σ32 a := OUT_fr o27 h34 (by decide +kernel)
  have h52 := Imp_m h35.2.2.2.2.2.2.2.1 (by omega)
  have h53 := Imp_m h35.2.2.2.2.2.2.2.2.1 (by omega)
  refine En_Ps 5 (pc' := 20) (lv' := [(2, .int z38), (0, .ref 3), (1, .ref a)]) (st' := [.int ((z38 + ((Int32.ofInt 1)))), .ref 3]) rfl ?_
  refine En_top (addI rfl (by decide : (Int32.ofInt 1).toInt = 1) (by omega) (by omega)) (fun z54 h55 => ?_)
  refine En_Ps 1 (pc' := 21) (lv' := [(2, .int z38), (0, .ref 3), (1, .ref a)]) (st' := [.ref a, .int z54, .ref 3]) rfl ?_
  refine En_getK (j := 11) ((h34 _ _ (inW ha (by decide +kernel))).trans ((h15 _ _ (inW ha (by decide +kernel))).trans h2)) rfl rfl rfl ha (by decide +kernel) ?_
  refine En_Ps 2 (pc' := 26) (lv' := [(2, .int z38), (0, .ref 3), (1, .ref a)]) (st' := [.int ((z3 - ((Int32.ofInt 1)))), .int z54, .ref 3]) rfl ?_
  refine En_top (subI rfl (by decide : (Int32.ofInt 1).toInt = 1) (by omega) (by omega)) (fun z56 h57 => ?_)
  refine En_callV rfl rfl rfl rfl rfl rfl rfl rfl tgz_3 (by decide +kernel) rfl (c_73x σ32 h33 z54 z56 z36 h37 h44) (by decide) (by decide) (fun v59 σ60 h58 => ?_)
  obtain ⟨h61, h62, z64, h65, z66, rfl, h63⟩ := h58
  have h67 := h63.2.2.2.2.2.2.2.2.2
  have h68 := Fr_trans h40 h62 (by decide +kernel)
  have h69 : tN By Nb z54.toInt z56.toInt S42 = tN By Nb ((tV By Nb S19.2.2.1) + 1) (Sp.2.2.2 5 - 1) S42 := tN_cg2 (fun zz => by (try have i0 := Imp_m h47 (by omega)); (try have i1 := Imp_m h46 (by omega)); (try have i2 := Imp_m h35.2.2.2.2.2.1 (by omega)); (try have i3 := Imp_m h35.2.2.2.2.2.2.1 (by omega)); omega) (fun zz => by (try have i0 := Imp_m h47 (by omega)); (try have i1 := Imp_m h46 (by omega)); (try have i2 := Imp_m h35.2.2.2.2.2.1 (by omega)); (try have i3 := Imp_m h35.2.2.2.2.2.2.1 (by omega)); omega)
  obtain ⟨S70, h71⟩ : ∃ q : PS, q = tN By Nb ((tV By Nb S19.2.2.1) + 1) (Sp.2.2.2 5 - 1) S42 := ⟨_, rfl⟩
  have h72 : CT By Nb σ60 S70 := by rw [h71]; exact (CT_eq h67.1 h69)
  have h73 := CT_k h72 h65
  have h74 : Imp (S70.1 = 0) (z66.toInt = tV By Nb S42.2.2.1) := fun z => Imp_m h67.2 (by rw [h69, ← h71]; exact z)
  have h75 : Imp (S70.1 = 0) (S42.1 = 0 ∧ tK By Nb S42.2.2.1 = 2 ∧ (tV By Nb S19.2.2.1) + 1 ≤ tV By Nb S42.2.2.1 ∧ tV By Nb S42.2.2.1 ≤ Sp.2.2.2 5 - 1) := fun z => tN_gg (by rw [← h71]; exact z)
  have h76 : S70.2.2.2 = S42.2.2.2 := by rw [h71]; exact tN_w
  have h77 := KN_fr hP h49 h62 (by decide +kernel)
  have h78 : S70.2.2.2 = Sp.2.2.2 := h76.trans h50
  have o79 : OUT σ0 σ60 a := OUT_fr o51 h62 (by decide +kernel)
  have h80 := Imp_m h63.2.2.2.2.2.2.2.1 (by omega)
  have h81 := Imp_m h63.2.2.2.2.2.2.2.2.1 (by omega)
  refine En_Ps 2 (pc' := 31) (lv' := [(3, .int z66), (2, .int z38), (0, .ref 3), (1, .ref a)]) (st' := [.ref 3]) rfl ?_
  refine En_getK (j := 5) h65 rfl rfl rfl tgz_3 (by decide +kernel) ?_
  refine En_iNe _ rfl rfl (fun h82 => ?_) (fun h82 => ?_)
  · have h83 := Imp_m h63.2.2.2.2.2.2.1 (by omega)
    have h84 : fAhead By Nb Sp = S70 := by unfold fAhead; (try dsimp only); first | (rw [← h20, ← h43, ← h71]; first | done | rfl) | (rw [← h20, ← h43, ← h71]; rw [if_pos (by omega)]; first | done | rfl) | (rw [← h20, ← h43, ← h71]; rw [if_neg (by omega)]; first | done | rfl) | (rw [← h20, ← h43, ← h71]; rw [if_neg (by omega), if_pos (by omega)]; first | done | rfl) | (rw [← h20, ← h43, ← h71]; rw [if_neg (by omega), if_neg (by omega)]; first | done | rfl) | (rw [← h20, ← h43, ← h71]; rw [if_neg (by omega), if_neg (by omega), if_neg (by omega)]; first | done | rfl)
    exact En_ret (v := none) rfl rfl rfl ⟨h61, h68, z64, h65, rfl, ⟨o79, by omega, by omega, by omega, by omega, (by rw [h84]; exact ⟨h72, fun z => absurd z (by omega)⟩)⟩⟩
  · have h85 := Imp_m h35.2.2.2.2.2.1 (by omega)
    have h86 := Imp_m h63.2.2.2.2.2.1 (by omega)
    try have h87 := Imp_m h75 (by omega)
    try have h88 := Imp_m h74 (by omega)
    try have h89 := Imp_m h47 (by omega)
    try have h90 := Imp_m h46 (by omega)
    refine En_Ps 1 (pc' := 38) (lv' := [(3, .int z66), (2, .int z38), (0, .ref 3), (1, .ref a)]) (st' := [.ref a]) rfl ?_
    refine En_getR (j := 13) (g' := 26) (u := 0) rfl rfl rfl ha (by decide +kernel) h61 (by decide +kernel) (fun a92 h91 ha92 => ?_)
    refine En_Ps 2 (pc' := 43) (lv' := [(3, .int z66), (2, .int z38), (0, .ref 3), (1, .ref a)]) (st' := [.int z66, .ref a92, .int z66, .ref a92]) rfl ?_
    refine En_iald (l := 0) (u := 63) rfl rfl ha92 (by decide +kernel) h61 (by omega) (lnI (by decide +kernel : LN _ = 6) (by omega)) (FTsgl (by decide +kernel)) (fun z94 h93 h95 h96 => ?_)
    have h99 : a92 = a + 8 := ref_uniq h91 (FXP_fr hP hX h68 (by decide +kernel)).2.2.2.2.2.1
    have h98 := lc_c (m := (tV By Nb S42.2.2.1)) (by omega) (by omega)
    have h97 : Sp.2.2.2 (155 + 2 * (tV By Nb S42.2.2.1)) = z94.toInt := KN_v h77 (Or.inr (Or.inr (Or.inr (Or.inr (Or.inr (Or.inl ⟨by omega, by omega, Or.inl (by omega)⟩)))))) (by omega) (by omega) (by omega) (by omega) h93
    refine En_Ps 4 (pc' := 48) (lv' := [(3, .int z66), (2, .int z38), (0, .ref 3), (1, .ref a)]) (st' := [.int ((z94 ||| ((Int32.ofInt 1) <<< (z38 &&& 31)))), .int z66, .ref a92]) rfl ?_
    refine En_nam (fun z100 h101 => ?_)
    have h102 := orP_v (x := z94) (y := z38) h101 rfl rfl (by omega) (by omega) (by omega) (by omega)
    have h103 : z100.toInt = orP (Sp.2.2.2 (155 + 2 * (tV By Nb S42.2.2.1))) (tV By Nb S19.2.2.1) := by rw [h102.1]; exact orP_cg (by omega) (by omega)
    refine En_iast (l := 0) (u := 63) rfl rfl ha92 (by decide +kernel) (by omega) (lnI (by decide +kernel : LN _ = 6) (by omega)) (FTsgl (by decide +kernel)) (rngI rfl (by omega) (by omega)) h61 h68 (by decide +kernel) (fun σ104 h105 h106 h107 h108 => ?_)
    have h109 : a92 = a + 8 := ref_uniq ((h108 _ _ (Or.inl (neTG ha ha92 (by decide)))).trans h91) (FXP_fr hP hX h106 (by decide +kernel)).2.2.2.2.2.1
    have h110 := lc_c (m := (tV By Nb S42.2.2.1)) (by omega) (by omega)
    obtain ⟨S111, h112⟩ : ∃ q : PS, q = wst S70 (155 + 2 * (tV By Nb S42.2.2.1)) (orP (Sp.2.2.2 (155 + 2 * (tV By Nb S42.2.2.1))) (tV By Nb S19.2.2.1)) := ⟨_, rfl⟩
    have h113 : CT By Nb σ104 S111 := by rw [h112]; exact CT_wst (CT_ne h72 h108 (by have := hP; unfold PLA at this; omega))
    have h114 : KN σ104 a (uPd Sp.2.2.2 (155 + 2 * (tV By Nb S42.2.2.1)) (orP (Sp.2.2.2 (155 + 2 * (tV By Nb S42.2.2.1))) (tV By Nb S19.2.2.1))) (fun t => (act Sp.2.2.2 t ∨ t = 155 + 2 * (tV By Nb S42.2.2.1))) := KN_st h77 h107 h108 (by omega) (by omega) (by omega) (by omega) (by (try have i0 := Imp_m h75 (by omega)); (try have i1 := Imp_m h74 (by omega)); (try have i2 := Imp_m h47 (by omega)); (try have i3 := Imp_m h46 (by omega)); (try have i4 := Imp_m h35.2.2.2.2.2.2.1 (by omega)); (try have i5 := Imp_m h63.2.2.2.2.2.2.1 (by omega)); omega)
    have h115 : S111.2.2.2 = (uPd Sp.2.2.2 (155 + 2 * (tV By Nb S42.2.2.1)) (orP (Sp.2.2.2 (155 + 2 * (tV By Nb S42.2.2.1))) (tV By Nb S19.2.2.1))) := by rw [h112]; show uPd S70.2.2.2 _ _ = _; rw [h78]
    have h116 : S111.1 = S70.1 := by rw [h112]; rfl
    have h117 := CT_k h113 ((h108 _ _ (Or.inl (neTG tgz_3 ha92 (by decide)))).trans h65)
    have o118 : OUT σ0 σ104 a := OUT_st o79 h108 (by omega)
    have h119 : fAhead By Nb Sp = S111 := by unfold fAhead; (try dsimp only); first | (rw [← h20, ← h43, ← h71, ← h112]; first | done | rfl) | (rw [← h20, ← h43, ← h71, ← h112]; rw [if_pos (by omega)]; first | done | rfl) | (rw [← h20, ← h43, ← h71, ← h112]; rw [if_neg (by omega)]; first | done | rfl) | (rw [← h20, ← h43, ← h71, ← h112]; rw [if_neg (by omega), if_pos (by omega)]; first | done | rfl) | (rw [← h20, ← h43, ← h71, ← h112]; rw [if_neg (by omega), if_neg (by omega)]; first | done | rfl) | (rw [← h20, ← h43, ← h71, ← h112]; rw [if_neg (by omega), if_neg (by omega), if_neg (by omega)]; first | done | rfl)
    exact En_ret (v := none) rfl rfl rfl ⟨h105, h106, z64, ((h108 _ _ (Or.inl (neTG tgz_3 ha92 (by decide)))).trans h65), rfl, ⟨o118, by omega, by omega, by omega, by omega, (by rw [h119]; exact ⟨h113, fun zz => by rw [h115]; exact KN_sub h114 (fun t t0 t1 y => Or.inl (act_in (by omega) (by omega) y))⟩)⟩⟩
/-- DoorSchool$Reader.read(LDoorSchool$Plan;)V -/
abbrev P_60x (σ0 : SG) (By : Int → Int) (Nb : Int) (a : Nat) : PO := fun v σ => WT σ ∧ Fr [(3, 1), (3, 2), (3, 3), (3, 4), (3, 5), (3, 6), (18, 0), (18, 1), (18, 2), (18, 3), (18, 6), (18, 7), (18, 8), (18, 11), (18, 14), (20, 2), (21, 0), (22, 0), (23, 0), (24, 0), (25, 0), (26, 0), (28, 1), (28, 2), (28, 3)] σ0 σ ∧ ∃ f1 : Int32, (σ 3)[5]? = some (.int f1) ∧ ∃ sg1 : Int32, (σ a)[1]? = some (.int sg1) ∧ v = none ∧ OUT σ0 σ a ∧ -f1.toInt ≤ 0 ∧ f1.toInt - 3 ≤ 0 ∧ -sg1.toInt - 1 ≤ 0 ∧ sg1.toInt - 4 ≤ 0 ∧ -sg1.toInt - f1.toInt ≤ 0 ∧ (OTH a σ0 σ ∧ RDC By Nb a σ)
set_option maxRecDepth 10000 in
set_option maxHeartbeats 4000000 in
theorem c_60x {By : Int → Int} {Nb : Int} (σ0 : SG) (hσ0 : WT σ0) (a : Nat) (ha : TG a = 18) (hB : TPc By Nb σ0) (hP : PLA a) (hX : FXP σ0 a) : En 7 159 none mr_60 (P_60x σ0 By Nb a) 0 [(0, .ref 3), (1, .ref a)] [] σ0 := by
  have hF0 : Fr [(3, 1), (3, 2), (3, 3), (3, 4), (3, 5), (3, 6), (18, 0), (18, 1), (18, 2), (18, 3), (18, 6), (18, 7), (18, 8), (18, 11), (18, 14), (20, 2), (21, 0), (22, 0), (23, 0), (24, 0), (25, 0), (26, 0), (28, 1), (28, 2), (28, 3)] σ0 σ0 := Fr_rfl
  refine En_Ps 2 (pc' := 2) (lv' := [(0, .ref 3), (1, .ref a)]) (st' := [.int ((Int32.ofInt 0)), .ref 3]) rfl ?_
  refine En_put (j := 5) rfl rfl rfl tgz_3 (by decide +kernel) rfl (vI (l := 0) (u := 3) (by decide +kernel) (by decide : (Int32.ofInt 0).toInt = 0) (by omega) (by omega)) hσ0 hF0 (by decide +kernel) (fun σ1 h2 h3 h4 h5 => ?_)
  have h6 := OTH_pn (OTH_0 (a := a) (σ := σ0)) h5 tgz_3 (by decide)
  have o7 : OUT σ0 σ1 a := OUT_pn OUT_0 h5 tgz_3 (by decide)
  refine En_Ps 2 (pc' := 7) (lv' := [(0, .ref 3), (1, .ref a)]) (st' := [.int ((Int32.ofInt (-1))), .ref 3]) rfl ?_
  refine En_put (j := 6) rfl rfl rfl tgz_3 (by decide +kernel) rfl (vI (l := (-1)) (u := 1600) (by decide +kernel) (by decide : (Int32.ofInt (-1)).toInt = -1) (by omega) (by omega)) h2 h3 (by decide +kernel) (fun σ8 h9 h10 h11 h12 => ?_)
  have h13 := OTH_pn h6 h12 tgz_3 (by decide)
  have o14 : OUT σ0 σ8 a := OUT_pn o7 h12 tgz_3 (by decide)
  refine En_Ps 2 (pc' := 12) (lv' := [(0, .ref 3), (1, .ref a)]) (st' := [.int ((Int32.ofInt 0)), .ref 3]) rfl ?_
  refine En_put (j := 3) rfl rfl rfl tgz_3 (by decide +kernel) rfl (vI (l := 0) (u := 1600) (by decide +kernel) (by decide : (Int32.ofInt 0).toInt = 0) (by omega) (by omega)) h9 h10 (by decide +kernel) (fun σ15 h16 h17 h18 h19 => ?_)
  have h20 := OTH_pn h13 h19 tgz_3 (by decide)
  have o21 : OUT σ0 σ15 a := OUT_pn o14 h19 tgz_3 (by decide)
  refine En_Ps 1 (pc' := 16) (lv' := [(0, .ref 3), (1, .ref a)]) (st' := [.ref a]) rfl ?_
  refine En_callV rfl rfl rfl rfl rfl rfl rfl rfl ha (by decide +kernel) rfl (c_42x σ15 h16 a ha hP (FXP_fr hP hX h17 (by decide +kernel))) (by decide) (by decide) (fun v23 σ24 h22 => ?_)
  obtain ⟨h25, h26, z28, h29, z30, h31, rfl, h27⟩ := h22
  have h32 := h27.2.2.2.2.2.2.2.2.2
  have h33 := Fr_trans h17 h26 (by decide +kernel)
  have h34 := OTH_tr h20 h32.1
  have o35 : OUT σ0 σ24 a := OUT_tr o21 h27.1
  refine En_Ps 1 (pc' := 20) (lv' := [(0, .ref 3), (1, .ref a)]) (st' := [.ref 3]) rfl ?_
  refine En_callV rfl rfl rfl rfl rfl rfl rfl rfl tgz_3 (by decide +kernel) rfl (c_72x σ24 h25 ((Int32.ofInt 0)) ((h26 _ _ (inW tgz_3 (by decide +kernel))).trans h18) (TPc_fr hB h33 (by decide +kernel)) (by have := (by decide : (Int32.ofInt 0).toInt = 0); have := hB.1; omega)) (by decide) (by decide) (fun v37 σ38 h36 => ?_)
  obtain ⟨h39, h40, rfl, h41⟩ := h36
  have h42 := h41
  have h43 := Fr_trans h33 h40 (by decide +kernel)
  have h44 := OTH_fr h34 h40 (by decide +kernel)
  have h45 := KN_fr hP h32.2 h40 (by decide +kernel)
  have o46 : OUT σ0 σ38 a := OUT_fr o35 h40 (by decide +kernel)
  refine En_Ps 2 (pc' := 25) (lv' := [(2, .int ((Int32.ofInt 0))), (0, .ref 3), (1, .ref a)]) (st' := []) rfl ?_
  have key25 : ∀ (n25 : Nat) (σ195 : SG) (y47 : Int32) (y48 : Int32) (y49 : Int32) (y50 : Int32), WT σ195 → Fr [(3, 1), (3, 2), (3, 3), (3, 4), (3, 5), (3, 6), (18, 0), (18, 1), (18, 2), (18, 3), (18, 6), (18, 7), (18, 8), (18, 11), (18, 14), (20, 2), (21, 0), (22, 0), (23, 0), (24, 0), (25, 0), (26, 0), (28, 1), (28, 2), (28, 3)] σ0 σ195 → (σ195 3)[5]? = some (.int y48) → (σ195 a)[0]? = some (.int y49) → (σ195 a)[1]? = some (.int y50) → 0 ≤ y47.toInt → y47.toInt ≤ 1601 → 0 ≤ y48.toInt → y48.toInt ≤ 3 → 0 ≤ y49.toInt → y49.toInt ≤ 1601 → (-1) ≤ y50.toInt → y50.toInt ≤ 4 → -y50.toInt - y48.toInt ≤ 0 → -y50.toInt - y49.toInt ≤ 0 → y47.toInt - y49.toInt + z28.toInt ≤ 0 → -z28.toInt - y47.toInt + y49.toInt ≤ 0 → -y47.toInt + 1601 < (n25 : Int) → OTH a σ0 σ195 → RLI By Nb a σ195 y47.toInt → OUT σ0 σ195 a → En 7 159 none mr_60 (P_60x σ0 By Nb a) 25 [(0, .ref 3), (1, .ref a), (2, .int y47)] [] σ195 := by
    intro n25
    induction n25 with
    | zero =>
      intro σ195 y47 y48 y49 y50 h196 h197 h198 h199 h200 h201 h202 h203 h204 h205 h206 h207 h208 h209 h210 h211 h212 h213 h214 h215 h216
      obtain ⟨S217, f218, h219, h220, h221, h222⟩ := h215
      exfalso; omega
    | succ n25 ih25 =>
      intro σ195 y47 y48 y49 y50 h196 h197 h198 h199 h200 h201 h202 h203 h204 h205 h206 h207 h208 h209 h210 h211 h212 h213 h214 h215 h216
      obtain ⟨S235, f236, h237, h238, h239, h240⟩ := h215
      refine En_Ps 2 (pc' := 29) (lv' := [(0, .ref 3), (1, .ref a), (2, .int y47)]) (st' := [.int (((Int16.ofInt 1600).toInt32)), .int y47]) rfl ?_
      refine En_icGt _ rfl (by decide : ((Int16.ofInt 1600).toInt32).toInt = 1600) rfl (fun h241 => ?_) (fun h241 => ?_)
      · exact En_ret (v := none) rfl rfl rfl ⟨h196, h197, y48, h198, y50, h200, rfl, ⟨h216, by omega, by omega, by omega, by omega, by omega, ⟨h214, RLI_x h237 h238 h239 (fun zz => by omega)⟩⟩⟩
      · refine En_Ps 1 (pc' := 33) (lv' := [(0, .ref 3), (1, .ref a), (2, .int y47)]) (st' := [.ref 3]) rfl ?_
        refine En_getI (j := 1) (l := 0) (u := 4) rfl rfl rfl tgz_3 (by decide +kernel) h196 (by decide +kernel) (fun z243 h242 h244 h245 => ?_)
        have h246 := CT_k h237 h198
        have h247 : Imp (S235.1 = 0) (tK By Nb S235.2.2.1 = z243.toInt) := CT_t h237 h242
        refine En_iEq _ rfl rfl (fun h248 => ?_) (fun h248 => ?_)
        · exact En_ret (v := none) rfl rfl rfl ⟨h196, h197, y48, h198, y50, h200, rfl, ⟨h216, by omega, by omega, by omega, by omega, by omega, ⟨h214, RLI_x h237 h238 h239 (fun zz => by (try have i0 := Imp_m h247 (by omega)); omega)⟩⟩⟩
        · refine En_Ps 1 (pc' := 40) (lv' := [(0, .ref 3), (1, .ref a), (2, .int y47)]) (st' := [.ref 3]) rfl ?_
          refine En_getK (j := 5) h198 rfl rfl rfl tgz_3 (by decide +kernel) ?_
          have h249 := CT_k h237 h198
          refine En_iNe _ rfl rfl (fun h250 => ?_) (fun h250 => ?_)
          · exact En_ret (v := none) rfl rfl rfl ⟨h196, h197, y48, h198, y50, h200, rfl, ⟨h216, by omega, by omega, by omega, by omega, by omega, ⟨h214, RLI_x h237 h238 h239 (fun zz => by (try have i0 := Imp_m h247 (by omega)); omega)⟩⟩⟩
          · have h251 : S235.1 = 0 := by omega
            try have h255 := Imp_m h247 (by omega)
            obtain ⟨h252, h253⟩ := h238 h251
            have h254 : S235.2.2.2 7 = y49.toInt := KN_v h252 (Or.inl (by decide)) (by decide) (by decide) (by rw [lcO_lt (by decide) (by decide), Nat.add_zero]) (by decide) h199
            have keyj199 : ∀ (σ256 : SG) (y259 : Int32) (y263 : Int32) (y267 : Int32), WT σ256 → Fr [(3, 1), (3, 2), (3, 3), (3, 4), (3, 5), (3, 6), (18, 0), (18, 1), (18, 2), (18, 3), (18, 6), (18, 7), (18, 8), (18, 11), (18, 14), (20, 2), (21, 0), (22, 0), (23, 0), (24, 0), (25, 0), (26, 0), (28, 1), (28, 2), (28, 3)] σ0 σ256 → (σ256 3)[5]? = some (.int y259) → 0 ≤ y259.toInt → y259.toInt ≤ 3 → (σ256 a)[1]? = some (.int y263) → (-1) ≤ y263.toInt → y263.toInt ≤ 4 → (σ256 a)[0]? = some (.int y267) → 0 ≤ y267.toInt → y267.toInt ≤ 1601 → -y263.toInt - y259.toInt ≤ 0 → y267.toInt - y49.toInt ≤ 0 ∧ -y267.toInt + y49.toInt ≤ 0 → OTH a σ0 σ256 → CT By Nb σ256 (fL1 By Nb S235) → Imp ((fL1 By Nb S235).1 = 0) (KN σ256 a (fL1 By Nb S235).2.2.2 (act (fL1 By Nb S235).2.2.2)) → OUT σ0 σ256 a → En 7 159 none mr_60 (P_60x σ0 By Nb a) 199 [(0, .ref 3), (1, .ref a), (2, .int y47)] [] σ256 := by
              intro σ256 y259 y263 y267 h257 h258 h260 h261 h262 h264 h265 h266 h268 h269 h270 h271 h272 h273 h274 h275 h276
              refine En_Ps 2 (pc' := 201) (lv' := [(0, .ref 3), (1, .ref a), (2, .int y47)]) (st' := [.ref 3, .ref 3]) rfl ?_
              refine En_getI (j := 1) (l := 0) (u := 4) rfl rfl rfl tgz_3 (by decide +kernel) h257 (by decide +kernel) (fun z278 h277 h279 h280 => ?_)
              have h281 := CT_k h274 h260
              have h282 : Imp ((fL1 By Nb S235).1 = 0) (tK By Nb (fL1 By Nb S235).2.2.1 = z278.toInt) := CT_t h274 h277
              refine En_Ps 1 (pc' := 205) (lv' := [(0, .ref 3), (1, .ref a), (2, .int y47)]) (st' := [.int ((Int32.ofInt 3)), .int z278, .ref 3]) rfl ?_
              refine En_icNe _ rfl (by decide : (Int32.ofInt 3).toInt = 3) rfl (fun h283 => ?_) (fun h283 => ?_)
              · refine En_Ps 1 (pc' := 213) (lv' := [(0, .ref 3), (1, .ref a), (2, .int y47)]) (st' := [.int ((Int32.ofInt 0)), .ref 3]) rfl ?_
                have := (by decide : ((Int32.ofInt 0)).toInt = 0)
                refine En_callV rfl rfl rfl rfl rfl rfl rfl rfl tgz_3 (by decide +kernel) rfl (c_59x σ256 h257 ((Int32.ofInt 0)) (geI (by decide : (Int32.ofInt 0).toInt = 0) (by omega)) (leI (by decide : (Int32.ofInt 0).toInt = 0) (by omega)) y259 h260 h274) (by decide) (by decide) (fun v285 σ286 h284 => ?_)
                obtain ⟨h287, h288, z290, h291, rfl, h289⟩ := h284
                have h292 := h289.2.2.2.2.2.2
                have h293 := Fr_trans h258 h288 (by decide +kernel)
                have h294 := OTH_fr h273 h288 (by decide +kernel)
                have h295 : pss By Nb ((Int32.ofInt 0)).toInt (fL1 By Nb S235) = pss By Nb (if tK By Nb (fL1 By Nb S235).2.2.1 = 3 then 1 else 0) (fL1 By Nb S235) := pss_cg2 (fun zz => by (try have i0 := Imp_m h282 (by omega)); first | (rw [if_pos (by omega)]; omega) | (rw [if_neg (by omega)]; omega))
                obtain ⟨S296, h297⟩ : ∃ q : PS, q = pss By Nb (if tK By Nb (fL1 By Nb S235).2.2.1 = 3 then 1 else 0) (fL1 By Nb S235) := ⟨_, rfl⟩
                have h298 : CT By Nb σ286 S296 := by rw [h297]; exact (CT_eq h292 h295)
                have h299 := CT_k h298 h291
                have h300 : S296.2.2.2 = (fL1 By Nb S235).2.2.2 := by rw [h297]; exact pss_w
                have h301 : Imp (S296.1 = 0) ((fL1 By Nb S235).1 = 0) := fun z => (pss_g (by rw [h295, ← h297]; exact z)).1
                have h302 : Imp (S296.1 = 0) (((Int32.ofInt 0)).toInt = 1) := fun z => (pss_g (by rw [h295, ← h297]; exact z)).2.1
                have h303 : Imp (S296.1 = 0) (KN σ286 a S296.2.2.2 (act S296.2.2.2)) := fun z => by (try have i0 := Imp_m h302 (by omega)); (try have i1 := Imp_m h301 (by omega)); (try have i2 := Imp_m h282 (by omega)); rw [h300]; exact KN_fr hP (Imp_m h275 (by omega)) h288 (by decide +kernel)
                have o304 : OUT σ0 σ286 a := OUT_fr h276 h288 (by decide +kernel)
                have h305 := Imp_m h289.2.2.2.2.2.1 (by omega)
                refine En_Ps 2 (pc' := 218) (lv' := [(0, .ref 3), (1, .ref a), (2, .int y47)]) (st' := [.ref a, .ref a]) rfl ?_
                refine En_getK (j := 0) ((h288 _ _ (inW ha (by decide +kernel))).trans h268) rfl rfl rfl ha (by decide +kernel) ?_
                refine En_Ps 2 (pc' := 223) (lv' := [(0, .ref 3), (1, .ref a), (2, .int y47)]) (st' := [.int ((y267 + ((Int32.ofInt 1)))), .ref a]) rfl ?_
                refine En_top (addI rfl (by decide : (Int32.ofInt 1).toInt = 1) (by omega) (by omega)) (fun z306 h307 => ?_)
                refine En_put (j := 0) rfl rfl rfl ha (by decide +kernel) rfl (vI (l := 0) (u := 1601) (by decide +kernel) rfl (by omega) (by omega)) h287 h293 (by decide +kernel) (fun σ308 h309 h310 h311 h312 => ?_)
                have h313 := OTH_pj h294 h312 (by decide)
                obtain ⟨S314, h315⟩ : ∃ q : PS, q = wst S296 7 (S235.2.2.2 7 + 1) := ⟨_, rfl⟩
                have h316 : CT By Nb σ308 S314 := by rw [h315]; exact CT_wst (CT_ne h298 h312 (by have := hP; unfold PLA at this; omega))
                have h317 : Imp (S314.1 = 0) (KN σ308 a S314.2.2.2 (act S314.2.2.2)) := fun zz => by rw [h315] at zz ⊢; exact KN_sub (KN_st (j := 7) (v := S235.2.2.2 7 + 1) (Imp_m h303 zz) h311 h312 (by decide) (by decide) (by rw [lcO_lt (by decide) (by decide), Nat.add_zero]) (by decide) (by omega)) (fun t t0 t1 y => Or.inl (act_low (by decide) y))
                have h318 : fLine By Nb S235 = S314 := fL_line h297 h315
                have h319 : S314.2.2.2 7 = S235.2.2.2 7 + 1 := by rw [h315]; show (if (7 : Int) = 7 then S235.2.2.2 7 + 1 else S296.2.2.2 7) = S235.2.2.2 7 + 1; exact if_pos rfl
                have o320 : OUT σ0 σ308 a := OUT_st o304 h312 (by omega)
                refine En_Ps 1 (pc' := 229) (lv' := [(2, .int ((y47 + Int32.ofInt 1))), (0, .ref 3), (1, .ref a)]) (st' := []) rfl ?_
                refine En_lv1 (addI rfl (by decide : (Int32.ofInt 1).toInt = 1) (by omega) (by omega)) (fun z321 h322 => ?_)
                refine En_Ps 1 (pc' := 25) (lv' := [(2, .int z321), (0, .ref 3), (1, .ref a)]) (st' := []) rfl ?_
                refine En_lv (lv := [(0, .ref 3), (1, .ref a), (2, .int z321)]) ⟨rfl, rfl, rfl, trivial⟩ ?_
                exact ih25 σ308 z321 z290 z306 y263 h309 h310 ((h312 _ _ (Or.inr (by decide))).trans h291) h311 ((h312 _ _ (Or.inr (by decide))).trans ((h288 _ _ (inW ha (by decide +kernel))).trans h264)) (by omega) (by omega) (by omega) (by omega) (by omega) (by omega) (by omega) (by omega) (by omega) (by omega) (by omega) (by omega) (by omega) (h313) (RLI_s h239 h240 (by omega) h251 (by omega) h318 h316 h317 h319 (by omega)) (o320)
              · refine En_Ps 2 (pc' := 213) (lv' := [(0, .ref 3), (1, .ref a), (2, .int y47)]) (st' := [.int ((Int32.ofInt 1)), .ref 3]) rfl ?_
                have := (by decide : ((Int32.ofInt 1)).toInt = 1)
                refine En_callV rfl rfl rfl rfl rfl rfl rfl rfl tgz_3 (by decide +kernel) rfl (c_59x σ256 h257 ((Int32.ofInt 1)) (geI (by decide : (Int32.ofInt 1).toInt = 1) (by omega)) (leI (by decide : (Int32.ofInt 1).toInt = 1) (by omega)) y259 h260 h274) (by decide) (by decide) (fun v324 σ325 h323 => ?_)
                obtain ⟨h326, h327, z329, h330, rfl, h328⟩ := h323
                have h331 := h328.2.2.2.2.2.2
                have h332 := Fr_trans h258 h327 (by decide +kernel)
                have h333 := OTH_fr h273 h327 (by decide +kernel)
                have h334 : pss By Nb ((Int32.ofInt 1)).toInt (fL1 By Nb S235) = pss By Nb (if tK By Nb (fL1 By Nb S235).2.2.1 = 3 then 1 else 0) (fL1 By Nb S235) := pss_cg2 (fun zz => by (try have i0 := Imp_m h282 (by omega)); first | (rw [if_pos (by omega)]; omega) | (rw [if_neg (by omega)]; omega))
                obtain ⟨S335, h336⟩ : ∃ q : PS, q = pss By Nb (if tK By Nb (fL1 By Nb S235).2.2.1 = 3 then 1 else 0) (fL1 By Nb S235) := ⟨_, rfl⟩
                have h337 : CT By Nb σ325 S335 := by rw [h336]; exact (CT_eq h331 h334)
                have h338 := CT_k h337 h330
                have h339 : S335.2.2.2 = (fL1 By Nb S235).2.2.2 := by rw [h336]; exact pss_w
                have h340 : Imp (S335.1 = 0) ((fL1 By Nb S235).1 = 0) := fun z => (pss_g (by rw [h334, ← h336]; exact z)).1
                have h341 : Imp (S335.1 = 0) (((Int32.ofInt 1)).toInt = 1) := fun z => (pss_g (by rw [h334, ← h336]; exact z)).2.1
                have h342 : Imp (S335.1 = 0) (KN σ325 a S335.2.2.2 (act S335.2.2.2)) := fun z => by (try have i0 := Imp_m h341 (by omega)); (try have i1 := Imp_m h340 (by omega)); (try have i2 := Imp_m h282 (by omega)); rw [h339]; exact KN_fr hP (Imp_m h275 (by omega)) h327 (by decide +kernel)
                have o343 : OUT σ0 σ325 a := OUT_fr h276 h327 (by decide +kernel)
                have h344 := Imp_m h328.2.2.2.1 (by omega)
                refine En_Ps 2 (pc' := 218) (lv' := [(0, .ref 3), (1, .ref a), (2, .int y47)]) (st' := [.ref a, .ref a]) rfl ?_
                refine En_getK (j := 0) ((h327 _ _ (inW ha (by decide +kernel))).trans h268) rfl rfl rfl ha (by decide +kernel) ?_
                refine En_Ps 2 (pc' := 223) (lv' := [(0, .ref 3), (1, .ref a), (2, .int y47)]) (st' := [.int ((y267 + ((Int32.ofInt 1)))), .ref a]) rfl ?_
                refine En_top (addI rfl (by decide : (Int32.ofInt 1).toInt = 1) (by omega) (by omega)) (fun z345 h346 => ?_)
                refine En_put (j := 0) rfl rfl rfl ha (by decide +kernel) rfl (vI (l := 0) (u := 1601) (by decide +kernel) rfl (by omega) (by omega)) h326 h332 (by decide +kernel) (fun σ347 h348 h349 h350 h351 => ?_)
                have h352 := OTH_pj h333 h351 (by decide)
                obtain ⟨S353, h354⟩ : ∃ q : PS, q = wst S335 7 (S235.2.2.2 7 + 1) := ⟨_, rfl⟩
                have h355 : CT By Nb σ347 S353 := by rw [h354]; exact CT_wst (CT_ne h337 h351 (by have := hP; unfold PLA at this; omega))
                have h356 : Imp (S353.1 = 0) (KN σ347 a S353.2.2.2 (act S353.2.2.2)) := fun zz => by rw [h354] at zz ⊢; exact KN_sub (KN_st (j := 7) (v := S235.2.2.2 7 + 1) (Imp_m h342 zz) h350 h351 (by decide) (by decide) (by rw [lcO_lt (by decide) (by decide), Nat.add_zero]) (by decide) (by omega)) (fun t t0 t1 y => Or.inl (act_low (by decide) y))
                have h357 : fLine By Nb S235 = S353 := fL_line h336 h354
                have h358 : S353.2.2.2 7 = S235.2.2.2 7 + 1 := by rw [h354]; show (if (7 : Int) = 7 then S235.2.2.2 7 + 1 else S335.2.2.2 7) = S235.2.2.2 7 + 1; exact if_pos rfl
                have o359 : OUT σ0 σ347 a := OUT_st o343 h351 (by omega)
                refine En_Ps 1 (pc' := 229) (lv' := [(2, .int ((y47 + Int32.ofInt 1))), (0, .ref 3), (1, .ref a)]) (st' := []) rfl ?_
                refine En_lv1 (addI rfl (by decide : (Int32.ofInt 1).toInt = 1) (by omega) (by omega)) (fun z360 h361 => ?_)
                refine En_Ps 1 (pc' := 25) (lv' := [(2, .int z360), (0, .ref 3), (1, .ref a)]) (st' := []) rfl ?_
                refine En_lv (lv := [(0, .ref 3), (1, .ref a), (2, .int z360)]) ⟨rfl, rfl, rfl, trivial⟩ ?_
                exact ih25 σ347 z360 z329 z345 y263 h348 h349 ((h351 _ _ (Or.inr (by decide))).trans h330) h350 ((h351 _ _ (Or.inr (by decide))).trans ((h327 _ _ (inW ha (by decide +kernel))).trans h264)) (by omega) (by omega) (by omega) (by omega) (by omega) (by omega) (by omega) (by omega) (by omega) (by omega) (by omega) (by omega) (by omega) (h352) (RLI_s h239 h240 (by omega) h251 (by omega) h357 h355 h356 h358 (by omega)) (o359)
            refine En_Ps 1 (pc' := 47) (lv' := [(0, .ref 3), (1, .ref a), (2, .int y47)]) (st' := [.int y47]) rfl ?_
            refine En_iNe _ rfl rfl (fun h362 => ?_) (fun h362 => ?_)
            · refine En_Ps 1 (pc' := 59) (lv' := [(0, .ref 3), (1, .ref a), (2, .int y47)]) (st' := [.ref 3]) rfl ?_
              refine En_ldcS (i := 2) rfl rfl rfl ?_
              refine En_callV rfl rfl rfl rfl rfl rfl rfl rfl tgz_3 (by decide +kernel) rfl (c_71s2x σ195 h196 h237) (by decide) (by decide) (fun v364 σ365 h363 => ?_)
              obtain ⟨h366, h367, z369, rfl, h368⟩ := h363
              have h370 := h368.2.2
              obtain rfl : σ195 = σ365 := Fr_nil h367
              have h371 := h370
              try have h372 := Imp_m h371 (by omega)
              try have h373 := Imp_m h247 (by omega)
              refine En_iEq _ rfl rfl (fun h374 => ?_) (fun h374 => ?_)
              · refine En_Ps 1 (pc' := 76) (lv' := [(0, .ref 3), (1, .ref a), (2, .int y47)]) (st' := [.ref 3]) rfl ?_
                refine En_ldcS (i := 6) rfl rfl rfl ?_
                refine En_callV rfl rfl rfl rfl rfl rfl rfl rfl tgz_3 (by decide +kernel) rfl (c_71s6x σ195 h196 h237) (by decide) (by decide) (fun v376 σ377 h375 => ?_)
                obtain ⟨h378, h379, z381, rfl, h380⟩ := h375
                have h382 := h380.2.2
                obtain rfl : σ195 = σ377 := Fr_nil h379
                have h383 := h382
                try have h384 := Imp_m h383 (by omega)
                try have h385 := Imp_m h371 (by omega)
                try have h386 := Imp_m h247 (by omega)
                refine En_iEq _ rfl rfl (fun h387 => ?_) (fun h387 => ?_)
                · refine En_Ps 1 (pc' := 93) (lv' := [(0, .ref 3), (1, .ref a), (2, .int y47)]) (st' := [.ref 3]) rfl ?_
                  refine En_ldcS (i := 3) rfl rfl rfl ?_
                  refine En_callV rfl rfl rfl rfl rfl rfl rfl rfl tgz_3 (by decide +kernel) rfl (c_71s3x σ195 h196 h237) (by decide) (by decide) (fun v389 σ390 h388 => ?_)
                  obtain ⟨h391, h392, z394, rfl, h393⟩ := h388
                  have h395 := h393.2.2
                  obtain rfl : σ195 = σ390 := Fr_nil h392
                  have h396 := h395
                  try have h397 := Imp_m h396 (by omega)
                  try have h398 := Imp_m h383 (by omega)
                  try have h399 := Imp_m h371 (by omega)
                  try have h400 := Imp_m h247 (by omega)
                  refine En_iEq _ rfl rfl (fun h401 => ?_) (fun h401 => ?_)
                  · refine En_Ps 1 (pc' := 110) (lv' := [(0, .ref 3), (1, .ref a), (2, .int y47)]) (st' := [.ref 3]) rfl ?_
                    refine En_ldcS (i := 17) rfl rfl rfl ?_
                    refine En_callV rfl rfl rfl rfl rfl rfl rfl rfl tgz_3 (by decide +kernel) rfl (c_71s17x σ195 h196 h237) (by decide) (by decide) (fun v403 σ404 h402 => ?_)
                    obtain ⟨h405, h406, z408, rfl, h407⟩ := h402
                    have h409 := h407.2.2
                    obtain rfl : σ195 = σ404 := Fr_nil h406
                    have h410 := h409
                    try have h411 := Imp_m h410 (by omega)
                    try have h412 := Imp_m h396 (by omega)
                    try have h413 := Imp_m h383 (by omega)
                    try have h414 := Imp_m h371 (by omega)
                    try have h415 := Imp_m h247 (by omega)
                    refine En_iEq _ rfl rfl (fun h416 => ?_) (fun h416 => ?_)
                    · refine En_Ps 1 (pc' := 127) (lv' := [(0, .ref 3), (1, .ref a), (2, .int y47)]) (st' := [.ref 3]) rfl ?_
                      refine En_ldcS (i := 9) rfl rfl rfl ?_
                      refine En_callV rfl rfl rfl rfl rfl rfl rfl rfl tgz_3 (by decide +kernel) rfl (c_71s9x σ195 h196 h237) (by decide) (by decide) (fun v418 σ419 h417 => ?_)
                      obtain ⟨h420, h421, z423, rfl, h422⟩ := h417
                      have h424 := h422.2.2
                      obtain rfl : σ195 = σ419 := Fr_nil h421
                      have h425 := h424
                      try have h426 := Imp_m h425 (by omega)
                      try have h427 := Imp_m h410 (by omega)
                      try have h428 := Imp_m h396 (by omega)
                      try have h429 := Imp_m h383 (by omega)
                      try have h430 := Imp_m h371 (by omega)
                      try have h431 := Imp_m h247 (by omega)
                      refine En_iEq _ rfl rfl (fun h432 => ?_) (fun h432 => ?_)
                      · refine En_Ps 1 (pc' := 144) (lv' := [(0, .ref 3), (1, .ref a), (2, .int y47)]) (st' := [.ref 3]) rfl ?_
                        refine En_ldcS (i := 5) rfl rfl rfl ?_
                        refine En_callV rfl rfl rfl rfl rfl rfl rfl rfl tgz_3 (by decide +kernel) rfl (c_71s5x σ195 h196 h237) (by decide) (by decide) (fun v434 σ435 h433 => ?_)
                        obtain ⟨h436, h437, z439, rfl, h438⟩ := h433
                        have h440 := h438.2.2
                        obtain rfl : σ195 = σ435 := Fr_nil h437
                        have h441 := h440
                        try have h442 := Imp_m h441 (by omega)
                        try have h443 := Imp_m h425 (by omega)
                        try have h444 := Imp_m h410 (by omega)
                        try have h445 := Imp_m h396 (by omega)
                        try have h446 := Imp_m h383 (by omega)
                        try have h447 := Imp_m h371 (by omega)
                        try have h448 := Imp_m h247 (by omega)
                        refine En_iEq _ rfl rfl (fun h449 => ?_) (fun h449 => ?_)
                        · refine En_Ps 1 (pc' := 161) (lv' := [(0, .ref 3), (1, .ref a), (2, .int y47)]) (st' := [.ref 3]) rfl ?_
                          refine En_ldcS (i := 1) rfl rfl rfl ?_
                          refine En_callV rfl rfl rfl rfl rfl rfl rfl rfl tgz_3 (by decide +kernel) rfl (c_71s1x σ195 h196 h237) (by decide) (by decide) (fun v451 σ452 h450 => ?_)
                          obtain ⟨h453, h454, z456, rfl, h455⟩ := h450
                          have h457 := h455.2.2
                          obtain rfl : σ195 = σ452 := Fr_nil h454
                          have h458 := h457
                          try have h459 := Imp_m h458 (by omega)
                          try have h460 := Imp_m h441 (by omega)
                          try have h461 := Imp_m h425 (by omega)
                          try have h462 := Imp_m h410 (by omega)
                          try have h463 := Imp_m h396 (by omega)
                          try have h464 := Imp_m h383 (by omega)
                          try have h465 := Imp_m h371 (by omega)
                          try have h466 := Imp_m h247 (by omega)
                          refine En_iEq _ rfl rfl (fun h467 => ?_) (fun h467 => ?_)
                          · refine En_Ps 1 (pc' := 178) (lv' := [(0, .ref 3), (1, .ref a), (2, .int y47)]) (st' := [.ref 3]) rfl ?_
                            refine En_ldcS (i := 0) rfl rfl rfl ?_
                            refine En_callV rfl rfl rfl rfl rfl rfl rfl rfl tgz_3 (by decide +kernel) rfl (c_71s0x σ195 h196 h237) (by decide) (by decide) (fun v469 σ470 h468 => ?_)
                            obtain ⟨h471, h472, z474, rfl, h473⟩ := h468
                            have h475 := h473.2.2
                            obtain rfl : σ195 = σ470 := Fr_nil h472
                            have h476 := h475
                            try have h477 := Imp_m h476 (by omega)
                            try have h478 := Imp_m h458 (by omega)
                            try have h479 := Imp_m h441 (by omega)
                            try have h480 := Imp_m h425 (by omega)
                            try have h481 := Imp_m h410 (by omega)
                            try have h482 := Imp_m h396 (by omega)
                            try have h483 := Imp_m h383 (by omega)
                            try have h484 := Imp_m h371 (by omega)
                            try have h485 := Imp_m h247 (by omega)
                            refine En_iEq _ rfl rfl (fun h486 => ?_) (fun h486 => ?_)
                            · refine En_Ps 2 (pc' := 196) (lv' := [(0, .ref 3), (1, .ref a), (2, .int y47)]) (st' := [.int ((Int32.ofInt 1)), .ref 3]) rfl ?_
                              have := (by decide : ((Int32.ofInt 1)).toInt = 1)
                              refine En_callV rfl rfl rfl rfl rfl rfl rfl rfl tgz_3 (by decide +kernel) rfl (c_54x σ195 h196 ((Int32.ofInt 1)) (geI (by decide : (Int32.ofInt 1).toInt = 1) (by omega)) (leI (by decide : (Int32.ofInt 1).toInt = 1) (by omega)) y48 h198 h237) (by decide) (by decide) (fun v488 σ489 h487 => ?_)
                              obtain ⟨h490, h491, z493, h494, rfl, h492⟩ := h487
                              have h495 := h492.2.2.2.2.2
                              have h496 := Fr_trans h197 h491 (by decide +kernel)
                              have h497 := OTH_fr h214 h491 (by decide +kernel)
                              obtain ⟨S498, h499⟩ : ∃ q : PS, q = err By Nb 1 S235 := ⟨_, rfl⟩
                              have h500 : CT By Nb σ489 S498 := by rw [h499]; exact (CT_eq h495 (err_cg (by omega)))
                              have h501 := CT_k h500 h494
                              have h502 : Imp (S498.1 = 0) (tK By Nb S498.2.2.1 = z243.toInt) := CT_t h500 ((h491 _ _ (inW tgz_3 (by decide +kernel))).trans h242)
                              have h503 : Imp (S498.1 = 0) (KN σ489 a S498.2.2.2 (act S498.2.2.2)) := fun z => by rw [h499] at z; exact absurd z (err_ne (by decide))
                              have o504 : OUT σ0 σ489 a := OUT_fr h216 h491 (by decide +kernel)
                              have h505 := Imp_m h492.2.2.2.1 (by omega)
                              have h506 : fL1 By Nb S235 = S498 := by rw [h499]; exact (fL1_1 (by omega)).trans (fNx_n (by omega) (by omega) (by omega) (by omega) (by omega) (by omega) (by omega) (by omega))
                              exact keyj199 σ489 z493 y50 y49 h490 h496 h494 (by omega) (by omega) ((h491 _ _ (inW ha (by decide +kernel))).trans h200) (by omega) (by omega) ((h491 _ _ (inW ha (by decide +kernel))).trans h199) (by omega) (by omega) (by omega) (by omega) (h497) (CT_eq h500 h506.symm) (by rw [h506]; exact h503) (o504)
                            · refine En_Ps 2 (pc' := 188) (lv' := [(0, .ref 3), (1, .ref a), (2, .int y47)]) (st' := [.ref a, .ref 3]) rfl ?_
                              refine En_callV rfl rfl rfl rfl rfl rfl rfl rfl tgz_3 (by decide +kernel) rfl (c_61x σ195 h196 a ha y48 h198 y50 h200 (by omega) h237 (by omega) hP (FXP_fr hP hX h197 (by decide +kernel)) h252) (by decide) (by decide) (fun v508 σ509 h507 => ?_)
                              obtain ⟨h510, h511, z513, h514, rfl, h512⟩ := h507
                              have h515 := h512.2.2.2.2.2
                              have h516 := Fr_trans h197 h511 (by decide +kernel)
                              have h517 := OTH_fr h214 h511 (by decide +kernel)
                              obtain ⟨S518, h519⟩ : ∃ q : PS, q = fAhead By Nb S235 := ⟨_, rfl⟩
                              have h520 : CT By Nb σ509 S518 := by rw [h519]; exact h515.1
                              have h521 := CT_k h520 h514
                              have h522 : Imp (S518.1 = 0) (KN σ509 a S518.2.2.2 (act S518.2.2.2)) := fun z => by rw [h519] at z ⊢; exact h515.2 z
                              have o523 : OUT σ0 σ509 a := OUT_tr h216 h512.1
                              refine En_Ps 1 (pc' := 199) (lv' := [(0, .ref 3), (1, .ref a), (2, .int y47)]) (st' := []) rfl ?_
                              have h524 : fL1 By Nb S235 = S518 := by rw [h519]; exact (fL1_1 (by omega)).trans (fNx_0 (by omega) (by omega) (by omega) (by omega) (by omega) (by omega) (by omega) (by omega))
                              exact keyj199 σ509 z513 y50 y49 h510 h516 h514 (by omega) (by omega) ((h511 _ _ (inW ha (by decide +kernel))).trans h200) (by omega) (by omega) ((h511 _ _ (inW ha (by decide +kernel))).trans h199) (by omega) (by omega) (by omega) (by omega) (h517) (CT_eq h520 h524.symm) (by rw [h524]; exact h522) (o523)
                          · refine En_Ps 2 (pc' := 171) (lv' := [(0, .ref 3), (1, .ref a), (2, .int y47)]) (st' := [.ref a, .ref 3]) rfl ?_
                            refine En_callV rfl rfl rfl rfl rfl rfl rfl rfl tgz_3 (by decide +kernel) rfl (c_62x σ195 h196 a ha y48 h198 y50 h200 (by omega) h237 (by omega) hP (FXP_fr hP hX h197 (by decide +kernel)) h252) (by decide) (by decide) (fun v526 σ527 h525 => ?_)
                            obtain ⟨h528, h529, z531, h532, rfl, h530⟩ := h525
                            have h533 := h530.2.2.2.2.2
                            have h534 := Fr_trans h197 h529 (by decide +kernel)
                            have h535 := OTH_fr h214 h529 (by decide +kernel)
                            obtain ⟨S536, h537⟩ : ∃ q : PS, q = fCourse By Nb S235 := ⟨_, rfl⟩
                            have h538 : CT By Nb σ527 S536 := by rw [h537]; exact h533.1
                            have h539 := CT_k h538 h532
                            have h540 : Imp (S536.1 = 0) (KN σ527 a S536.2.2.2 (act S536.2.2.2)) := fun z => by rw [h537] at z ⊢; exact h533.2 z
                            have o541 : OUT σ0 σ527 a := OUT_tr h216 h530.1
                            refine En_Ps 1 (pc' := 199) (lv' := [(0, .ref 3), (1, .ref a), (2, .int y47)]) (st' := []) rfl ?_
                            have h542 : fL1 By Nb S235 = S536 := by rw [h537]; exact (fL1_1 (by omega)).trans (fNx_1 (by omega) (by omega) (by omega) (by omega) (by omega) (by omega) (by omega))
                            exact keyj199 σ527 z531 y50 y49 h528 h534 h532 (by omega) (by omega) ((h529 _ _ (inW ha (by decide +kernel))).trans h200) (by omega) (by omega) ((h529 _ _ (inW ha (by decide +kernel))).trans h199) (by omega) (by omega) (by omega) (by omega) (h535) (CT_eq h538 h542.symm) (by rw [h542]; exact h540) (o541)
                        · refine En_Ps 2 (pc' := 154) (lv' := [(0, .ref 3), (1, .ref a), (2, .int y47)]) (st' := [.ref a, .ref 3]) rfl ?_
                          refine En_callV rfl rfl rfl rfl rfl rfl rfl rfl tgz_3 (by decide +kernel) rfl (c_66x σ195 h196 a ha y48 h198 y50 h200 (by omega) h237 (by omega) hP (FXP_fr hP hX h197 (by decide +kernel)) h252) (by decide) (by decide) (fun v544 σ545 h543 => ?_)
                          obtain ⟨h546, h547, z549, h550, rfl, h548⟩ := h543
                          have h551 := h548.2.2.2.2.2
                          have h552 := Fr_trans h197 h547 (by decide +kernel)
                          have h553 := OTH_fr h214 h547 (by decide +kernel)
                          obtain ⟨S554, h555⟩ : ∃ q : PS, q = fHouse By Nb S235 := ⟨_, rfl⟩
                          have h556 : CT By Nb σ545 S554 := by rw [h555]; exact h551.1
                          have h557 := CT_k h556 h550
                          have h558 : Imp (S554.1 = 0) (KN σ545 a S554.2.2.2 (act S554.2.2.2)) := fun z => by rw [h555] at z ⊢; exact h551.2 z
                          have o559 : OUT σ0 σ545 a := OUT_tr h216 h548.1
                          refine En_Ps 1 (pc' := 199) (lv' := [(0, .ref 3), (1, .ref a), (2, .int y47)]) (st' := []) rfl ?_
                          have h560 : fL1 By Nb S235 = S554 := by rw [h555]; exact (fL1_1 (by omega)).trans (fNx_5 (by omega) (by omega) (by omega) (by omega) (by omega) (by omega))
                          exact keyj199 σ545 z549 y50 y49 h546 h552 h550 (by omega) (by omega) ((h547 _ _ (inW ha (by decide +kernel))).trans h200) (by omega) (by omega) ((h547 _ _ (inW ha (by decide +kernel))).trans h199) (by omega) (by omega) (by omega) (by omega) (h553) (CT_eq h556 h560.symm) (by rw [h560]; exact h558) (o559)
                      · refine En_Ps 2 (pc' := 137) (lv' := [(0, .ref 3), (1, .ref a), (2, .int y47)]) (st' := [.ref a, .ref 3]) rfl ?_
                        refine En_callV rfl rfl rfl rfl rfl rfl rfl rfl tgz_3 (by decide +kernel) rfl (c_68x σ195 h196 a ha y48 h198 y50 h200 (by omega) h237 (by omega) hP (FXP_fr hP hX h197 (by decide +kernel)) h252) (by decide) (by decide) (fun v562 σ563 h561 => ?_)
                        obtain ⟨h564, h565, z567, h568, rfl, h566⟩ := h561
                        have h569 := h566.2.2.2.2.2
                        have h570 := Fr_trans h197 h565 (by decide +kernel)
                        have h571 := OTH_fr h214 h565 (by decide +kernel)
                        obtain ⟨S572, h573⟩ : ∃ q : PS, q = fOwner By Nb S235 := ⟨_, rfl⟩
                        have h574 : CT By Nb σ563 S572 := by rw [h573]; exact h569.1
                        have h575 := CT_k h574 h568
                        have h576 : Imp (S572.1 = 0) (KN σ563 a S572.2.2.2 (act S572.2.2.2)) := fun z => by rw [h573] at z ⊢; exact h569.2 z
                        have o577 : OUT σ0 σ563 a := OUT_tr h216 h566.1
                        refine En_Ps 1 (pc' := 199) (lv' := [(0, .ref 3), (1, .ref a), (2, .int y47)]) (st' := []) rfl ?_
                        have h578 : fL1 By Nb S235 = S572 := by rw [h573]; exact (fL1_1 (by omega)).trans (fNx_9 (by omega) (by omega) (by omega) (by omega) (by omega))
                        exact keyj199 σ563 z567 y50 y49 h564 h570 h568 (by omega) (by omega) ((h565 _ _ (inW ha (by decide +kernel))).trans h200) (by omega) (by omega) ((h565 _ _ (inW ha (by decide +kernel))).trans h199) (by omega) (by omega) (by omega) (by omega) (h571) (CT_eq h574 h578.symm) (by rw [h578]; exact h576) (o577)
                    · refine En_Ps 2 (pc' := 120) (lv' := [(0, .ref 3), (1, .ref a), (2, .int y47)]) (st' := [.ref a, .ref 3]) rfl ?_
                      refine En_callV rfl rfl rfl rfl rfl rfl rfl rfl tgz_3 (by decide +kernel) rfl (c_70x σ195 h196 a ha y48 h198 y50 h200 (by omega) h237 (by omega) hP (FXP_fr hP hX h197 (by decide +kernel)) h252) (by decide) (by decide) (fun v580 σ581 h579 => ?_)
                      obtain ⟨h582, h583, z585, h586, rfl, h584⟩ := h579
                      have h587 := h584.2.2.2.2.2
                      have h588 := Fr_trans h197 h583 (by decide +kernel)
                      have h589 := OTH_fr h214 h583 (by decide +kernel)
                      obtain ⟨S590, h591⟩ : ∃ q : PS, q = fTwin By Nb S235 := ⟨_, rfl⟩
                      have h592 : CT By Nb σ581 S590 := by rw [h591]; exact h587.1
                      have h593 := CT_k h592 h586
                      have h594 : Imp (S590.1 = 0) (KN σ581 a S590.2.2.2 (act S590.2.2.2)) := fun z => by rw [h591] at z ⊢; exact h587.2 z
                      have o595 : OUT σ0 σ581 a := OUT_tr h216 h584.1
                      refine En_Ps 1 (pc' := 199) (lv' := [(0, .ref 3), (1, .ref a), (2, .int y47)]) (st' := []) rfl ?_
                      have h596 : fL1 By Nb S235 = S590 := by rw [h591]; exact (fL1_1 (by omega)).trans (fNx_17 (by omega) (by omega) (by omega) (by omega))
                      exact keyj199 σ581 z585 y50 y49 h582 h588 h586 (by omega) (by omega) ((h583 _ _ (inW ha (by decide +kernel))).trans h200) (by omega) (by omega) ((h583 _ _ (inW ha (by decide +kernel))).trans h199) (by omega) (by omega) (by omega) (by omega) (h589) (CT_eq h592 h596.symm) (by rw [h596]; exact h594) (o595)
                  · refine En_Ps 2 (pc' := 103) (lv' := [(0, .ref 3), (1, .ref a), (2, .int y47)]) (st' := [.ref a, .ref 3]) rfl ?_
                    refine En_callV rfl rfl rfl rfl rfl rfl rfl rfl tgz_3 (by decide +kernel) rfl (c_64x σ195 h196 a ha y48 h198 y50 h200 (by omega) h237 (by omega) hP (FXP_fr hP hX h197 (by decide +kernel)) h252) (by decide) (by decide) (fun v598 σ599 h597 => ?_)
                    obtain ⟨h600, h601, z603, h604, rfl, h602⟩ := h597
                    have h605 := h602.2.2.2.2.2
                    have h606 := Fr_trans h197 h601 (by decide +kernel)
                    have h607 := OTH_fr h214 h601 (by decide +kernel)
                    obtain ⟨S608, h609⟩ : ∃ q : PS, q = fExam By Nb S235 := ⟨_, rfl⟩
                    have h610 : CT By Nb σ599 S608 := by rw [h609]; exact h605.1
                    have h611 := CT_k h610 h604
                    have h612 : Imp (S608.1 = 0) (KN σ599 a S608.2.2.2 (act S608.2.2.2)) := fun z => by rw [h609] at z ⊢; exact h605.2 z
                    have o613 : OUT σ0 σ599 a := OUT_tr h216 h602.1
                    refine En_Ps 1 (pc' := 199) (lv' := [(0, .ref 3), (1, .ref a), (2, .int y47)]) (st' := []) rfl ?_
                    have h614 : fL1 By Nb S235 = S608 := by rw [h609]; exact (fL1_1 (by omega)).trans (fNx_3 (by omega) (by omega) (by omega))
                    exact keyj199 σ599 z603 y50 y49 h600 h606 h604 (by omega) (by omega) ((h601 _ _ (inW ha (by decide +kernel))).trans h200) (by omega) (by omega) ((h601 _ _ (inW ha (by decide +kernel))).trans h199) (by omega) (by omega) (by omega) (by omega) (h607) (CT_eq h610 h614.symm) (by rw [h614]; exact h612) (o613)
                · refine En_Ps 2 (pc' := 86) (lv' := [(0, .ref 3), (1, .ref a), (2, .int y47)]) (st' := [.ref a, .ref 3]) rfl ?_
                  refine En_callV rfl rfl rfl rfl rfl rfl rfl rfl tgz_3 (by decide +kernel) rfl (c_67x σ195 h196 a ha y48 h198 y50 h200 (by omega) h237 (by omega) hP (FXP_fr hP hX h197 (by decide +kernel)) h252) (by decide) (by decide) (fun v616 σ617 h615 => ?_)
                  obtain ⟨h618, h619, z621, h622, rfl, h620⟩ := h615
                  have h623 := h620.2.2.2.2.2
                  have h624 := Fr_trans h197 h619 (by decide +kernel)
                  have h625 := OTH_fr h214 h619 (by decide +kernel)
                  obtain ⟨S626, h627⟩ : ∃ q : PS, q = fLesson By Nb S235 := ⟨_, rfl⟩
                  have h628 : CT By Nb σ617 S626 := by rw [h627]; exact h623.1
                  have h629 := CT_k h628 h622
                  have h630 : Imp (S626.1 = 0) (KN σ617 a S626.2.2.2 (act S626.2.2.2)) := fun z => by rw [h627] at z ⊢; exact h623.2 z
                  have o631 : OUT σ0 σ617 a := OUT_tr h216 h620.1
                  refine En_Ps 1 (pc' := 199) (lv' := [(0, .ref 3), (1, .ref a), (2, .int y47)]) (st' := []) rfl ?_
                  have h632 : fL1 By Nb S235 = S626 := by rw [h627]; exact (fL1_1 (by omega)).trans (fNx_6 (by omega) (by omega))
                  exact keyj199 σ617 z621 y50 y49 h618 h624 h622 (by omega) (by omega) ((h619 _ _ (inW ha (by decide +kernel))).trans h200) (by omega) (by omega) ((h619 _ _ (inW ha (by decide +kernel))).trans h199) (by omega) (by omega) (by omega) (by omega) (h625) (CT_eq h628 h632.symm) (by rw [h632]; exact h630) (o631)
              · refine En_Ps 2 (pc' := 69) (lv' := [(0, .ref 3), (1, .ref a), (2, .int y47)]) (st' := [.ref a, .ref 3]) rfl ?_
                refine En_callV rfl rfl rfl rfl rfl rfl rfl rfl tgz_3 (by decide +kernel) rfl (c_63x σ195 h196 a ha y48 h198 y50 h200 (by omega) h237 (by omega) hP (FXP_fr hP hX h197 (by decide +kernel)) h252) (by decide) (by decide) (fun v634 σ635 h633 => ?_)
                obtain ⟨h636, h637, z639, h640, rfl, h638⟩ := h633
                have h641 := h638.2.2.2.2.2
                have h642 := Fr_trans h197 h637 (by decide +kernel)
                have h643 := OTH_fr h214 h637 (by decide +kernel)
                obtain ⟨S644, h645⟩ : ∃ q : PS, q = fDoor By Nb S235 := ⟨_, rfl⟩
                have h646 : CT By Nb σ635 S644 := by rw [h645]; exact h641.1
                have h647 := CT_k h646 h640
                have h648 : Imp (S644.1 = 0) (KN σ635 a S644.2.2.2 (act S644.2.2.2)) := fun z => by rw [h645] at z ⊢; exact h641.2 z
                have o649 : OUT σ0 σ635 a := OUT_tr h216 h638.1
                refine En_Ps 1 (pc' := 199) (lv' := [(0, .ref 3), (1, .ref a), (2, .int y47)]) (st' := []) rfl ?_
                have h650 : fL1 By Nb S235 = S644 := by rw [h645]; exact (fL1_1 (by omega)).trans (fNx_2 (by omega))
                exact keyj199 σ635 z639 y50 y49 h636 h642 h640 (by omega) (by omega) ((h637 _ _ (inW ha (by decide +kernel))).trans h200) (by omega) (by omega) ((h637 _ _ (inW ha (by decide +kernel))).trans h199) (by omega) (by omega) (by omega) (by omega) (h643) (CT_eq h646 h650.symm) (by rw [h650]; exact h648) (o649)
            · refine En_Ps 2 (pc' := 52) (lv' := [(0, .ref 3), (1, .ref a), (2, .int y47)]) (st' := [.ref a, .ref 3]) rfl ?_
              refine En_callV rfl rfl rfl rfl rfl rfl rfl rfl tgz_3 (by decide +kernel) rfl (c_65x σ195 h196 a ha y48 h198 h237 (by omega) hP (FXP_fr hP hX h197 (by decide +kernel)) h252) (by decide) (by decide) (fun v652 σ653 h651 => ?_)
              obtain ⟨h654, h655, z657, h658, z659, h660, rfl, h656⟩ := h651
              have h661 := h656.2.2.2.2.2.2.2.2
              have h662 := Fr_trans h197 h655 (by decide +kernel)
              have h663 := OTH_tr h214 h661.1
              obtain ⟨S664, h665⟩ : ∃ q : PS, q = fFirst By Nb S235 := ⟨_, rfl⟩
              have h666 : CT By Nb σ653 S664 := by rw [h665]; exact h661.2.1
              have h667 := CT_k h666 h658
              have h668 : Imp (S664.1 = 0) (KN σ653 a S664.2.2.2 (act S664.2.2.2)) := fun z => by rw [h665] at z ⊢; exact h661.2.2 z
              have o669 : OUT σ0 σ653 a := OUT_tr h216 h656.1
              refine En_Ps 1 (pc' := 199) (lv' := [(0, .ref 3), (1, .ref a), (2, .int y47)]) (st' := []) rfl ?_
              have h670 : fL1 By Nb S235 = S664 := by rw [h665]; exact fL1_0 (by omega)
              exact keyj199 σ653 z657 z659 y49 h654 h662 h658 (by omega) (by omega) h660 (by omega) (by omega) ((h655 _ _ (inW ha (by decide +kernel))).trans h199) (by omega) (by omega) (by omega) (by omega) (h663) (CT_eq h666 h670.symm) (by rw [h670]; exact h668) (o669)
  have := (by decide : (Int32.ofInt 0).toInt = 0)
  have := (by decide : (Int32.ofInt 0).toInt = 0)
  refine En_lv (lv := [(0, .ref 3), (1, .ref a), (2, .int ((Int32.ofInt 0)))]) ⟨rfl, rfl, rfl, trivial⟩ ?_
  exact key25 (Int.toNat (1601) + 1) σ38 ((Int32.ofInt 0)) ((Int32.ofInt 0)) z28 z30 h39 h43 ((h40 _ _ (inW tgz_3 (by decide +kernel))).trans ((h26 _ _ (inW tgz_3 (by decide +kernel))).trans ((h19 _ _ (Or.inr (by decide))).trans ((h12 _ _ (Or.inr (by decide))).trans h4)))) ((h40 _ _ (inW ha (by decide +kernel))).trans h29) ((h40 _ _ (inW ha (by decide +kernel))).trans h31) (by omega) (by omega) (by omega) (by omega) (by omega) (by omega) (by omega) (by omega) (by omega) (by omega) (by omega) (by omega) (by omega) (h44) (RLI_0 h42 (by decide) ((h40 _ _ (inW tgz_3 (by decide +kernel))).trans ((h26 _ _ (inW tgz_3 (by decide +kernel))).trans ((h19 _ _ (Or.inr (by decide))).trans ((h12 _ _ (Or.inr (by decide))).trans h4)))) (by decide) ((h40 _ _ (inW tgz_3 (by decide +kernel))).trans ((h26 _ _ (inW tgz_3 (by decide +kernel))).trans ((h19 _ _ (Or.inr (by decide))).trans h11))) (by decide) h45 (by decide)) (o46)

