/-- DoorSchool$Reader.takePart(I)I -/
abbrev P_74x (σ0 : SG) (By : Int → Int) (Nb : Int) (Sp : PS) (a : Int32) (f : Int32) : PO := fun v σ => WT σ ∧ Fr [(3, 1), (3, 2), (3, 3), (3, 4), (3, 5), (3, 6)] σ0 σ ∧ ∃ f1 : Int32, (σ 3)[5]? = some (.int f1) ∧ ∃ ret : Int32, v = some (.int ret) ∧ -ret.toInt - 1 ≤ 0 ∧ ret.toInt - 15 ≤ 0 ∧ -f1.toInt ≤ 0 ∧ f1.toInt - 3 ≤ 0 ∧ -f1.toInt + f.toInt ≤ 0 ∧ f.toInt - f1.toInt ≤ 0 ∧ Imp (f1.toInt ≤ 0) (-ret.toInt ≤ 0 ∧ ret.toInt - 15 ≤ 0) ∧ (CT By Nb σ (tP By Nb a.toInt Sp) ∧ Imp ((tP By Nb a.toInt Sp).1 = 0) (ret.toInt = tV By Nb Sp.2.2.1))
set_option maxRecDepth 10000 in
set_option maxHeartbeats 4000000 in
theorem c_74x {By : Int → Int} {Nb : Int} {Sp : PS} (σ0 : SG) (hσ0 : WT σ0) (a : Int32) (hl_a : (-1) ≤ a.toInt) (hu_a : a.toInt ≤ 15) (f : Int32) (h_f : (σ0 3)[5]? = some (.int f)) (hC : CT By Nb σ0 Sp) (ha : Sp.1 = 0 → 0 ≤ a.toInt) : En 2 43 none mr_74 (P_74x σ0 By Nb Sp a f) 0 [(0, .ref 3), (1, .int a)] [] σ0 := by
  obtain ⟨hl_f, hu_f⟩ := WT_int hσ0 (g := 3) (by decide +kernel) (by decide +kernel) (l := 0) (u := 3) (by decide +kernel) h_f
  have hF0 : Fr [(3, 1), (3, 2), (3, 3), (3, 4), (3, 5), (3, 6)] σ0 σ0 := Fr_rfl
  obtain ⟨z2, h1, h3, h4⟩ := WT_peekI hσ0 tgz_3 (by decide +kernel : FT 3 1 = (0, 0, 4)) (by decide +kernel)
  obtain ⟨z6, h5, h7, h8⟩ := WT_peekI hσ0 tgz_3 (by decide +kernel : FT 3 4 = (0, (-2147483648), 1000000)) (by decide +kernel)
  have h9 := CT_k hC h_f
  have h10 : Imp (Sp.1 = 0) (tK By Nb Sp.2.2.1 = z2.toInt) := CT_t hC h1
  have h11 : Imp (Sp.1 = 0 ∧ tK By Nb Sp.2.2.1 = 2) (z6.toInt = tV By Nb Sp.2.2.1 ∧ 0 ≤ tV By Nb Sp.2.2.1) := fun q => CT_u hC h5 q.1 q.2
  refine En_Ps 3 (pc' := 4) (lv' := [(0, .ref 3), (1, .int a)]) (st' := [.int (((Int8.ofInt 15).toInt32)), .int ((Int32.ofInt 0)), .ref 3]) rfl ?_
  have := (by decide : ((Int32.ofInt 0)).toInt = 0)
  have := (by decide : (((Int8.ofInt 15).toInt32)).toInt = 15)
  refine En_callV rfl rfl rfl rfl rfl rfl rfl rfl tgz_3 (by decide +kernel) rfl (c_58x σ0 hσ0 ((Int32.ofInt 0)) (((Int8.ofInt 15).toInt32)) f h_f hC) (by decide) (by decide) (fun v13 σ14 h12 => ?_)
  obtain ⟨h15, h16, z18, h19, z20, rfl, h17⟩ := h12
  have h21 := h17.2.2.2.2.2.2.2.2.2
  have h22 := Fr_trans hF0 h16 (by decide +kernel)
  have h23 : nH By Nb ((Int32.ofInt 0)).toInt (((Int8.ofInt 15).toInt32)).toInt Sp = nH By Nb (0) (15) Sp := nH_cg2 (fun zz => by omega) (fun zz => by omega)
  obtain ⟨S24, h25⟩ : ∃ q : PS, q = nH By Nb (0) (15) Sp := ⟨_, rfl⟩
  have h26 : CT By Nb σ14 S24 := by rw [h25]; exact (CT_eq h21.1 h23)
  have h27 := CT_k h26 h19
  have h28 : Imp (S24.1 = 0) (tK By Nb S24.2.2.1 = z2.toInt) := CT_t h26 ((h16 _ _ (inW tgz_3 (by decide +kernel))).trans h1)
  have h29 : Imp (S24.1 = 0 ∧ tK By Nb S24.2.2.1 = 2) (z6.toInt = tV By Nb S24.2.2.1 ∧ 0 ≤ tV By Nb S24.2.2.1) := fun q => CT_u h26 ((h16 _ _ (inW tgz_3 (by decide +kernel))).trans h5) q.1 q.2
  have h30 : Imp (S24.1 = 0) (z20.toInt = tV By Nb Sp.2.2.1) := fun z => Imp_m h21.2 (by rw [h23, ← h25]; exact z)
  have h31 : Imp (S24.1 = 0) (Sp.1 = 0 ∧ tK By Nb Sp.2.2.1 = 2 ∧ 0 ≤ tV By Nb Sp.2.2.1 ∧ tV By Nb Sp.2.2.1 ≤ 15) := fun z => nH_gg (by rw [← h25]; exact z)
  have h32 : S24.2.2.2 = Sp.2.2.2 := by rw [h25]; exact nH_w
  have h33 := Imp_m h17.2.2.2.2.2.2.2.1 (by omega)
  have h34 := Imp_m h17.2.2.2.2.2.2.2.2.1 (by omega)
  refine En_Ps 2 (pc' := 9) (lv' := [(2, .int z20), (0, .ref 3), (1, .int a)]) (st' := [.ref 3]) rfl ?_
  refine En_getK (j := 5) h19 rfl rfl rfl tgz_3 (by decide +kernel) ?_
  refine En_iNe _ rfl rfl (fun h35 => ?_) (fun h35 => ?_)
  · have h36 := Imp_m h17.2.2.2.2.2.2.1 (by first | exact q_e3350da514 h35 h17.2.1 | omega)
    refine En_Ps 1 (pc' := 29) (lv' := [(2, .int z20), (0, .ref 3), (1, .int a)]) (st' := [.ref 3]) rfl ?_
    refine En_getK (j := 5) h19 rfl rfl rfl tgz_3 (by decide +kernel) ?_
    refine En_iNe _ rfl rfl (fun h37 => ?_) (fun hx => by exfalso; have := Imp_m h17.2.2.2.2.2.1 (by omega); omega)
    refine En_Ps 1 (pc' := 40) (lv' := [(2, .int z20), (0, .ref 3), (1, .int a)]) (st' := [.int z20]) rfl ?_
    exact En_ret (v := some (.int z20)) rfl rfl rfl ⟨h15, h22, z18, h19, z20, rfl, ⟨by first | exact q_98e1bded96 h34 | omega, by first | exact q_833ff042c7 h36.1 | omega, by first | exact q_bc42505ae9 h35 h17.2.1 | omega, by first | exact q_c733b715bf h17.2.2.1 | omega, by first | exact q_d22b102a8e h17.2.2.2.1 | omega, by first | exact q_83f4b1e050 h17.2.2.2.1 | omega, fun _ => by have := Imp_m h17.2.2.2.2.2.1 (by omega); omega, (by have q0 : tP By Nb a.toInt Sp = S24 := (by subst h25; first | exact tPc_e (by omega) (by omega) | exact tPc_a (by omega) | exact tPc_b (by omega)); rw [q0]; exact ⟨h26, fun zz => by (try have i0 := Imp_m h31 (by omega)); (try have i1 := Imp_m h30 (by omega)); (try have i2 := Imp_m h28 (by omega)); (try have i3 := Imp_m h10 (by omega)); (try have i4 := Imp_m h11 (by omega)); (try have i5 := Imp_m h29 (by omega)); (try have i6 := Imp_m h17.2.2.2.2.2.1 (by omega)); omega⟩)⟩⟩
  · have h38 := Imp_m h17.2.2.2.2.2.1 (by first | exact q_c5d285f1b9 h35 | omega)
    try have h39 := Imp_m h31 (by omega)
    try have h40 := Imp_m h30 (by omega)
    try have h41 := Imp_m h28 (by omega)
    try have h42 := Imp_m h10 (by omega)
    try have h43 := Imp_m h11 (by omega)
    try have h44 := Imp_m h29 (by omega)
    refine En_Ps 2 (pc' := 17) (lv' := [(2, .int z20), (0, .ref 3), (1, .int a)]) (st' := [.int a, .int z20]) rfl ?_
    have h45 : sbI (z20.toInt) a.toInt = sbI (tV By Nb Sp.2.2.1) a.toInt := sbI_cg (by omega) rfl
    refine En_Ps 2 (pc' := 19) (lv' := [(2, .int z20), (0, .ref 3), (1, .int a)]) (st' := [.int ((a ^^^ ((Int32.ofInt (-1))))), .int z20]) rfl ?_
    refine En_nam (fun z46 h47 => ?_)
    refine En_Ps 1 (pc' := 20) (lv' := [(2, .int z20), (0, .ref 3), (1, .int a)]) (st' := [.int ((z20 &&& z46))]) rfl ?_
    refine En_nam (fun z48 h49 => ?_)
    obtain ⟨h50, h51⟩ := andn_rng h49 rfl (by omega) (by omega : _ ≤ (15 : Int))
    refine En_iEq _ rfl rfl (fun h52 => ?_) (fun h52 => ?_)
    · have := sub_sbw h49 h47 rfl rfl (by omega) (by omega) (by omega)
      refine En_Ps 1 (pc' := 29) (lv' := [(2, .int z20), (0, .ref 3), (1, .int a)]) (st' := [.ref 3]) rfl ?_
      refine En_getK (j := 5) h19 rfl rfl rfl tgz_3 (by decide +kernel) ?_
      refine En_iNe _ rfl rfl (fun hx => by exfalso; have := Imp_m h17.2.2.2.2.2.2.1 (by omega); omega) (fun h53 => ?_)
      refine En_Ps 1 (pc' := 36) (lv' := [(2, .int z20), (0, .ref 3), (1, .int a)]) (st' := [.ref 3]) rfl ?_
      obtain ⟨z55, h54, h56, h57⟩ := WT_peekI h15 tgz_3 (by decide +kernel : FT 3 3 = (0, 0, 1600)) (by decide +kernel)
      refine En_callV rfl rfl rfl rfl rfl rfl rfl rfl tgz_3 (by decide +kernel) rfl (c_72x σ14 h15 z55 h54 h26.1 (CT_at h26 (by omega) h54)) (by decide) (by decide) (fun v59 σ60 h58 => ?_)
      obtain ⟨h61, h62, rfl, h63⟩ := h58
      have h64 := h63
      have h65 := Fr_trans h22 h62 (by decide +kernel)
      obtain ⟨S66, h67⟩ : ∃ q : PS, q = adv By Nb S24 := ⟨_, rfl⟩
      have h68 : CT By Nb σ60 S66 := by rw [h67]; exact (CT_adv h26 (by omega) h54 h62 (by decide +kernel) h64.2)
      have h69 := CT_k h68 ((h62 _ _ (inW tgz_3 (by decide +kernel))).trans h19)
      have h70 : S66.2.2.2 = S24.2.2.2 := by rw [h67]; exact adv_w
      have h71 : S66.1 = S24.1 := by rw [h67]; exact adv_1
      refine En_Ps 1 (pc' := 40) (lv' := [(2, .int z20), (0, .ref 3), (1, .int a)]) (st' := [.int z20]) rfl ?_
      exact En_ret (v := some (.int z20)) rfl rfl rfl ⟨h61, h65, z18, ((h62 _ _ (inW tgz_3 (by decide +kernel))).trans h19), z20, rfl, ⟨by first | exact q_98e1bded96 h34 | omega, by omega, by first | exact q_a555021d16 h17.2.1 | omega, by first | exact q_bd3fa30443 h35 | omega, by first | exact q_d22b102a8e h17.2.2.2.1 | omega, by first | exact q_83f4b1e050 h17.2.2.2.1 | omega, fun _ => by omega, (by have q0 : tP By Nb a.toInt Sp = S66 := (by subst h67; subst h25; first | exact tPc_e (by omega) (by omega) | exact tPc_a (by omega) | exact tPc_b (by omega)); rw [q0]; exact ⟨h68, fun zz => by (try have i0 := Imp_m h31 (by omega)); (try have i1 := Imp_m h30 (by omega)); (try have i2 := Imp_m h28 (by omega)); (try have i3 := Imp_m h10 (by omega)); (try have i4 := Imp_m h11 (by omega)); (try have i5 := Imp_m h29 (by omega)); (try have i6 := Imp_m h17.2.2.2.2.2.2.1 (by omega)); omega⟩)⟩⟩
    · have := sub_sbw h49 h47 rfl rfl (by omega) (by omega) (by omega)
      refine En_Ps 2 (pc' := 25) (lv' := [(2, .int z20), (0, .ref 3), (1, .int a)]) (st' := [.int ((Int32.ofInt 2)), .ref 3]) rfl ?_
      have := (by decide : ((Int32.ofInt 2)).toInt = 2)
      refine En_callV rfl rfl rfl rfl rfl rfl rfl rfl tgz_3 (by decide +kernel) rfl (c_54x σ14 h15 ((Int32.ofInt 2)) (geI (by decide : (Int32.ofInt 2).toInt = 2) (by decide)) (leI (by decide : (Int32.ofInt 2).toInt = 2) (by decide)) z18 h19 h26) (by decide) (by decide) (fun v73 σ74 h72 => ?_)
      obtain ⟨h75, h76, z78, h79, rfl, h77⟩ := h72
      have h80 := h77.2.2.2.2.2
      have h81 := Fr_trans h22 h76 (by decide +kernel)
      obtain ⟨S82, h83⟩ : ∃ q : PS, q = err By Nb 2 S24 := ⟨_, rfl⟩
      have h84 : CT By Nb σ74 S82 := by rw [h83]; exact (CT_eq h80 (err_cg (by omega)))
      have h85 := CT_k h84 h79
      have h86 : Imp (S82.1 = 0) (tK By Nb S82.2.2.1 = z2.toInt) := CT_t h84 ((h76 _ _ (inW tgz_3 (by decide +kernel))).trans ((h16 _ _ (inW tgz_3 (by decide +kernel))).trans h1))
      have h87 : Imp (S82.1 = 0 ∧ tK By Nb S82.2.2.1 = 2) (z6.toInt = tV By Nb S82.2.2.1 ∧ 0 ≤ tV By Nb S82.2.2.1) := fun q => CT_u h84 ((h76 _ _ (inW tgz_3 (by decide +kernel))).trans ((h16 _ _ (inW tgz_3 (by decide +kernel))).trans h5)) q.1 q.2
      have h88 : S82.2.2.2 = S24.2.2.2 := by rw [h83]; exact err_w
      have h89 := Imp_m h77.2.2.2.1 (by first | exact q_c5d285f1b9 h35 | omega)
      refine En_Ps 1 (pc' := 29) (lv' := [(2, .int z20), (0, .ref 3), (1, .int a)]) (st' := [.ref 3]) rfl ?_
      refine En_getK (j := 5) h79 rfl rfl rfl tgz_3 (by decide +kernel) ?_
      refine En_iNe _ rfl rfl (fun h90 => ?_) (fun hx => by exfalso; have := Imp_m h17.2.2.2.2.2.2.1 (by omega); have := Imp_m h77.2.2.2.2.1 (by omega); omega)
      refine En_Ps 1 (pc' := 40) (lv' := [(2, .int z20), (0, .ref 3), (1, .int a)]) (st' := [.int z20]) rfl ?_
      exact En_ret (v := some (.int z20)) rfl rfl rfl ⟨h75, h81, z78, h79, z20, rfl, ⟨by first | exact q_98e1bded96 h34 | omega, by omega, by first | exact q_1a6ee862c1 h77.1 | omega, by first | exact q_c733b715bf h77.2.1 | omega, by first | exact q_ccc3bb8fc9 h17.2.2.2.1 h77.2.2.1 | omega, by first | exact q_28bfca2c13 h17.2.2.2.1 h77.2.2.1 | omega, fun _ => by omega, (by have q0 : tP By Nb a.toInt Sp = S82 := (by subst h83; subst h25; first | exact tPc_e (by omega) (by omega) | exact tPc_a (by omega) | exact tPc_b (by omega)); rw [q0]; exact ⟨h84, fun zz => by (try have i0 := Imp_m h86 (by omega)); (try have i1 := Imp_m h31 (by omega)); (try have i2 := Imp_m h30 (by omega)); (try have i3 := Imp_m h28 (by omega)); (try have i4 := Imp_m h10 (by omega)); (try have i5 := Imp_m h11 (by omega)); (try have i6 := Imp_m h29 (by omega)); (try have i7 := Imp_m h87 (by omega)); (try have i8 := Imp_m h17.2.2.2.2.2.2.1 (by omega)); (try have i9 := Imp_m h77.2.2.2.2.1 (by omega)); omega⟩)⟩⟩
/-- DoorSchool$Reader.readOwner(LDoorSchool$Plan;)V -/
abbrev P_68x (σ0 : SG) (By : Int → Int) (Nb : Int) (Sp : PS) (a : Nat) (f : Int32) (sg : Int32) : PO := fun v σ => WT σ ∧ Fr [(3, 1), (3, 2), (3, 3), (3, 4), (3, 5), (3, 6), (18, 6), (18, 7)] σ0 σ ∧ ∃ f1 : Int32, (σ 3)[5]? = some (.int f1) ∧ v = none ∧ OUT σ0 σ a ∧ -f1.toInt ≤ 0 ∧ f1.toInt - 3 ≤ 0 ∧ -f1.toInt + f.toInt ≤ 0 ∧ f.toInt - f1.toInt ≤ 0 ∧ (CT By Nb σ (fOwner By Nb Sp) ∧ ((fOwner By Nb Sp).1 = 0 → KN σ a (fOwner By Nb Sp).2.2.2 (act (fOwner By Nb Sp).2.2.2)))
set_option maxRecDepth 10000 in
set_option maxHeartbeats 4000000 in
theorem c_68x {By : Int → Int} {Nb : Int} {Sp : PS} (σ0 : SG) (hσ0 : WT σ0) (a : Nat) (ha : TG a = 18) (f : Int32) (h_f : (σ0 3)[5]? = some (.int f)) (sg : Int32) (h_sg : (σ0 a)[1]? = some (.int sg)) (hp0 : -sg.toInt ≤ 0) (hC : CT By Nb σ0 Sp) (hg : Sp.1 = 0) (hP : PLA a) (hX : FXP σ0 a) (hK : KN σ0 a Sp.2.2.2 (act Sp.2.2.2)) : En 3 66 none mr_68 (P_68x σ0 By Nb Sp a f sg) 0 [(0, .ref 3), (1, .ref a)] [] σ0 := by
  obtain ⟨hl_f, hu_f⟩ := WT_int hσ0 (g := 3) (by decide +kernel) (by decide +kernel) (l := 0) (u := 3) (by decide +kernel) h_f
  obtain ⟨hl_sg, hu_sg⟩ := WT_int hσ0 (g := 18) ha (by decide +kernel) (l := (-1)) (u := 4) (by decide +kernel) h_sg
  have hF0 : Fr [(3, 1), (3, 2), (3, 3), (3, 4), (3, 5), (3, 6), (18, 6), (18, 7)] σ0 σ0 := Fr_rfl
  have h1 := CT_k hC h_f
  have h2 : Sp.2.2.2 0 = sg.toInt := KN_v hK (Or.inl (by decide)) (by decide) (by decide) (by rw [lcO_lt (by decide) (by decide), Nat.add_zero]) rfl h_sg
  have h3 : pI (Sp.2.2.2 0) = pI (sg.toInt) := by rw [h2]
  refine En_Ps 1 (pc' := 1) (lv' := [(0, .ref 3), (1, .ref a)]) (st' := [.ref 3]) rfl ?_
  obtain ⟨z5, h4, h6, h7⟩ := WT_peekI hσ0 tgz_3 (by decide +kernel : FT 3 3 = (0, 0, 1600)) (by decide +kernel)
  refine En_callV rfl rfl rfl rfl rfl rfl rfl rfl tgz_3 (by decide +kernel) rfl (c_72x σ0 hσ0 z5 h4 hC.1 (CT_at hC (by omega) h4)) (by decide) (by decide) (fun v9 σ10 h8 => ?_)
  obtain ⟨h11, h12, rfl, h13⟩ := h8
  have h14 := h13
  have h15 := Fr_trans hF0 h12 (by decide +kernel)
  obtain ⟨S16, h17⟩ : ∃ q : PS, q = adv By Nb Sp := ⟨_, rfl⟩
  have h18 : CT By Nb σ10 S16 := by rw [h17]; exact (CT_adv hC (by omega) h4 h12 (by decide +kernel) h14.2)
  have h19 := CT_k h18 ((h12 _ _ (inW tgz_3 (by decide +kernel))).trans h_f)
  have h20 : S16.2.2.2 = Sp.2.2.2 := by rw [h17]; exact adv_w
  have h21 : S16.1 = Sp.1 := by rw [h17]; exact adv_1
  have h22 := KN_fr hP hK h12 (by decide +kernel)
  have h23 : S16.2.2.2 = Sp.2.2.2 := h20.trans (rfl : Sp.2.2.2 = Sp.2.2.2)
  have o24 : OUT σ0 σ10 a := OUT_fr OUT_0 h12 (by decide +kernel)
  refine En_Ps 3 (pc' := 7) (lv' := [(0, .ref 3), (1, .ref a)]) (st' := [.ref a, .int ((Int32.ofInt 0)), .ref 3]) rfl ?_
  refine En_callV rfl rfl rfl rfl rfl rfl rfl rfl ha (by decide +kernel) rfl (c_51x σ10 h11 a ha sg ((h12 _ _ (inW ha (by decide +kernel))).trans h_sg) (by first | exact q_a555021d16 hp0 | omega)) (by decide) (by decide) (fun v26 σ27 h25 => ?_)
  obtain ⟨h28, h29, z31, rfl, h30⟩ := h25
  have h32 := h30.2.2
  obtain rfl : σ10 = σ27 := Fr_nil h29
  have h33 := h32
  have h34 : pI (S16.2.2.2 0) = z31.toInt := by rw [h23]; omega
  refine En_Ps 2 (pc' := 12) (lv' := [(0, .ref 3), (1, .ref a)]) (st' := [.int ((z31 - ((Int32.ofInt 1)))), .int ((Int32.ofInt 0)), .ref 3]) rfl ?_
  refine En_top (subI rfl (by decide : (Int32.ofInt 1).toInt = 1) (by first | exact q_ead043ab48 h30.1 | omega) (by first | exact q_9b40fa289d h30.2.1 | omega)) (fun z35 h36 => ?_)
  have := (by decide : ((Int32.ofInt 0)).toInt = 0)
  refine En_callV rfl rfl rfl rfl rfl rfl rfl rfl tgz_3 (by decide +kernel) rfl (c_73x σ10 h11 ((Int32.ofInt 0)) z35 f ((h12 _ _ (inW tgz_3 (by decide +kernel))).trans h_f) h18) (by decide) (by decide) (fun v38 σ39 h37 => ?_)
  obtain ⟨h40, h41, z43, h44, z45, rfl, h42⟩ := h37
  have h46 := h42.2.2.2.2.2.2.2.2.2
  have h47 := Fr_trans h15 h41 (by decide +kernel)
  have h48 : tN By Nb ((Int32.ofInt 0)).toInt z35.toInt S16 = tN By Nb (0) (pI (S16.2.2.2 0) - 1) S16 := tN_cg2 (fun zz => by omega) (fun zz => by omega)
  obtain ⟨S49, h50⟩ : ∃ q : PS, q = tN By Nb (0) (pI (S16.2.2.2 0) - 1) S16 := ⟨_, rfl⟩
  have h51 : CT By Nb σ39 S49 := by rw [h50]; exact (CT_eq h46.1 h48)
  have h52 := CT_k h51 h44
  have h53 : Imp (S49.1 = 0) (z45.toInt = tV By Nb S16.2.2.1) := fun z => Imp_m h46.2 (by rw [h48, ← h50]; exact z)
  have h54 : Imp (S49.1 = 0) (S16.1 = 0 ∧ tK By Nb S16.2.2.1 = 2 ∧ 0 ≤ tV By Nb S16.2.2.1 ∧ tV By Nb S16.2.2.1 ≤ pI (S16.2.2.2 0) - 1) := fun z => tN_gg (by rw [← h50]; exact z)
  have h55 : S49.2.2.2 = S16.2.2.2 := by rw [h50]; exact tN_w
  have h56 := KN_fr hP h22 h41 (by decide +kernel)
  have h57 : S49.2.2.2 = Sp.2.2.2 := h55.trans h23
  have o58 : OUT σ0 σ39 a := OUT_fr o24 h41 (by decide +kernel)
  have h59 := Imp_m h42.2.2.2.2.2.2.2.1 (by first | exact q_81610a3c5e h36 h30.1 | omega)
  have h60 := Imp_m h42.2.2.2.2.2.2.2.2.1 (by omega)
  refine En_Ps 3 (pc' := 18) (lv' := [(2, .int z45), (0, .ref 3), (1, .ref a)]) (st' := [.int z45, .ref 3]) rfl ?_
  refine En_callV rfl rfl rfl rfl rfl rfl rfl rfl tgz_3 (by decide +kernel) rfl (c_74x σ39 h40 z45 (geI rfl (by first | exact q_ce01e7a6da h60 | omega)) (leI rfl (by first | exact q_e1ef427644 h59 h36 h30.2.1 | omega)) z43 h44 h51 (fun zz => by (try have i0 := Imp_m h54 (by omega)); (try have i1 := Imp_m h53 (by omega)); (try have i2 := Imp_m h42.2.2.2.2.2.1 (by omega)); (try have i3 := Imp_m h42.2.2.2.2.2.2.1 (by omega)); omega)) (by decide) (by decide) (fun v62 σ63 h61 => ?_)
  obtain ⟨h64, h65, z67, h68, z69, rfl, h66⟩ := h61
  have h70 := h66.2.2.2.2.2.2.2
  have h71 := Fr_trans h47 h65 (by decide +kernel)
  have h72 : tP By Nb z45.toInt S49 = tP By Nb (tV By Nb S16.2.2.1) S49 := tP_cg2 (fun zz => by (try have i0 := Imp_m h54 (by omega)); (try have i1 := Imp_m h53 (by omega)); (try have i2 := Imp_m h42.2.2.2.2.2.1 (by omega)); (try have i3 := Imp_m h42.2.2.2.2.2.2.1 (by omega)); omega)
  obtain ⟨S73, h74⟩ : ∃ q : PS, q = tP By Nb (tV By Nb S16.2.2.1) S49 := ⟨_, rfl⟩
  have h75 : CT By Nb σ63 S73 := by rw [h74]; exact (CT_eq h70.1 h72)
  have h76 := CT_k h75 h68
  have h77 : Imp (S73.1 = 0) (z69.toInt = tV By Nb S49.2.2.1) := fun z => Imp_m h70.2 (by rw [h72, ← h74]; exact z)
  have h78 : Imp (S73.1 = 0) (S49.1 = 0) := fun z => tP_g (by rw [← h74]; exact z)
  have h79 : S73.2.2.2 = S49.2.2.2 := by rw [h74]; exact tP_w
  have h80 := KN_fr hP h56 h65 (by decide +kernel)
  have h81 : S73.2.2.2 = Sp.2.2.2 := h79.trans h57
  have o82 : OUT σ0 σ63 a := OUT_fr o58 h65 (by decide +kernel)
  refine En_Ps 2 (pc' := 23) (lv' := [(3, .int z69), (2, .int z45), (0, .ref 3), (1, .ref a)]) (st' := [.ref 3]) rfl ?_
  refine En_getK (j := 5) h68 rfl rfl rfl tgz_3 (by decide +kernel) ?_
  refine En_iNe _ rfl rfl (fun h83 => ?_) (fun h83 => ?_)
  · have h84 : fOwner By Nb Sp = S73 := by unfold fOwner fRule; (try dsimp only); first | (rw [← h17, ← h50, ← h74]; first | done | rfl) | (rw [← h17, ← h50, ← h74]; rw [if_pos (by omega)]; first | done | rfl) | (rw [← h17, ← h50, ← h74]; rw [if_neg (by omega)]; first | done | rfl) | (rw [← h17, ← h50, ← h74]; rw [if_neg (by omega), if_pos (by omega)]; first | done | rfl) | (rw [← h17, ← h50, ← h74]; rw [if_neg (by omega), if_neg (by omega)]; first | done | rfl) | (rw [← h17, ← h50, ← h74]; rw [if_neg (by omega), if_neg (by omega), if_neg (by omega)]; first | done | rfl)
    exact En_ret (v := none) rfl rfl rfl ⟨h64, h71, z67, h68, rfl, ⟨o82, by first | exact q_bc42505ae9 h83 h66.2.2.1 | omega, by first | exact q_c733b715bf h66.2.2.2.1 | omega, by first | exact q_ccc3bb8fc9 h42.2.2.2.1 h66.2.2.2.2.1 | omega, by first | exact q_28bfca2c13 h42.2.2.2.1 h66.2.2.2.2.1 | omega, (by rw [h84]; exact ⟨h75, fun z => absurd z (by omega)⟩)⟩⟩
  · have h85 := Imp_m h42.2.2.2.2.2.1 (by first | exact q_31d5f588b1 h66.2.2.2.2.1 h83 | omega)
    have h86 := Imp_m h66.2.2.2.2.2.2.1 (by first | exact q_c5d285f1b9 h83 | omega)
    try have h87 := Imp_m h78 (by omega)
    try have h88 := Imp_m h77 (by omega)
    try have h89 := Imp_m h54 (by omega)
    try have h90 := Imp_m h53 (by omega)
    refine En_Ps 2 (pc' := 31) (lv' := [(3, .int z69), (2, .int z45), (0, .ref 3), (1, .ref a)]) (st' := [.int z45, .ref a]) rfl ?_
    refine En_put (j := 6) rfl rfl rfl ha (by decide +kernel) rfl (vI (l := 0) (u := 15) (by decide +kernel) rfl (by omega) (by first | exact q_e1ef427644 h59 h36 h30.2.1 | omega)) h64 h71 (by decide +kernel) (fun σ91 h92 h93 h94 h95 => ?_)
    obtain ⟨S96, h97⟩ : ∃ q : PS, q = wst S73 (8) ((tV By Nb S16.2.2.1)) := ⟨_, rfl⟩
    have h98 : CT By Nb σ91 S96 := by rw [h97]; exact CT_wst (CT_ne h75 h95 (by have := hP; unfold PLA at this; omega))
    have h99 : KN σ91 a (uPd Sp.2.2.2 (8) ((tV By Nb S16.2.2.1))) (fun t => (act Sp.2.2.2 t ∨ t = 8)) := KN_st h80 h94 h95 (by omega) (by omega) (by rw [lcO_lt (by decide) (by decide), Nat.add_zero]) (by decide) (by (try have i0 := Imp_m h78 (by omega)); (try have i1 := Imp_m h77 (by omega)); (try have i2 := Imp_m h54 (by omega)); (try have i3 := Imp_m h53 (by omega)); (try have i4 := Imp_m h42.2.2.2.2.2.2.1 (by omega)); omega)
    have h100 : S96.2.2.2 = (uPd Sp.2.2.2 (8) ((tV By Nb S16.2.2.1))) := by rw [h97]; show uPd S73.2.2.2 _ _ = _; rw [h81]
    have h101 : S96.1 = S73.1 := by rw [h97]; rfl
    have h102 := CT_k h98 ((h95 _ _ (Or.inr (by decide))).trans h68)
    have o103 : OUT σ0 σ91 a := OUT_st o82 h95 (by omega)
    refine En_Ps 2 (pc' := 36) (lv' := [(3, .int z69), (2, .int z45), (0, .ref 3), (1, .ref a)]) (st' := [.int z69, .ref a]) rfl ?_
    refine En_put (j := 7) rfl rfl rfl ha (by decide +kernel) rfl (vI (l := 0) (u := 15) (by decide +kernel) rfl (by first | exact q_ef1e8e38bf h86.1 | omega) (by first | exact q_5a5f544404 h66.2.1 | omega)) h92 h93 (by decide +kernel) (fun σ104 h105 h106 h107 h108 => ?_)
    obtain ⟨S109, h110⟩ : ∃ q : PS, q = wst S96 (8 + 1) ((tV By Nb S49.2.2.1)) := ⟨_, rfl⟩
    have h111 : CT By Nb σ104 S109 := by rw [h110]; exact CT_wst (CT_ne h98 h108 (by have := hP; unfold PLA at this; omega))
    have h112 : KN σ104 a (uPd (uPd Sp.2.2.2 (8) ((tV By Nb S16.2.2.1))) (8 + 1) ((tV By Nb S49.2.2.1))) (fun t => ((act Sp.2.2.2 t ∨ t = 8) ∨ t = 8 + 1)) := KN_st h99 h107 h108 (by omega) (by omega) (by rw [lcO_lt (by decide) (by decide), Nat.add_zero]) (by decide) (by (try have i0 := Imp_m h78 (by omega)); (try have i1 := Imp_m h77 (by omega)); (try have i2 := Imp_m h54 (by omega)); (try have i3 := Imp_m h53 (by omega)); (try have i4 := Imp_m h42.2.2.2.2.2.2.1 (by omega)); omega)
    have h113 : S109.2.2.2 = (uPd (uPd Sp.2.2.2 (8) ((tV By Nb S16.2.2.1))) (8 + 1) ((tV By Nb S49.2.2.1))) := by rw [h110]; show uPd S96.2.2.2 _ _ = _; rw [h100]
    have h114 : S109.1 = S96.1 := by rw [h110]; rfl
    have h115 := CT_k h111 ((h108 _ _ (Or.inr (by decide))).trans ((h95 _ _ (Or.inr (by decide))).trans h68))
    have o116 : OUT σ0 σ104 a := OUT_st o103 h108 (by omega)
    have h117 : fOwner By Nb Sp = S109 := by unfold fOwner fRule; (try dsimp only); first | (rw [← h17, ← h50, ← h74, ← h97, ← h110]; first | done | rfl) | (rw [← h17, ← h50, ← h74, ← h97, ← h110]; rw [if_pos (by omega)]; first | done | rfl) | (rw [← h17, ← h50, ← h74, ← h97, ← h110]; rw [if_neg (by omega)]; first | done | rfl) | (rw [← h17, ← h50, ← h74, ← h97, ← h110]; rw [if_neg (by omega), if_pos (by omega)]; first | done | rfl) | (rw [← h17, ← h50, ← h74, ← h97, ← h110]; rw [if_neg (by omega), if_neg (by omega)]; first | done | rfl) | (rw [← h17, ← h50, ← h74, ← h97, ← h110]; rw [if_neg (by omega), if_neg (by omega), if_neg (by omega)]; first | done | rfl)
    exact En_ret (v := none) rfl rfl rfl ⟨h105, h106, z67, ((h108 _ _ (Or.inr (by decide))).trans ((h95 _ _ (Or.inr (by decide))).trans h68)), rfl, ⟨o116, by first | exact q_a555021d16 h66.2.2.1 | omega, by first | exact q_bd3fa30443 h83 | omega, by first | exact q_ccc3bb8fc9 h42.2.2.2.1 h66.2.2.2.2.1 | omega, by first | exact q_28bfca2c13 h42.2.2.2.1 h66.2.2.2.2.1 | omega, (by rw [h117]; exact ⟨h111, fun zz => by rw [h113]; exact KN_sub h112 (fun t t0 t1 y => Or.inl (Or.inl (act_low (by omega) (act_low (by omega) y))))⟩)⟩⟩
/-- DoorSchool$Reader.readHouse(LDoorSchool$Plan;)V -/
abbrev P_66x (σ0 : SG) (By : Int → Int) (Nb : Int) (Sp : PS) (a : Nat) (f : Int32) (sg : Int32) : PO := fun v σ => WT σ ∧ Fr [(3, 1), (3, 2), (3, 3), (3, 4), (3, 5), (3, 6), (18, 8), (23, 0), (24, 0)] σ0 σ ∧ ∃ f1 : Int32, (σ 3)[5]? = some (.int f1) ∧ v = none ∧ OUT σ0 σ a ∧ -f1.toInt ≤ 0 ∧ f1.toInt - 3 ≤ 0 ∧ -f1.toInt + f.toInt ≤ 0 ∧ f.toInt - f1.toInt ≤ 0 ∧ (CT By Nb σ (fHouse By Nb Sp) ∧ ((fHouse By Nb Sp).1 = 0 → KN σ a (fHouse By Nb Sp).2.2.2 (act (fHouse By Nb Sp).2.2.2)))
set_option maxRecDepth 10000 in
set_option maxHeartbeats 4000000 in
theorem c_66x {By : Int → Int} {Nb : Int} {Sp : PS} (σ0 : SG) (hσ0 : WT σ0) (a : Nat) (ha : TG a = 18) (f : Int32) (h_f : (σ0 3)[5]? = some (.int f)) (sg : Int32) (h_sg : (σ0 a)[1]? = some (.int sg)) (hp0 : -sg.toInt ≤ 0) (hC : CT By Nb σ0 Sp) (hg : Sp.1 = 0) (hP : PLA a) (hX : FXP σ0 a) (hK : KN σ0 a Sp.2.2.2 (act Sp.2.2.2)) : En 3 66 none mr_66 (P_66x σ0 By Nb Sp a f sg) 0 [(0, .ref 3), (1, .ref a)] [] σ0 := by
  obtain ⟨hl_f, hu_f⟩ := WT_int hσ0 (g := 3) (by decide +kernel) (by decide +kernel) (l := 0) (u := 3) (by decide +kernel) h_f
  obtain ⟨hl_sg, hu_sg⟩ := WT_int hσ0 (g := 18) ha (by decide +kernel) (l := (-1)) (u := 4) (by decide +kernel) h_sg
  have hF0 : Fr [(3, 1), (3, 2), (3, 3), (3, 4), (3, 5), (3, 6), (18, 8), (23, 0), (24, 0)] σ0 σ0 := Fr_rfl
  have h1 := CT_k hC h_f
  have h2 : Sp.2.2.2 0 = sg.toInt := KN_v hK (Or.inl (by decide)) (by decide) (by decide) (by rw [lcO_lt (by decide) (by decide), Nat.add_zero]) rfl h_sg
  have h3 : pI (Sp.2.2.2 0) = pI (sg.toInt) := by rw [h2]
  obtain ⟨z5, h4, h6, h7⟩ := WT_peekI hσ0 ha (by decide +kernel : FT 18 8 = (0, 0, 4)) (by decide +kernel)
  have h8 : Sp.2.2.2 4 = z5.toInt := KN_v hK (Or.inl (by decide)) (by decide) (by decide) (by rw [lcO_lt (by decide) (by decide), Nat.add_zero]) rfl h4
  refine En_Ps 1 (pc' := 1) (lv' := [(0, .ref 3), (1, .ref a)]) (st' := [.ref a]) rfl ?_
  refine En_getK (j := 8) h4 rfl rfl rfl ha (by decide +kernel) ?_
  refine En_Ps 1 (pc' := 5) (lv' := [(0, .ref 3), (1, .ref a)]) (st' := [.int ((Int32.ofInt 4)), .int z5]) rfl ?_
  refine En_icLt _ rfl (by decide : (Int32.ofInt 4).toInt = 4) rfl (fun h9 => ?_) (fun h9 => ?_)
  · refine En_Ps 1 (pc' := 15) (lv' := [(0, .ref 3), (1, .ref a)]) (st' := [.ref 3]) rfl ?_
    obtain ⟨z11, h10, h12, h13⟩ := WT_peekI hσ0 tgz_3 (by decide +kernel : FT 3 3 = (0, 0, 1600)) (by decide +kernel)
    refine En_callV rfl rfl rfl rfl rfl rfl rfl rfl tgz_3 (by decide +kernel) rfl (c_72x σ0 hσ0 z11 h10 hC.1 (CT_at hC (by omega) h10)) (by decide) (by decide) (fun v15 σ16 h14 => ?_)
    obtain ⟨h17, h18, rfl, h19⟩ := h14
    have h20 := h19
    have h21 := Fr_trans hF0 h18 (by decide +kernel)
    obtain ⟨S22, h23⟩ : ∃ q : PS, q = adv By Nb Sp := ⟨_, rfl⟩
    have h24 : CT By Nb σ16 S22 := by rw [h23]; exact (CT_adv hC (by omega) h10 h18 (by decide +kernel) h20.2)
    have h25 := CT_k h24 ((h18 _ _ (inW tgz_3 (by decide +kernel))).trans h_f)
    have h26 : S22.2.2.2 = Sp.2.2.2 := by rw [h23]; exact adv_w
    have h27 : S22.1 = Sp.1 := by rw [h23]; exact adv_1
    have h28 := KN_fr hP hK h18 (by decide +kernel)
    have h29 : S22.2.2.2 = Sp.2.2.2 := h26.trans (rfl : Sp.2.2.2 = Sp.2.2.2)
    have o30 : OUT σ0 σ16 a := OUT_fr OUT_0 h18 (by decide +kernel)
    refine En_Ps 3 (pc' := 21) (lv' := [(0, .ref 3), (1, .ref a)]) (st' := [.ref a, .int ((Int32.ofInt 0)), .ref 3]) rfl ?_
    refine En_callV rfl rfl rfl rfl rfl rfl rfl rfl ha (by decide +kernel) rfl (c_51x σ16 h17 a ha sg ((h18 _ _ (inW ha (by decide +kernel))).trans h_sg) (by first | exact q_a555021d16 hp0 | omega)) (by decide) (by decide) (fun v32 σ33 h31 => ?_)
    obtain ⟨h34, h35, z37, rfl, h36⟩ := h31
    have h38 := h36.2.2
    obtain rfl : σ16 = σ33 := Fr_nil h35
    have h39 := h38
    have h40 : pI (S22.2.2.2 0) = z37.toInt := by rw [h29]; omega
    refine En_Ps 2 (pc' := 26) (lv' := [(0, .ref 3), (1, .ref a)]) (st' := [.int ((z37 - ((Int32.ofInt 1)))), .int ((Int32.ofInt 0)), .ref 3]) rfl ?_
    refine En_top (subI rfl (by decide : (Int32.ofInt 1).toInt = 1) (by first | exact q_ead043ab48 h36.1 | omega) (by first | exact q_9b40fa289d h36.2.1 | omega)) (fun z41 h42 => ?_)
    have := (by decide : ((Int32.ofInt 0)).toInt = 0)
    refine En_callV rfl rfl rfl rfl rfl rfl rfl rfl tgz_3 (by decide +kernel) rfl (c_73x σ16 h17 ((Int32.ofInt 0)) z41 f ((h18 _ _ (inW tgz_3 (by decide +kernel))).trans h_f) h24) (by decide) (by decide) (fun v44 σ45 h43 => ?_)
    obtain ⟨h46, h47, z49, h50, z51, rfl, h48⟩ := h43
    have h52 := h48.2.2.2.2.2.2.2.2.2
    have h53 := Fr_trans h21 h47 (by decide +kernel)
    have h54 : tN By Nb ((Int32.ofInt 0)).toInt z41.toInt S22 = tN By Nb (0) (pI (S22.2.2.2 0) - 1) S22 := tN_cg2 (fun zz => by omega) (fun zz => by omega)
    obtain ⟨S55, h56⟩ : ∃ q : PS, q = tN By Nb (0) (pI (S22.2.2.2 0) - 1) S22 := ⟨_, rfl⟩
    have h57 : CT By Nb σ45 S55 := by rw [h56]; exact (CT_eq h52.1 h54)
    have h58 := CT_k h57 h50
    have h59 : Imp (S55.1 = 0) (z51.toInt = tV By Nb S22.2.2.1) := fun z => Imp_m h52.2 (by rw [h54, ← h56]; exact z)
    have h60 : Imp (S55.1 = 0) (S22.1 = 0 ∧ tK By Nb S22.2.2.1 = 2 ∧ 0 ≤ tV By Nb S22.2.2.1 ∧ tV By Nb S22.2.2.1 ≤ pI (S22.2.2.2 0) - 1) := fun z => tN_gg (by rw [← h56]; exact z)
    have h61 : S55.2.2.2 = S22.2.2.2 := by rw [h56]; exact tN_w
    have h62 := KN_fr hP h28 h47 (by decide +kernel)
    have h63 : S55.2.2.2 = Sp.2.2.2 := h61.trans h29
    have o64 : OUT σ0 σ45 a := OUT_fr o30 h47 (by decide +kernel)
    have h65 := Imp_m h48.2.2.2.2.2.2.2.1 (by first | exact q_81610a3c5e h42 h36.1 | omega)
    have h66 := Imp_m h48.2.2.2.2.2.2.2.2.1 (by omega)
    refine En_Ps 3 (pc' := 32) (lv' := [(2, .int z51), (0, .ref 3), (1, .ref a)]) (st' := [.int z51, .ref 3]) rfl ?_
    refine En_callV rfl rfl rfl rfl rfl rfl rfl rfl tgz_3 (by decide +kernel) rfl (c_74x σ45 h46 z51 (geI rfl (by first | exact q_ce01e7a6da h66 | omega)) (leI rfl (by first | exact q_e1ef427644 h65 h42 h36.2.1 | omega)) z49 h50 h57 (fun zz => by (try have i0 := Imp_m h60 (by omega)); (try have i1 := Imp_m h59 (by omega)); (try have i2 := Imp_m h48.2.2.2.2.2.1 (by omega)); (try have i3 := Imp_m h48.2.2.2.2.2.2.1 (by omega)); omega)) (by decide) (by decide) (fun v68 σ69 h67 => ?_)
    obtain ⟨h70, h71, z73, h74, z75, rfl, h72⟩ := h67
    have h76 := h72.2.2.2.2.2.2.2
    have h77 := Fr_trans h53 h71 (by decide +kernel)
    have h78 : tP By Nb z51.toInt S55 = tP By Nb (tV By Nb S22.2.2.1) S55 := tP_cg2 (fun zz => by (try have i0 := Imp_m h60 (by omega)); (try have i1 := Imp_m h59 (by omega)); (try have i2 := Imp_m h48.2.2.2.2.2.1 (by omega)); (try have i3 := Imp_m h48.2.2.2.2.2.2.1 (by omega)); omega)
    obtain ⟨S79, h80⟩ : ∃ q : PS, q = tP By Nb (tV By Nb S22.2.2.1) S55 := ⟨_, rfl⟩
    have h81 : CT By Nb σ69 S79 := by rw [h80]; exact (CT_eq h76.1 h78)
    have h82 := CT_k h81 h74
    have h83 : Imp (S79.1 = 0) (z75.toInt = tV By Nb S55.2.2.1) := fun z => Imp_m h76.2 (by rw [h78, ← h80]; exact z)
    have h84 : Imp (S79.1 = 0) (S55.1 = 0) := fun z => tP_g (by rw [← h80]; exact z)
    have h85 : S79.2.2.2 = S55.2.2.2 := by rw [h80]; exact tP_w
    have h86 := KN_fr hP h62 h71 (by decide +kernel)
    have h87 : S79.2.2.2 = Sp.2.2.2 := h85.trans h63
    have o88 : OUT σ0 σ69 a := OUT_fr o64 h71 (by decide +kernel)
    refine En_Ps 2 (pc' := 37) (lv' := [(3, .int z75), (2, .int z51), (0, .ref 3), (1, .ref a)]) (st' := [.ref 3]) rfl ?_
    refine En_getK (j := 5) h74 rfl rfl rfl tgz_3 (by decide +kernel) ?_
    refine En_iNe _ rfl rfl (fun h89 => ?_) (fun h89 => ?_)
    · have h90 : fRule By Nb (146 + 2 * Sp.2.2.2 4) S22 = S79 := by unfold fRule; (try dsimp only); rw [← h56, ← h80]; first | (rw [if_pos (by omega)]; first | done | rfl) | (rw [if_neg (by omega)]; first | done | rfl)
      have h91 : fHouse By Nb Sp = S79 := by unfold fHouse; (try dsimp only); first | (rw [← h23, h90]; first | done | rfl) | (rw [← h23, h90]; rw [if_pos (by omega)]; first | done | rfl) | (rw [← h23, h90]; rw [if_neg (by omega)]; first | done | rfl) | (rw [← h23, h90]; rw [if_neg (by omega), if_pos (by omega)]; first | done | rfl) | (rw [← h23, h90]; rw [if_neg (by omega), if_neg (by omega)]; first | done | rfl) | (rw [← h23, h90]; rw [if_neg (by omega), if_neg (by omega), if_neg (by omega)]; first | done | rfl)
      exact En_ret (v := none) rfl rfl rfl ⟨h70, h77, z73, h74, rfl, ⟨o88, by first | exact q_bc42505ae9 h89 h72.2.2.1 | omega, by first | exact q_c733b715bf h72.2.2.2.1 | omega, by first | exact q_ccc3bb8fc9 h48.2.2.2.1 h72.2.2.2.2.1 | omega, by first | exact q_28bfca2c13 h48.2.2.2.1 h72.2.2.2.2.1 | omega, (by rw [h91]; exact ⟨h81, fun z => absurd z (by omega)⟩)⟩⟩
    · have h92 := Imp_m h48.2.2.2.2.2.1 (by first | exact q_31d5f588b1 h72.2.2.2.2.1 h89 | omega)
      have h93 := Imp_m h72.2.2.2.2.2.2.1 (by first | exact q_c5d285f1b9 h89 | omega)
      try have h94 := Imp_m h84 (by omega)
      try have h95 := Imp_m h83 (by omega)
      try have h96 := Imp_m h60 (by omega)
      try have h97 := Imp_m h59 (by omega)
      refine En_Ps 1 (pc' := 44) (lv' := [(3, .int z75), (2, .int z51), (0, .ref 3), (1, .ref a)]) (st' := [.ref a]) rfl ?_
      refine En_getR (j := 9) (g' := 23) (u := 0) rfl rfl rfl ha (by decide +kernel) h70 (by decide +kernel) (fun a99 h98 ha99 => ?_)
      refine En_Ps 1 (pc' := 48) (lv' := [(3, .int z75), (2, .int z51), (0, .ref 3), (1, .ref a)]) (st' := [.ref a, .ref a99]) rfl ?_
      refine En_getK (j := 8) ((h71 _ _ (inW ha (by decide +kernel))).trans ((h47 _ _ (inW ha (by decide +kernel))).trans ((h18 _ _ (inW ha (by decide +kernel))).trans h4))) rfl rfl rfl ha (by decide +kernel) ?_
      refine En_Ps 1 (pc' := 52) (lv' := [(3, .int z75), (2, .int z51), (0, .ref 3), (1, .ref a)]) (st' := [.int z51, .int z5, .ref a99]) rfl ?_
      refine En_iast (l := 0) (u := 15) rfl rfl ha99 (by decide +kernel) (by first | exact q_58e6e51dcc h6 | omega) (lnI (by decide +kernel : LN _ = 4) (by first | exact q_074a8b422d h9 | omega)) (FTsgl (by decide +kernel)) (rngI rfl (by omega) (by first | exact q_e1ef427644 h65 h42 h36.2.1 | omega)) h70 h77 (by decide +kernel) (fun σ100 h101 h102 h103 h104 => ?_)
      have h105 : a99 = a + 5 := ref_uniq ((h104 _ _ (Or.inl (neTG ha ha99 (by decide)))).trans h98) (FXP_fr hP hX h102 (by decide +kernel)).2.2.1
      have h106 := lc_h (m := Sp.2.2.2 4) (by omega) (by omega)
      obtain ⟨S107, h108⟩ : ∃ q : PS, q = wst S79 (146 + 2 * Sp.2.2.2 4) ((tV By Nb S22.2.2.1)) := ⟨_, rfl⟩
      have h109 : CT By Nb σ100 S107 := by rw [h108]; exact CT_wst (CT_ne h81 h104 (by have := hP; unfold PLA at this; omega))
      have h110 : KN σ100 a (uPd Sp.2.2.2 (146 + 2 * Sp.2.2.2 4) ((tV By Nb S22.2.2.1))) (fun t => (act Sp.2.2.2 t ∨ t = 146 + 2 * Sp.2.2.2 4)) := KN_st h86 h103 h104 (by omega) (by omega) (by omega) (by omega) (by (try have i0 := Imp_m h84 (by omega)); (try have i1 := Imp_m h83 (by omega)); (try have i2 := Imp_m h60 (by omega)); (try have i3 := Imp_m h59 (by omega)); (try have i4 := Imp_m h48.2.2.2.2.2.2.1 (by omega)); omega)
      have h111 : S107.2.2.2 = (uPd Sp.2.2.2 (146 + 2 * Sp.2.2.2 4) ((tV By Nb S22.2.2.1))) := by rw [h108]; show uPd S79.2.2.2 _ _ = _; rw [h87]
      have h112 : S107.1 = S79.1 := by rw [h108]; rfl
      have h113 := CT_k h109 ((h104 _ _ (Or.inl (neTG tgz_3 ha99 (by decide)))).trans h74)
      have o114 : OUT σ0 σ100 a := OUT_st o88 h104 (by omega)
      refine En_Ps 1 (pc' := 54) (lv' := [(3, .int z75), (2, .int z51), (0, .ref 3), (1, .ref a)]) (st' := [.ref a]) rfl ?_
      refine En_getR (j := 10) (g' := 24) (u := 0) rfl rfl rfl ha (by decide +kernel) h101 (by decide +kernel) (fun a116 h115 ha116 => ?_)
      refine En_Ps 1 (pc' := 58) (lv' := [(3, .int z75), (2, .int z51), (0, .ref 3), (1, .ref a)]) (st' := [.ref a, .ref a116]) rfl ?_
      refine En_getK (j := 8) ((h104 _ _ (Or.inl (neTG ha ha99 (by decide)))).trans ((h71 _ _ (inW ha (by decide +kernel))).trans ((h47 _ _ (inW ha (by decide +kernel))).trans ((h18 _ _ (inW ha (by decide +kernel))).trans h4)))) rfl rfl rfl ha (by decide +kernel) ?_
      refine En_Ps 1 (pc' := 62) (lv' := [(3, .int z75), (2, .int z51), (0, .ref 3), (1, .ref a)]) (st' := [.int z75, .int z5, .ref a116]) rfl ?_
      refine En_iast (l := 0) (u := 15) rfl rfl ha116 (by decide +kernel) (by first | exact q_58e6e51dcc h6 | omega) (lnI (by decide +kernel : LN _ = 4) (by first | exact q_074a8b422d h9 | omega)) (FTsgl (by decide +kernel)) (rngI rfl (by first | exact q_ef1e8e38bf h93.1 | omega) (by first | exact q_5a5f544404 h72.2.1 | omega)) h101 h102 (by decide +kernel) (fun σ117 h118 h119 h120 h121 => ?_)
      have h122 : a116 = a + 6 := ref_uniq ((h121 _ _ (Or.inl (neTG ha ha116 (by decide)))).trans h115) (FXP_fr hP hX h119 (by decide +kernel)).2.2.2.1
      have h123 := lc_h (m := Sp.2.2.2 4) (by omega) (by omega)
      obtain ⟨S124, h125⟩ : ∃ q : PS, q = wst S107 (146 + 2 * Sp.2.2.2 4 + 1) ((tV By Nb S55.2.2.1)) := ⟨_, rfl⟩
      have h126 : CT By Nb σ117 S124 := by rw [h125]; exact CT_wst (CT_ne h109 h121 (by have := hP; unfold PLA at this; omega))
      have h127 : KN σ117 a (uPd (uPd Sp.2.2.2 (146 + 2 * Sp.2.2.2 4) ((tV By Nb S22.2.2.1))) (146 + 2 * Sp.2.2.2 4 + 1) ((tV By Nb S55.2.2.1))) (fun t => ((act Sp.2.2.2 t ∨ t = 146 + 2 * Sp.2.2.2 4) ∨ t = 146 + 2 * Sp.2.2.2 4 + 1)) := KN_st h110 h120 h121 (by omega) (by omega) (by omega) (by omega) (by (try have i0 := Imp_m h84 (by omega)); (try have i1 := Imp_m h83 (by omega)); (try have i2 := Imp_m h60 (by omega)); (try have i3 := Imp_m h59 (by omega)); (try have i4 := Imp_m h48.2.2.2.2.2.2.1 (by omega)); omega)
      have h128 : S124.2.2.2 = (uPd (uPd Sp.2.2.2 (146 + 2 * Sp.2.2.2 4) ((tV By Nb S22.2.2.1))) (146 + 2 * Sp.2.2.2 4 + 1) ((tV By Nb S55.2.2.1))) := by rw [h125]; show uPd S107.2.2.2 _ _ = _; rw [h111]
      have h129 : S124.1 = S107.1 := by rw [h125]; rfl
      have h130 := CT_k h126 ((h121 _ _ (Or.inl (neTG tgz_3 ha116 (by decide)))).trans ((h104 _ _ (Or.inl (neTG tgz_3 ha99 (by decide)))).trans h74))
      have o131 : OUT σ0 σ117 a := OUT_st o114 h121 (by omega)
      have h132 : fRule By Nb (146 + 2 * Sp.2.2.2 4) S22 = S124 := by unfold fRule; (try dsimp only); rw [← h56, ← h80, ← h108, ← h125]; first | (rw [if_pos (by omega)]; first | done | rfl) | (rw [if_neg (by omega)]; first | done | rfl)
      refine En_Ps 2 (pc' := 65) (lv' := [(3, .int z75), (2, .int z51), (0, .ref 3), (1, .ref a)]) (st' := [.ref a, .ref a]) rfl ?_
      refine En_getK (j := 8) ((h121 _ _ (Or.inl (neTG ha ha116 (by decide)))).trans ((h104 _ _ (Or.inl (neTG ha ha99 (by decide)))).trans ((h71 _ _ (inW ha (by decide +kernel))).trans ((h47 _ _ (inW ha (by decide +kernel))).trans ((h18 _ _ (inW ha (by decide +kernel))).trans h4))))) rfl rfl rfl ha (by decide +kernel) ?_
      refine En_Ps 2 (pc' := 70) (lv' := [(3, .int z75), (2, .int z51), (0, .ref 3), (1, .ref a)]) (st' := [.int ((z5 + ((Int32.ofInt 1)))), .ref a]) rfl ?_
      refine En_top (addI rfl (by decide : (Int32.ofInt 1).toInt = 1) (by first | exact q_465ab79ac1 h6 | omega) (by first | exact q_d8bf7f475a h9 | omega)) (fun z133 h134 => ?_)
      refine En_put (j := 8) rfl rfl rfl ha (by decide +kernel) rfl (vI (l := 0) (u := 4) (by decide +kernel) rfl (by first | exact q_35104ce9d3 h134 h6 | omega) (by first | exact q_ddc5c16a68 h134 h9 | omega)) h118 h119 (by decide +kernel) (fun σ135 h136 h137 h138 h139 => ?_)
      obtain ⟨S140, h141⟩ : ∃ q : PS, q = wst S124 (4) (Sp.2.2.2 4 + 1) := ⟨_, rfl⟩
      have h142 : CT By Nb σ135 S140 := by rw [h141]; exact CT_wst (CT_ne h126 h139 (by have := hP; unfold PLA at this; omega))
      have h143 : KN σ135 a (uPd (uPd (uPd Sp.2.2.2 (146 + 2 * Sp.2.2.2 4) ((tV By Nb S22.2.2.1))) (146 + 2 * Sp.2.2.2 4 + 1) ((tV By Nb S55.2.2.1))) (4) (Sp.2.2.2 4 + 1)) (fun t => (((act Sp.2.2.2 t ∨ t = 146 + 2 * Sp.2.2.2 4) ∨ t = 146 + 2 * Sp.2.2.2 4 + 1) ∨ t = 4)) := KN_st h127 h138 h139 (by omega) (by omega) (by rw [lcO_lt (by decide) (by decide), Nat.add_zero]) (by decide) (by (try have i0 := Imp_m h84 (by omega)); (try have i1 := Imp_m h83 (by omega)); (try have i2 := Imp_m h60 (by omega)); (try have i3 := Imp_m h59 (by omega)); (try have i4 := Imp_m h48.2.2.2.2.2.2.1 (by omega)); omega)
      have h144 : S140.2.2.2 = (uPd (uPd (uPd Sp.2.2.2 (146 + 2 * Sp.2.2.2 4) ((tV By Nb S22.2.2.1))) (146 + 2 * Sp.2.2.2 4 + 1) ((tV By Nb S55.2.2.1))) (4) (Sp.2.2.2 4 + 1)) := by rw [h141]; show uPd S124.2.2.2 _ _ = _; rw [h128]
      have h145 : S140.1 = S124.1 := by rw [h141]; rfl
      have h146 := CT_k h142 ((h139 _ _ (Or.inr (by decide))).trans ((h121 _ _ (Or.inl (neTG tgz_3 ha116 (by decide)))).trans ((h104 _ _ (Or.inl (neTG tgz_3 ha99 (by decide)))).trans h74)))
      have o147 : OUT σ0 σ135 a := OUT_st o131 h139 (by omega)
      have h148 : fHouse By Nb Sp = S140 := by unfold fHouse; (try dsimp only); first | (rw [← h23, h132, ← h141]; first | done | rfl) | (rw [← h23, h132, ← h141]; rw [if_pos (by omega)]; first | done | rfl) | (rw [← h23, h132, ← h141]; rw [if_neg (by omega)]; first | done | rfl) | (rw [← h23, h132, ← h141]; rw [if_neg (by omega), if_pos (by omega)]; first | done | rfl) | (rw [← h23, h132, ← h141]; rw [if_neg (by omega), if_neg (by omega)]; first | done | rfl) | (rw [← h23, h132, ← h141]; rw [if_neg (by omega), if_neg (by omega), if_neg (by omega)]; first | done | rfl)
      exact En_ret (v := none) rfl rfl rfl ⟨h136, h137, z73, ((h139 _ _ (Or.inr (by decide))).trans ((h121 _ _ (Or.inl (neTG tgz_3 ha116 (by decide)))).trans ((h104 _ _ (Or.inl (neTG tgz_3 ha99 (by decide)))).trans h74))), rfl, ⟨o147, by first | exact q_a555021d16 h72.2.2.1 | omega, by first | exact q_bd3fa30443 h89 | omega, by first | exact q_ccc3bb8fc9 h48.2.2.2.1 h72.2.2.2.2.1 | omega, by first | exact q_28bfca2c13 h48.2.2.2.1 h72.2.2.2.2.1 | omega, (by rw [h148]; exact ⟨h142, fun zz => by rw [h144]; exact KN_sub h143 (fun t t0 t1 y => AHs (by omega) y)⟩)⟩⟩
  · refine En_Ps 2 (pc' := 10) (lv' := [(0, .ref 3), (1, .ref a)]) (st' := [.int ((Int32.ofInt 3)), .ref 3]) rfl ?_
    have := (by decide : ((Int32.ofInt 3)).toInt = 3)
    refine En_callV rfl rfl rfl rfl rfl rfl rfl rfl tgz_3 (by decide +kernel) rfl (c_54x σ0 hσ0 ((Int32.ofInt 3)) (geI (by decide : (Int32.ofInt 3).toInt = 3) (by decide)) (leI (by decide : (Int32.ofInt 3).toInt = 3) (by decide)) f h_f hC) (by decide) (by decide) (fun v150 σ151 h149 => ?_)
    obtain ⟨h152, h153, z155, h156, rfl, h154⟩ := h149
    have h157 := h154.2.2.2.2.2
    have h158 := Fr_trans hF0 h153 (by decide +kernel)
    obtain ⟨S159, h160⟩ : ∃ q : PS, q = err By Nb 3 Sp := ⟨_, rfl⟩
    have h161 : CT By Nb σ151 S159 := by rw [h160]; exact (CT_eq h157 (err_cg (by omega)))
    have h162 := CT_k h161 h156
    have h163 : S159.2.2.2 = Sp.2.2.2 := by rw [h160]; exact err_w
    have h164 := KN_fr hP hK h153 (by decide +kernel)
    have h165 : S159.2.2.2 = Sp.2.2.2 := h163.trans (rfl : Sp.2.2.2 = Sp.2.2.2)
    have o166 : OUT σ0 σ151 a := OUT_fr OUT_0 h153 (by decide +kernel)
    have h167 : fHouse By Nb Sp = S159 := by unfold fHouse; (try dsimp only); first | (rw [← h160]; first | done | rfl) | (rw [← h160]; rw [if_pos (by omega)]; first | done | rfl) | (rw [← h160]; rw [if_neg (by omega)]; first | done | rfl) | (rw [← h160]; rw [if_neg (by omega), if_pos (by omega)]; first | done | rfl) | (rw [← h160]; rw [if_neg (by omega), if_neg (by omega)]; first | done | rfl) | (rw [← h160]; rw [if_neg (by omega), if_neg (by omega), if_neg (by omega)]; first | done | rfl)
    exact En_ret (v := none) rfl rfl rfl ⟨h152, h158, z155, h156, rfl, ⟨o166, by first | exact q_1a6ee862c1 h154.1 | omega, by first | exact q_c733b715bf h154.2.1 | omega, by first | exact q_d22b102a8e h154.2.2.1 | omega, by first | exact q_83f4b1e050 h154.2.2.1 | omega, (by rw [h167]; exact ⟨h161, fun z => absurd z (by omega)⟩)⟩⟩
/-- DoorSchool$Reader.readCourse(LDoorSchool$Plan;)V -/
abbrev P_62x (σ0 : SG) (By : Int → Int) (Nb : Int) (Sp : PS) (a : Nat) (f : Int32) (sg : Int32) : PO := fun v σ => WT σ ∧ Fr [(3, 1), (3, 2), (3, 3), (3, 4), (3, 5), (3, 6), (18, 11), (25, 0)] σ0 σ ∧ ∃ f1 : Int32, (σ 3)[5]? = some (.int f1) ∧ v = none ∧ OUT σ0 σ a ∧ -f1.toInt ≤ 0 ∧ f1.toInt - 3 ≤ 0 ∧ -f1.toInt + f.toInt ≤ 0 ∧ f.toInt - f1.toInt ≤ 0 ∧ (CT By Nb σ (fCourse By Nb Sp) ∧ ((fCourse By Nb Sp).1 = 0 → KN σ a (fCourse By Nb Sp).2.2.2 (act (fCourse By Nb Sp).2.2.2)))
set_option maxRecDepth 10000 in
set_option maxHeartbeats 4000000 in
theorem c_62x {By : Int → Int} {Nb : Int} {Sp : PS} (σ0 : SG) (hσ0 : WT σ0) (a : Nat) (ha : TG a = 18) (f : Int32) (h_f : (σ0 3)[5]? = some (.int f)) (sg : Int32) (h_sg : (σ0 a)[1]? = some (.int sg)) (hp0 : -sg.toInt ≤ 0) (hC : CT By Nb σ0 Sp) (hg : Sp.1 = 0) (hP : PLA a) (hX : FXP σ0 a) (hK : KN σ0 a Sp.2.2.2 (act Sp.2.2.2)) : En 5 112 none mr_62 (P_62x σ0 By Nb Sp a f sg) 0 [(0, .ref 3), (1, .ref a)] [] σ0 := by
  obtain ⟨hl_f, hu_f⟩ := WT_int hσ0 (g := 3) (by decide +kernel) (by decide +kernel) (l := 0) (u := 3) (by decide +kernel) h_f
  obtain ⟨hl_sg, hu_sg⟩ := WT_int hσ0 (g := 18) ha (by decide +kernel) (l := (-1)) (u := 4) (by decide +kernel) h_sg
  have hF0 : Fr [(3, 1), (3, 2), (3, 3), (3, 4), (3, 5), (3, 6), (18, 11), (25, 0)] σ0 σ0 := Fr_rfl
  have h1 := CT_k hC h_f
  obtain ⟨z3, h2, h4, h5⟩ := WT_peekI hσ0 ha (by decide +kernel : FT 18 11 = (0, 0, 6)) (by decide +kernel)
  have h6 : Sp.2.2.2 5 = z3.toInt := KN_v hK (Or.inl (by decide)) (by decide) (by decide) (by rw [lcO_lt (by decide) (by decide), Nat.add_zero]) rfl h2
  refine En_Ps 1 (pc' := 1) (lv' := [(0, .ref 3), (1, .ref a)]) (st' := [.ref a]) rfl ?_
  refine En_getK (j := 11) h2 rfl rfl rfl ha (by decide +kernel) ?_
  refine En_Ps 1 (pc' := 6) (lv' := [(0, .ref 3), (1, .ref a)]) (st' := [.int (((Int8.ofInt 6).toInt32)), .int z3]) rfl ?_
  refine En_icLt _ rfl (by decide : ((Int8.ofInt 6).toInt32).toInt = 6) rfl (fun h7 => ?_) (fun h7 => ?_)
  · refine En_Ps 1 (pc' := 16) (lv' := [(0, .ref 3), (1, .ref a)]) (st' := [.ref 3]) rfl ?_
    obtain ⟨z9, h8, h10, h11⟩ := WT_peekI hσ0 tgz_3 (by decide +kernel : FT 3 3 = (0, 0, 1600)) (by decide +kernel)
    refine En_callV rfl rfl rfl rfl rfl rfl rfl rfl tgz_3 (by decide +kernel) rfl (c_72x σ0 hσ0 z9 h8 hC.1 (CT_at hC (by omega) h8)) (by decide) (by decide) (fun v13 σ14 h12 => ?_)
    obtain ⟨h15, h16, rfl, h17⟩ := h12
    have h18 := h17
    have h19 := Fr_trans hF0 h16 (by decide +kernel)
    obtain ⟨S20, h21⟩ : ∃ q : PS, q = adv By Nb Sp := ⟨_, rfl⟩
    have h22 : CT By Nb σ14 S20 := by rw [h21]; exact (CT_adv hC (by omega) h8 h16 (by decide +kernel) h18.2)
    have h23 := CT_k h22 ((h16 _ _ (inW tgz_3 (by decide +kernel))).trans h_f)
    have h24 : S20.2.2.2 = Sp.2.2.2 := by rw [h21]; exact adv_w
    have h25 : S20.1 = Sp.1 := by rw [h21]; exact adv_1
    have h26 := KN_fr hP hK h16 (by decide +kernel)
    have h27 : S20.2.2.2 = Sp.2.2.2 := h24.trans (rfl : Sp.2.2.2 = Sp.2.2.2)
    have o28 : OUT σ0 σ14 a := OUT_fr OUT_0 h16 (by decide +kernel)
    refine En_Ps 2 (pc' := 21) (lv' := [(0, .ref 3), (1, .ref a)]) (st' := [.ref 3, .ref 3]) rfl ?_
    refine En_ldcS (i := 15) rfl rfl rfl ?_
    refine En_callV rfl rfl rfl rfl rfl rfl rfl rfl tgz_3 (by decide +kernel) rfl (c_71s15x σ14 h15 h22) (by decide) (by decide) (fun v30 σ31 h29 => ?_)
    obtain ⟨h32, h33, z35, rfl, h34⟩ := h29
    have h36 := h34.2.2
    obtain rfl : σ14 = σ31 := Fr_nil h33
    have h37 := h36
    refine En_callV rfl rfl rfl rfl rfl rfl rfl rfl tgz_3 (by decide +kernel) rfl (c_59x σ14 h15 z35 (geI rfl (by first | exact q_ef1e8e38bf h34.1 | omega)) (leI rfl (by first | exact q_733c8bfbae h34.2.1 | omega)) f ((h16 _ _ (inW tgz_3 (by decide +kernel))).trans h_f) h22) (by decide) (by decide) (fun v39 σ40 h38 => ?_)
    obtain ⟨h41, h42, z44, h45, rfl, h43⟩ := h38
    have h46 := h43.2.2.2.2.2.2
    have h47 := Fr_trans h19 h42 (by decide +kernel)
    have h48 : pss By Nb z35.toInt S20 = pss By Nb (iW By Nb 15 S20) S20 := pss_cg2 (fun zz => by (try have i0 := Imp_m h37 (by omega)); omega)
    obtain ⟨S49, h50⟩ : ∃ q : PS, q = pss By Nb (iW By Nb 15 S20) S20 := ⟨_, rfl⟩
    have h51 : CT By Nb σ40 S49 := by rw [h50]; exact (CT_eq h46 h48)
    have h52 := CT_k h51 h45
    have h53 : S49.2.2.2 = S20.2.2.2 := by rw [h50]; exact pss_w
    have h54 : Imp (S49.1 = 0) (S20.1 = 0) := fun z => (pss_g (by rw [h48, ← h50]; exact z)).1
    have h55 : Imp (S49.1 = 0) (z35.toInt = 1) := fun z => (pss_g (by rw [h48, ← h50]; exact z)).2.1
    have h56 := KN_fr hP h26 h42 (by decide +kernel)
    have h57 : S49.2.2.2 = Sp.2.2.2 := h53.trans h27
    have o58 : OUT σ0 σ40 a := OUT_fr o28 h42 (by decide +kernel)
    refine En_Ps 3 (pc' := 33) (lv' := [(0, .ref 3), (1, .ref a)]) (st' := [.int (((Int8.ofInt 9).toInt32)), .int ((Int32.ofInt 1)), .ref 3]) rfl ?_
    have := (by decide : ((Int32.ofInt 1)).toInt = 1)
    have := (by decide : (((Int8.ofInt 9).toInt32)).toInt = 9)
    refine En_callV rfl rfl rfl rfl rfl rfl rfl rfl tgz_3 (by decide +kernel) rfl (c_73x σ40 h41 ((Int32.ofInt 1)) (((Int8.ofInt 9).toInt32)) z44 h45 h51) (by decide) (by decide) (fun v60 σ61 h59 => ?_)
    obtain ⟨h62, h63, z65, h66, z67, rfl, h64⟩ := h59
    have h68 := h64.2.2.2.2.2.2.2.2.2
    have h69 := Fr_trans h47 h63 (by decide +kernel)
    have h70 : tN By Nb ((Int32.ofInt 1)).toInt (((Int8.ofInt 9).toInt32)).toInt S49 = tN By Nb (1) (9) S49 := tN_cg2 (fun zz => by omega) (fun zz => by omega)
    obtain ⟨S71, h72⟩ : ∃ q : PS, q = tN By Nb (1) (9) S49 := ⟨_, rfl⟩
    have h73 : CT By Nb σ61 S71 := by rw [h72]; exact (CT_eq h68.1 h70)
    have h74 := CT_k h73 h66
    have h75 : Imp (S71.1 = 0) (z67.toInt = tV By Nb S49.2.2.1) := fun z => Imp_m h68.2 (by rw [h70, ← h72]; exact z)
    have h76 : Imp (S71.1 = 0) (S49.1 = 0 ∧ tK By Nb S49.2.2.1 = 2 ∧ 1 ≤ tV By Nb S49.2.2.1 ∧ tV By Nb S49.2.2.1 ≤ 9) := fun z => tN_gg (by rw [← h72]; exact z)
    have h77 : S71.2.2.2 = S49.2.2.2 := by rw [h72]; exact tN_w
    have h78 := KN_fr hP h56 h63 (by decide +kernel)
    have h79 : S71.2.2.2 = Sp.2.2.2 := h77.trans h57
    have o80 : OUT σ0 σ61 a := OUT_fr o58 h63 (by decide +kernel)
    have h81 := Imp_m h64.2.2.2.2.2.2.2.1 (by omega)
    have h82 := Imp_m h64.2.2.2.2.2.2.2.2.1 (by omega)
    refine En_Ps 2 (pc' := 38) (lv' := [(2, .int z67), (0, .ref 3), (1, .ref a)]) (st' := [.ref 3]) rfl ?_
    refine En_getK (j := 5) h66 rfl rfl rfl tgz_3 (by decide +kernel) ?_
    refine En_iNe _ rfl rfl (fun h83 => ?_) (fun h83 => ?_)
    · have h84 := Imp_m h64.2.2.2.2.2.2.1 (by first | exact q_e3350da514 h83 h64.2.1 | omega)
      have h85 : fCourse By Nb Sp = S71 := by unfold fCourse; (try dsimp only); first | (rw [← h21, ← h50, ← h72]; first | done | rfl) | (rw [← h21, ← h50, ← h72]; rw [if_pos (by omega)]; first | done | rfl) | (rw [← h21, ← h50, ← h72]; rw [if_neg (by omega)]; first | done | rfl) | (rw [← h21, ← h50, ← h72]; rw [if_neg (by omega), if_pos (by omega)]; first | done | rfl) | (rw [← h21, ← h50, ← h72]; rw [if_neg (by omega), if_neg (by omega)]; first | done | rfl) | (rw [← h21, ← h50, ← h72]; rw [if_neg (by omega), if_neg (by omega), if_neg (by omega)]; first | done | rfl)
      exact En_ret (v := none) rfl rfl rfl ⟨h62, h69, z65, h66, rfl, ⟨o80, by first | exact q_bc42505ae9 h83 h64.2.1 | omega, by first | exact q_c733b715bf h64.2.2.1 | omega, by first | exact q_ccc3bb8fc9 h43.2.2.1 h64.2.2.2.1 | omega, by first | exact q_28bfca2c13 h43.2.2.1 h64.2.2.2.1 | omega, (by rw [h85]; exact ⟨h73, fun z => absurd z (by omega)⟩)⟩⟩
    · have h86 := Imp_m h64.2.2.2.2.2.1 (by first | exact q_c5d285f1b9 h83 | omega)
      try have h87 := Imp_m h76 (by omega)
      try have h88 := Imp_m h75 (by omega)
      try have h89 := Imp_m h55 (by omega)
      try have h90 := Imp_m h54 (by omega)
      try have h91 := Imp_m h37 (by omega)
      refine En_Ps 1 (pc' := 45) (lv' := [(2, .int z67), (0, .ref 3), (1, .ref a)]) (st' := [.ref a]) rfl ?_
      refine En_getR (j := 12) (g' := 25) (u := 0) rfl rfl rfl ha (by decide +kernel) h62 (by decide +kernel) (fun a93 h92 ha93 => ?_)
      refine En_Ps 1 (pc' := 49) (lv' := [(2, .int z67), (0, .ref 3), (1, .ref a)]) (st' := [.ref a, .ref a93]) rfl ?_
      refine En_getK (j := 11) ((h63 _ _ (inW ha (by decide +kernel))).trans ((h42 _ _ (inW ha (by decide +kernel))).trans ((h16 _ _ (inW ha (by decide +kernel))).trans h2))) rfl rfl rfl ha (by decide +kernel) ?_
      refine En_Ps 1 (pc' := 53) (lv' := [(2, .int z67), (0, .ref 3), (1, .ref a)]) (st' := [.int z67, .int z3, .ref a93]) rfl ?_
      refine En_iast (l := 0) (u := 9) rfl rfl ha93 (by decide +kernel) (by first | exact q_58e6e51dcc h4 | omega) (lnI (by decide +kernel : LN _ = 6) (by first | exact q_ab9991d2ad h7 | omega)) (FTsgl (by decide +kernel)) (rngI rfl (by omega) (by omega)) h62 h69 (by decide +kernel) (fun σ94 h95 h96 h97 h98 => ?_)
      have h99 : a93 = a + 7 := ref_uniq ((h98 _ _ (Or.inl (neTG ha ha93 (by decide)))).trans h92) (FXP_fr hP hX h96 (by decide +kernel)).2.2.2.2.1
      have h100 := lc_c (m := Sp.2.2.2 5) (by omega) (by omega)
      obtain ⟨S101, h102⟩ : ∃ q : PS, q = wst S71 (154 + 2 * Sp.2.2.2 5) ((tV By Nb S49.2.2.1)) := ⟨_, rfl⟩
      have h103 : CT By Nb σ94 S101 := by rw [h102]; exact CT_wst (CT_ne h73 h98 (by have := hP; unfold PLA at this; omega))
      have h104 : KN σ94 a (uPd Sp.2.2.2 (154 + 2 * Sp.2.2.2 5) ((tV By Nb S49.2.2.1))) (fun t => (act Sp.2.2.2 t ∨ t = 154 + 2 * Sp.2.2.2 5)) := KN_st h78 h97 h98 (by omega) (by omega) (by omega) (by omega) (by (try have i0 := Imp_m h76 (by omega)); (try have i1 := Imp_m h75 (by omega)); (try have i2 := Imp_m h55 (by omega)); (try have i3 := Imp_m h54 (by omega)); (try have i4 := Imp_m h37 (by omega)); (try have i5 := Imp_m h43.2.2.2.1 (by omega)); (try have i6 := Imp_m h43.2.2.2.2.2.1 (by omega)); (try have i7 := Imp_m h64.2.2.2.2.2.2.1 (by omega)); omega)
      have h105 : S101.2.2.2 = (uPd Sp.2.2.2 (154 + 2 * Sp.2.2.2 5) ((tV By Nb S49.2.2.1))) := by rw [h102]; show uPd S71.2.2.2 _ _ = _; rw [h79]
      have h106 : S101.1 = S71.1 := by rw [h102]; rfl
      have h107 := CT_k h103 ((h98 _ _ (Or.inl (neTG tgz_3 ha93 (by decide)))).trans h66)
      have o108 : OUT σ0 σ94 a := OUT_st o80 h98 (by omega)
      refine En_Ps 2 (pc' := 56) (lv' := [(2, .int z67), (0, .ref 3), (1, .ref a)]) (st' := [.ref a, .ref a]) rfl ?_
      refine En_getK (j := 11) ((h98 _ _ (Or.inl (neTG ha ha93 (by decide)))).trans ((h63 _ _ (inW ha (by decide +kernel))).trans ((h42 _ _ (inW ha (by decide +kernel))).trans ((h16 _ _ (inW ha (by decide +kernel))).trans h2)))) rfl rfl rfl ha (by decide +kernel) ?_
      refine En_Ps 2 (pc' := 61) (lv' := [(2, .int z67), (0, .ref 3), (1, .ref a)]) (st' := [.int ((z3 + ((Int32.ofInt 1)))), .ref a]) rfl ?_
      refine En_top (addI rfl (by decide : (Int32.ofInt 1).toInt = 1) (by first | exact q_465ab79ac1 h4 | omega) (by first | exact q_2918abfa70 h7 | omega)) (fun z109 h110 => ?_)
      refine En_put (j := 11) rfl rfl rfl ha (by decide +kernel) rfl (vI (l := 0) (u := 6) (by decide +kernel) rfl (by first | exact q_35104ce9d3 h110 h4 | omega) (by first | exact q_13d1e79bb8 h110 h7 | omega)) h95 h96 (by decide +kernel) (fun σ111 h112 h113 h114 h115 => ?_)
      obtain ⟨S116, h117⟩ : ∃ q : PS, q = wst S101 (5) (Sp.2.2.2 5 + 1) := ⟨_, rfl⟩
      have h118 : CT By Nb σ111 S116 := by rw [h117]; exact CT_wst (CT_ne h103 h115 (by have := hP; unfold PLA at this; omega))
      have h119 : KN σ111 a (uPd (uPd Sp.2.2.2 (154 + 2 * Sp.2.2.2 5) ((tV By Nb S49.2.2.1))) (5) (Sp.2.2.2 5 + 1)) (fun t => ((act Sp.2.2.2 t ∨ t = 154 + 2 * Sp.2.2.2 5) ∨ t = 5)) := KN_st h104 h114 h115 (by omega) (by omega) (by rw [lcO_lt (by decide) (by decide), Nat.add_zero]) (by decide) (by (try have i0 := Imp_m h76 (by omega)); (try have i1 := Imp_m h75 (by omega)); (try have i2 := Imp_m h55 (by omega)); (try have i3 := Imp_m h54 (by omega)); (try have i4 := Imp_m h37 (by omega)); (try have i5 := Imp_m h43.2.2.2.1 (by omega)); (try have i6 := Imp_m h43.2.2.2.2.2.1 (by omega)); (try have i7 := Imp_m h64.2.2.2.2.2.2.1 (by omega)); omega)
      have h120 : S116.2.2.2 = (uPd (uPd Sp.2.2.2 (154 + 2 * Sp.2.2.2 5) ((tV By Nb S49.2.2.1))) (5) (Sp.2.2.2 5 + 1)) := by rw [h117]; show uPd S101.2.2.2 _ _ = _; rw [h105]
      have h121 : S116.1 = S101.1 := by rw [h117]; rfl
      have h122 := CT_k h118 ((h115 _ _ (Or.inr (by decide))).trans ((h98 _ _ (Or.inl (neTG tgz_3 ha93 (by decide)))).trans h66))
      have o123 : OUT σ0 σ111 a := OUT_st o108 h115 (by omega)
      have h124 : fCourse By Nb Sp = S116 := by unfold fCourse; (try dsimp only); first | (rw [← h21, ← h50, ← h72, ← h102, ← h117]; first | done | rfl) | (rw [← h21, ← h50, ← h72, ← h102, ← h117]; rw [if_pos (by omega)]; first | done | rfl) | (rw [← h21, ← h50, ← h72, ← h102, ← h117]; rw [if_neg (by omega)]; first | done | rfl) | (rw [← h21, ← h50, ← h72, ← h102, ← h117]; rw [if_neg (by omega), if_pos (by omega)]; first | done | rfl) | (rw [← h21, ← h50, ← h72, ← h102, ← h117]; rw [if_neg (by omega), if_neg (by omega)]; first | done | rfl) | (rw [← h21, ← h50, ← h72, ← h102, ← h117]; rw [if_neg (by omega), if_neg (by omega), if_neg (by omega)]; first | done | rfl)
      exact En_ret (v := none) rfl rfl rfl ⟨h112, h113, z65, ((h115 _ _ (Or.inr (by decide))).trans ((h98 _ _ (Or.inl (neTG tgz_3 ha93 (by decide)))).trans h66)), rfl, ⟨o123, by first | exact q_a555021d16 h64.2.1 | omega, by first | exact q_bd3fa30443 h83 | omega, by first | exact q_ccc3bb8fc9 h43.2.2.1 h64.2.2.2.1 | omega, by first | exact q_28bfca2c13 h43.2.2.1 h64.2.2.2.1 | omega, (by rw [h124]; exact ⟨h118, fun zz => by rw [h120]; exact KN_sub h119 (fun t t0 t1 y => ACs (by omega) y)⟩)⟩⟩
  · refine En_Ps 2 (pc' := 11) (lv' := [(0, .ref 3), (1, .ref a)]) (st' := [.int ((Int32.ofInt 3)), .ref 3]) rfl ?_
    have := (by decide : ((Int32.ofInt 3)).toInt = 3)
    refine En_callV rfl rfl rfl rfl rfl rfl rfl rfl tgz_3 (by decide +kernel) rfl (c_54x σ0 hσ0 ((Int32.ofInt 3)) (geI (by decide : (Int32.ofInt 3).toInt = 3) (by decide)) (leI (by decide : (Int32.ofInt 3).toInt = 3) (by decide)) f h_f hC) (by decide) (by decide) (fun v126 σ127 h125 => ?_)
    obtain ⟨h128, h129, z131, h132, rfl, h130⟩ := h125
    have h133 := h130.2.2.2.2.2
    have h134 := Fr_trans hF0 h129 (by decide +kernel)
    obtain ⟨S135, h136⟩ : ∃ q : PS, q = err By Nb 3 Sp := ⟨_, rfl⟩
    have h137 : CT By Nb σ127 S135 := by rw [h136]; exact (CT_eq h133 (err_cg (by omega)))
    have h138 := CT_k h137 h132
    have h139 : S135.2.2.2 = Sp.2.2.2 := by rw [h136]; exact err_w
    have h140 := KN_fr hP hK h129 (by decide +kernel)
    have h141 : S135.2.2.2 = Sp.2.2.2 := h139.trans (rfl : Sp.2.2.2 = Sp.2.2.2)
    have o142 : OUT σ0 σ127 a := OUT_fr OUT_0 h129 (by decide +kernel)
    have h143 : fCourse By Nb Sp = S135 := by unfold fCourse; (try dsimp only); first | (rw [← h136]; first | done | rfl) | (rw [← h136]; rw [if_pos (by omega)]; first | done | rfl) | (rw [← h136]; rw [if_neg (by omega)]; first | done | rfl) | (rw [← h136]; rw [if_neg (by omega), if_pos (by omega)]; first | done | rfl) | (rw [← h136]; rw [if_neg (by omega), if_neg (by omega)]; first | done | rfl) | (rw [← h136]; rw [if_neg (by omega), if_neg (by omega), if_neg (by omega)]; first | done | rfl)
    exact En_ret (v := none) rfl rfl rfl ⟨h128, h134, z131, h132, rfl, ⟨o142, by first | exact q_1a6ee862c1 h130.1 | omega, by first | exact q_c733b715bf h130.2.1 | omega, by first | exact q_d22b102a8e h130.2.2.1 | omega, by first | exact q_83f4b1e050 h130.2.2.1 | omega, (by rw [h143]; exact ⟨h137, fun z => absurd z (by omega)⟩)⟩⟩
/-- DoorSchool$Reader.readAhead(LDoorSchool$Plan;)V -/
abbrev P_61x (σ0 : SG) (By : Int → Int) (Nb : Int) (Sp : PS) (a : Nat) (f : Int32) (sg : Int32) : PO := fun v σ => WT σ ∧ Fr [(3, 1), (3, 2), (3, 3), (3, 4), (3, 5), (3, 6), (26, 0)] σ0 σ ∧ ∃ f1 : Int32, (σ 3)[5]? = some (.int f1) ∧ v = none ∧ OUT σ0 σ a ∧ -f1.toInt ≤ 0 ∧ f1.toInt - 3 ≤ 0 ∧ -f1.toInt + f.toInt ≤ 0 ∧ f.toInt - f1.toInt ≤ 0 ∧ (CT By Nb σ (fAhead By Nb Sp) ∧ ((fAhead By Nb Sp).1 = 0 → KN σ a (fAhead By Nb Sp).2.2.2 (act (fAhead By Nb Sp).2.2.2)))
set_option maxRecDepth 10000 in
set_option maxHeartbeats 4000000 in
theorem c_61x {By : Int → Int} {Nb : Int} {Sp : PS} (σ0 : SG) (hσ0 : WT σ0) (a : Nat) (ha : TG a = 18) (f : Int32) (h_f : (σ0 3)[5]? = some (.int f)) (sg : Int32) (h_sg : (σ0 a)[1]? = some (.int sg)) (hp0 : -sg.toInt ≤ 0) (hC : CT By Nb σ0 Sp) (hg : Sp.1 = 0) (hP : PLA a) (hX : FXP σ0 a) (hK : KN σ0 a Sp.2.2.2 (act Sp.2.2.2)) : En 3 66 none mr_61 (P_61x σ0 By Nb Sp a f sg) 0 [(0, .ref 3), (1, .ref a)] [] σ0 := by
  obtain ⟨hl_f, hu_f⟩ := WT_int hσ0 (g := 3) (by decide +kernel) (by decide +kernel) (l := 0) (u := 3) (by decide +kernel) h_f
  obtain ⟨hl_sg, hu_sg⟩ := WT_int hσ0 (g := 18) ha (by decide +kernel) (l := (-1)) (u := 4) (by decide +kernel) h_sg
  have hF0 : Fr [(3, 1), (3, 2), (3, 3), (3, 4), (3, 5), (3, 6), (26, 0)] σ0 σ0 := Fr_rfl
  have h1 := CT_k hC h_f
  obtain ⟨z3, h2, h4, h5⟩ := WT_peekI hσ0 ha (by decide +kernel : FT 18 11 = (0, 0, 6)) (by decide +kernel)
  have h6 : Sp.2.2.2 5 = z3.toInt := KN_v hK (Or.inl (by decide)) (by decide) (by decide) (by rw [lcO_lt (by decide) (by decide), Nat.add_zero]) rfl h2
  refine En_Ps 1 (pc' := 1) (lv' := [(0, .ref 3), (1, .ref a)]) (st' := [.ref 3]) rfl ?_
  obtain ⟨z8, h7, h9, h10⟩ := WT_peekI hσ0 tgz_3 (by decide +kernel : FT 3 3 = (0, 0, 1600)) (by decide +kernel)
  refine En_callV rfl rfl rfl rfl rfl rfl rfl rfl tgz_3 (by decide +kernel) rfl (c_72x σ0 hσ0 z8 h7 hC.1 (CT_at hC (by omega) h7)) (by decide) (by decide) (fun v12 σ13 h11 => ?_)
  obtain ⟨h14, h15, rfl, h16⟩ := h11
  have h17 := h16
  have h18 := Fr_trans hF0 h15 (by decide +kernel)
  obtain ⟨S19, h20⟩ : ∃ q : PS, q = adv By Nb Sp := ⟨_, rfl⟩
  have h21 : CT By Nb σ13 S19 := by rw [h20]; exact (CT_adv hC (by omega) h7 h15 (by decide +kernel) h17.2)
  have h22 := CT_k h21 ((h15 _ _ (inW tgz_3 (by decide +kernel))).trans h_f)
  have h23 : S19.2.2.2 = Sp.2.2.2 := by rw [h20]; exact adv_w
  have h24 : S19.1 = Sp.1 := by rw [h20]; exact adv_1
  have h25 := KN_fr hP hK h15 (by decide +kernel)
  have h26 : S19.2.2.2 = Sp.2.2.2 := h23.trans (rfl : Sp.2.2.2 = Sp.2.2.2)
  have o27 : OUT σ0 σ13 a := OUT_fr OUT_0 h15 (by decide +kernel)
  refine En_Ps 3 (pc' := 7) (lv' := [(0, .ref 3), (1, .ref a)]) (st' := [.ref a, .int ((Int32.ofInt 0)), .ref 3]) rfl ?_
  refine En_getK (j := 11) ((h15 _ _ (inW ha (by decide +kernel))).trans h2) rfl rfl rfl ha (by decide +kernel) ?_
  refine En_Ps 2 (pc' := 12) (lv' := [(0, .ref 3), (1, .ref a)]) (st' := [.int ((z3 - ((Int32.ofInt 1)))), .int ((Int32.ofInt 0)), .ref 3]) rfl ?_
  refine En_top (subI rfl (by decide : (Int32.ofInt 1).toInt = 1) (by first | exact q_93f9478bef h4 | omega) (by first | exact q_9320ba2c05 h5 | omega)) (fun z28 h29 => ?_)
  have := (by decide : ((Int32.ofInt 0)).toInt = 0)
  refine En_callV rfl rfl rfl rfl rfl rfl rfl rfl tgz_3 (by decide +kernel) rfl (c_73x σ13 h14 ((Int32.ofInt 0)) z28 f ((h15 _ _ (inW tgz_3 (by decide +kernel))).trans h_f) h21) (by decide) (by decide) (fun v31 σ32 h30 => ?_)
  obtain ⟨h33, h34, z36, h37, z38, rfl, h35⟩ := h30
  have h39 := h35.2.2.2.2.2.2.2.2.2
  have h40 := Fr_trans h18 h34 (by decide +kernel)
  have h41 : tN By Nb ((Int32.ofInt 0)).toInt z28.toInt S19 = tN By Nb (0) (Sp.2.2.2 5 - 1) S19 := tN_cg2 (fun zz => by omega) (fun zz => by omega)
  obtain ⟨S42, h43⟩ : ∃ q : PS, q = tN By Nb (0) (Sp.2.2.2 5 - 1) S19 := ⟨_, rfl⟩
  have h44 : CT By Nb σ32 S42 := by rw [h43]; exact (CT_eq h39.1 h41)
  have h45 := CT_k h44 h37
  have h46 : Imp (S42.1 = 0) (z38.toInt = tV By Nb S19.2.2.1) := fun z => Imp_m h39.2 (by rw [h41, ← h43]; exact z)
  have h47 : Imp (S42.1 = 0) (S19.1 = 0 ∧ tK By Nb S19.2.2.1 = 2 ∧ 0 ≤ tV By Nb S19.2.2.1 ∧ tV By Nb S19.2.2.1 ≤ Sp.2.2.2 5 - 1) := fun z => tN_gg (by rw [← h43]; exact z)
  have h48 : S42.2.2.2 = S19.2.2.2 := by rw [h43]; exact tN_w
  have h49 := KN_fr hP h25 h34 (by decide +kernel)
  have h50 : S42.2.2.2 = Sp.2.2.2 := h48.trans h26
  have o51 : OUT σ0 σ32 a := OUT_fr o27 h34 (by decide +kernel)
  have h52 := Imp_m h35.2.2.2.2.2.2.2.1 (by first | exact q_7d8964ea46 h29 h4 | omega)
  have h53 := Imp_m h35.2.2.2.2.2.2.2.2.1 (by omega)
  refine En_Ps 5 (pc' := 20) (lv' := [(2, .int z38), (0, .ref 3), (1, .ref a)]) (st' := [.int ((z38 + ((Int32.ofInt 1)))), .ref 3]) rfl ?_
  refine En_top (addI rfl (by decide : (Int32.ofInt 1).toInt = 1) (by first | exact q_01db6a173f h53 | omega) (by first | exact q_d957616b8b h35.1 | omega)) (fun z54 h55 => ?_)
  refine En_Ps 1 (pc' := 21) (lv' := [(2, .int z38), (0, .ref 3), (1, .ref a)]) (st' := [.ref a, .int z54, .ref 3]) rfl ?_
  refine En_getK (j := 11) ((h34 _ _ (inW ha (by decide +kernel))).trans ((h15 _ _ (inW ha (by decide +kernel))).trans h2)) rfl rfl rfl ha (by decide +kernel) ?_
  refine En_Ps 2 (pc' := 26) (lv' := [(2, .int z38), (0, .ref 3), (1, .ref a)]) (st' := [.int ((z3 - ((Int32.ofInt 1)))), .int z54, .ref 3]) rfl ?_
  refine En_top (subI rfl (by decide : (Int32.ofInt 1).toInt = 1) (by first | exact q_93f9478bef h4 | omega) (by first | exact q_9320ba2c05 h5 | omega)) (fun z56 h57 => ?_)
  refine En_callV rfl rfl rfl rfl rfl rfl rfl rfl tgz_3 (by decide +kernel) rfl (c_73x σ32 h33 z54 z56 z36 h37 h44) (by decide) (by decide) (fun v59 σ60 h58 => ?_)
  obtain ⟨h61, h62, z64, h65, z66, rfl, h63⟩ := h58
  have h67 := h63.2.2.2.2.2.2.2.2.2
  have h68 := Fr_trans h40 h62 (by decide +kernel)
  have h69 : tN By Nb z54.toInt z56.toInt S42 = tN By Nb ((tV By Nb S19.2.2.1) + 1) (Sp.2.2.2 5 - 1) S42 := tN_cg2 (fun zz => by (try have i0 := Imp_m h47 (by omega)); (try have i1 := Imp_m h46 (by omega)); (try have i2 := Imp_m h35.2.2.2.2.2.1 (by omega)); (try have i3 := Imp_m h35.2.2.2.2.2.2.1 (by omega)); omega) (fun zz => by (try have i0 := Imp_m h47 (by omega)); (try have i1 := Imp_m h46 (by omega)); (try have i2 := Imp_m h35.2.2.2.2.2.1 (by omega)); (try have i3 := Imp_m h35.2.2.2.2.2.2.1 (by omega)); omega)
  obtain ⟨S70, h71⟩ : ∃ q : PS, q = tN By Nb ((tV By Nb S19.2.2.1) + 1) (Sp.2.2.2 5 - 1) S42 := ⟨_, rfl⟩
  have h72 : CT By Nb σ60 S70 := by rw [h71]; exact (CT_eq h67.1 h69)
  have h73 := CT_k h72 h65
  have h74 : Imp (S70.1 = 0) (z66.toInt = tV By Nb S42.2.2.1) := fun z => Imp_m h67.2 (by rw [h69, ← h71]; exact z)
  have h75 : Imp (S70.1 = 0) (S42.1 = 0 ∧ tK By Nb S42.2.2.1 = 2 ∧ (tV By Nb S19.2.2.1) + 1 ≤ tV By Nb S42.2.2.1 ∧ tV By Nb S42.2.2.1 ≤ Sp.2.2.2 5 - 1) := fun z => tN_gg (by rw [← h71]; exact z)
  have h76 : S70.2.2.2 = S42.2.2.2 := by rw [h71]; exact tN_w
  have h77 := KN_fr hP h49 h62 (by decide +kernel)
  have h78 : S70.2.2.2 = Sp.2.2.2 := h76.trans h50
  have o79 : OUT σ0 σ60 a := OUT_fr o51 h62 (by decide +kernel)
  have h80 := Imp_m h63.2.2.2.2.2.2.2.1 (by first | exact q_7d8964ea46 h57 h4 | omega)
  have h81 := Imp_m h63.2.2.2.2.2.2.2.2.1 (by first | exact q_c17a431393 h55 h53 | omega)
  refine En_Ps 2 (pc' := 31) (lv' := [(3, .int z66), (2, .int z38), (0, .ref 3), (1, .ref a)]) (st' := [.ref 3]) rfl ?_
  refine En_getK (j := 5) h65 rfl rfl rfl tgz_3 (by decide +kernel) ?_
  refine En_iNe _ rfl rfl (fun h82 => ?_) (fun h82 => ?_)
  · have h83 := Imp_m h63.2.2.2.2.2.2.1 (by first | exact q_e3350da514 h82 h63.2.1 | omega)
    have h84 : fAhead By Nb Sp = S70 := by unfold fAhead; (try dsimp only); first | (rw [← h20, ← h43, ← h71]; first | done | rfl) | (rw [← h20, ← h43, ← h71]; rw [if_pos (by omega)]; first | done | rfl) | (rw [← h20, ← h43, ← h71]; rw [if_neg (by omega)]; first | done | rfl) | (rw [← h20, ← h43, ← h71]; rw [if_neg (by omega), if_pos (by omega)]; first | done | rfl) | (rw [← h20, ← h43, ← h71]; rw [if_neg (by omega), if_neg (by omega)]; first | done | rfl) | (rw [← h20, ← h43, ← h71]; rw [if_neg (by omega), if_neg (by omega), if_neg (by omega)]; first | done | rfl)
    exact En_ret (v := none) rfl rfl rfl ⟨h61, h68, z64, h65, rfl, ⟨o79, by first | exact q_bc42505ae9 h82 h63.2.1 | omega, by first | exact q_c733b715bf h63.2.2.1 | omega, by first | exact q_ccc3bb8fc9 h35.2.2.2.1 h63.2.2.2.1 | omega, by first | exact q_28bfca2c13 h35.2.2.2.1 h63.2.2.2.1 | omega, (by rw [h84]; exact ⟨h72, fun z => absurd z (by omega)⟩)⟩⟩
  · have h85 := Imp_m h35.2.2.2.2.2.1 (by first | exact q_31d5f588b1 h63.2.2.2.1 h82 | omega)
    have h86 := Imp_m h63.2.2.2.2.2.1 (by first | exact q_c5d285f1b9 h82 | omega)
    try have h87 := Imp_m h75 (by omega)
    try have h88 := Imp_m h74 (by omega)
    try have h89 := Imp_m h47 (by omega)
    try have h90 := Imp_m h46 (by omega)
    refine En_Ps 1 (pc' := 38) (lv' := [(3, .int z66), (2, .int z38), (0, .ref 3), (1, .ref a)]) (st' := [.ref a]) rfl ?_
    refine En_getR (j := 13) (g' := 26) (u := 0) rfl rfl rfl ha (by decide +kernel) h61 (by decide +kernel) (fun a92 h91 ha92 => ?_)
    refine En_Ps 2 (pc' := 43) (lv' := [(3, .int z66), (2, .int z38), (0, .ref 3), (1, .ref a)]) (st' := [.int z66, .ref a92, .int z66, .ref a92]) rfl ?_
    refine En_iald (l := 0) (u := 63) rfl rfl ha92 (by decide +kernel) h61 (by first | exact q_8411496380 h86.1 h55 h53 | omega) (lnI (by decide +kernel : LN _ = 6) (by first | exact q_6c4e5973a4 h80 h57 h5 | omega)) (FTsgl (by decide +kernel)) (fun z94 h93 h95 h96 => ?_)
    have h99 : a92 = a + 8 := ref_uniq h91 (FXP_fr hP hX h68 (by decide +kernel)).2.2.2.2.2.1
    have h98 := lc_c (m := (tV By Nb S42.2.2.1)) (by omega) (by omega)
    have h97 : Sp.2.2.2 (155 + 2 * (tV By Nb S42.2.2.1)) = z94.toInt := KN_v h77 (Or.inr (Or.inr (Or.inr (Or.inr (Or.inr (Or.inl ⟨by omega, by omega, Or.inl (by omega)⟩)))))) (by omega) (by omega) (by omega) (by omega) h93
    refine En_Ps 4 (pc' := 48) (lv' := [(3, .int z66), (2, .int z38), (0, .ref 3), (1, .ref a)]) (st' := [.int ((z94 ||| ((Int32.ofInt 1) <<< (z38 &&& 31)))), .int z66, .ref a92]) rfl ?_
    refine En_nam (fun z100 h101 => ?_)
    have h102 := orP_v (x := z94) (y := z38) h101 rfl rfl (by omega) (by omega) (by omega) (by omega)
    have h103 : z100.toInt = orP (Sp.2.2.2 (155 + 2 * (tV By Nb S42.2.2.1))) (tV By Nb S19.2.2.1) := by rw [h102.1]; exact orP_cg (by omega) (by omega)
    refine En_iast (l := 0) (u := 63) rfl rfl ha92 (by decide +kernel) (by first | exact q_8411496380 h86.1 h55 h53 | omega) (lnI (by decide +kernel : LN _ = 6) (by first | exact q_6c4e5973a4 h80 h57 h5 | omega)) (FTsgl (by decide +kernel)) (rngI rfl (by omega) (by omega)) h61 h68 (by decide +kernel) (fun σ104 h105 h106 h107 h108 => ?_)
    have h109 : a92 = a + 8 := ref_uniq ((h108 _ _ (Or.inl (neTG ha ha92 (by decide)))).trans h91) (FXP_fr hP hX h106 (by decide +kernel)).2.2.2.2.2.1
    have h110 := lc_c (m := (tV By Nb S42.2.2.1)) (by omega) (by omega)
    obtain ⟨S111, h112⟩ : ∃ q : PS, q = wst S70 (155 + 2 * (tV By Nb S42.2.2.1)) (orP (Sp.2.2.2 (155 + 2 * (tV By Nb S42.2.2.1))) (tV By Nb S19.2.2.1)) := ⟨_, rfl⟩
    have h113 : CT By Nb σ104 S111 := by rw [h112]; exact CT_wst (CT_ne h72 h108 (by have := hP; unfold PLA at this; omega))
    have h114 : KN σ104 a (uPd Sp.2.2.2 (155 + 2 * (tV By Nb S42.2.2.1)) (orP (Sp.2.2.2 (155 + 2 * (tV By Nb S42.2.2.1))) (tV By Nb S19.2.2.1))) (fun t => (act Sp.2.2.2 t ∨ t = 155 + 2 * (tV By Nb S42.2.2.1))) := KN_st h77 h107 h108 (by omega) (by omega) (by omega) (by omega) (by (try have i0 := Imp_m h75 (by omega)); (try have i1 := Imp_m h74 (by omega)); (try have i2 := Imp_m h47 (by omega)); (try have i3 := Imp_m h46 (by omega)); (try have i4 := Imp_m h35.2.2.2.2.2.2.1 (by omega)); (try have i5 := Imp_m h63.2.2.2.2.2.2.1 (by omega)); omega)
    have h115 : S111.2.2.2 = (uPd Sp.2.2.2 (155 + 2 * (tV By Nb S42.2.2.1)) (orP (Sp.2.2.2 (155 + 2 * (tV By Nb S42.2.2.1))) (tV By Nb S19.2.2.1))) := by rw [h112]; show uPd S70.2.2.2 _ _ = _; rw [h78]
    have h116 : S111.1 = S70.1 := by rw [h112]; rfl
    have h117 := CT_k h113 ((h108 _ _ (Or.inl (neTG tgz_3 ha92 (by decide)))).trans h65)
    have o118 : OUT σ0 σ104 a := OUT_st o79 h108 (by omega)
    have h119 : fAhead By Nb Sp = S111 := by unfold fAhead; (try dsimp only); first | (rw [← h20, ← h43, ← h71, ← h112]; first | done | rfl) | (rw [← h20, ← h43, ← h71, ← h112]; rw [if_pos (by omega)]; first | done | rfl) | (rw [← h20, ← h43, ← h71, ← h112]; rw [if_neg (by omega)]; first | done | rfl) | (rw [← h20, ← h43, ← h71, ← h112]; rw [if_neg (by omega), if_pos (by omega)]; first | done | rfl) | (rw [← h20, ← h43, ← h71, ← h112]; rw [if_neg (by omega), if_neg (by omega)]; first | done | rfl) | (rw [← h20, ← h43, ← h71, ← h112]; rw [if_neg (by omega), if_neg (by omega), if_neg (by omega)]; first | done | rfl)
    exact En_ret (v := none) rfl rfl rfl ⟨h105, h106, z64, ((h108 _ _ (Or.inl (neTG tgz_3 ha92 (by decide)))).trans h65), rfl, ⟨o118, by first | exact q_a555021d16 h63.2.1 | omega, by first | exact q_bd3fa30443 h82 | omega, by first | exact q_ccc3bb8fc9 h35.2.2.2.1 h63.2.2.2.1 | omega, by first | exact q_28bfca2c13 h35.2.2.2.1 h63.2.2.2.1 | omega, (by rw [h119]; exact ⟨h113, fun zz => by rw [h115]; exact KN_sub h114 (fun t t0 t1 y => Or.inl (act_in (by omega) (by omega) y))⟩)⟩⟩
/-- DoorSchool$Reader.read(LDoorSchool$Plan;)V -/
abbrev P_60x (σ0 : SG) (By : Int → Int) (Nb : Int) (a : Nat) : PO := fun v σ => WT σ ∧ Fr [(3, 1), (3, 2), (3, 3), (3, 4), (3, 5), (3, 6), (18, 0), (18, 1), (18, 2), (18, 3), (18, 6), (18, 7), (18, 8), (18, 11), (18, 14), (20, 2), (21, 0), (22, 0), (23, 0), (24, 0), (25, 0), (26, 0), (28, 1), (28, 2), (28, 3)] σ0 σ ∧ ∃ f1 : Int32, (σ 3)[5]? = some (.int f1) ∧ ∃ sg1 : Int32, (σ a)[1]? = some (.int sg1) ∧ v = none ∧ OUT σ0 σ a ∧ -f1.toInt ≤ 0 ∧ f1.toInt - 3 ≤ 0 ∧ -sg1.toInt - 1 ≤ 0 ∧ sg1.toInt - 4 ≤ 0 ∧ -sg1.toInt - f1.toInt ≤ 0 ∧ (OTH a σ0 σ ∧ RDC By Nb a σ)
set_option maxRecDepth 10000 in
set_option maxHeartbeats 4000000 in
theorem c_60x {By : Int → Int} {Nb : Int} (σ0 : SG) (hσ0 : WT σ0) (a : Nat) (ha : TG a = 18) (hB : TPc By Nb σ0) (hP : PLA a) (hX : FXP σ0 a) : En 7 159 none mr_60 (P_60x σ0 By Nb a) 0 [(0, .ref 3), (1, .ref a)] [] σ0 := by
  have hF0 : Fr [(3, 1), (3, 2), (3, 3), (3, 4), (3, 5), (3, 6), (18, 0), (18, 1), (18, 2), (18, 3), (18, 6), (18, 7), (18, 8), (18, 11), (18, 14), (20, 2), (21, 0), (22, 0), (23, 0), (24, 0), (25, 0), (26, 0), (28, 1), (28, 2), (28, 3)] σ0 σ0 := Fr_rfl
  refine En_Ps 2 (pc' := 2) (lv' := [(0, .ref 3), (1, .ref a)]) (st' := [.int ((Int32.ofInt 0)), .ref 3]) rfl ?_
  refine En_put (j := 5) rfl rfl rfl tgz_3 (by decide +kernel) rfl (vI (l := 0) (u := 3) (by decide +kernel) (by decide : (Int32.ofInt 0).toInt = 0) (by decide) (by decide)) hσ0 hF0 (by decide +kernel) (fun σ1 h2 h3 h4 h5 => ?_)
  have h6 := OTH_pn (OTH_0 (a := a) (σ := σ0)) h5 tgz_3 (by decide)
  have o7 : OUT σ0 σ1 a := OUT_pn OUT_0 h5 tgz_3 (by decide)
  refine En_Ps 2 (pc' := 7) (lv' := [(0, .ref 3), (1, .ref a)]) (st' := [.int ((Int32.ofInt (-1))), .ref 3]) rfl ?_
  refine En_put (j := 6) rfl rfl rfl tgz_3 (by decide +kernel) rfl (vI (l := (-1)) (u := 1600) (by decide +kernel) (by decide : (Int32.ofInt (-1)).toInt = -1) (by decide) (by decide)) h2 h3 (by decide +kernel) (fun σ8 h9 h10 h11 h12 => ?_)
  have h13 := OTH_pn h6 h12 tgz_3 (by decide)
  have o14 : OUT σ0 σ8 a := OUT_pn o7 h12 tgz_3 (by decide)
  refine En_Ps 2 (pc' := 12) (lv' := [(0, .ref 3), (1, .ref a)]) (st' := [.int ((Int32.ofInt 0)), .ref 3]) rfl ?_
  refine En_put (j := 3) rfl rfl rfl tgz_3 (by decide +kernel) rfl (vI (l := 0) (u := 1600) (by decide +kernel) (by decide : (Int32.ofInt 0).toInt = 0) (by decide) (by decide)) h9 h10 (by decide +kernel) (fun σ15 h16 h17 h18 h19 => ?_)
  have h20 := OTH_pn h13 h19 tgz_3 (by decide)
  have o21 : OUT σ0 σ15 a := OUT_pn o14 h19 tgz_3 (by decide)
  refine En_Ps 1 (pc' := 16) (lv' := [(0, .ref 3), (1, .ref a)]) (st' := [.ref a]) rfl ?_
  refine En_callV rfl rfl rfl rfl rfl rfl rfl rfl ha (by decide +kernel) rfl (c_42x σ15 h16 a ha hP (FXP_fr hP hX h17 (by decide +kernel))) (by decide) (by decide) (fun v23 σ24 h22 => ?_)
  obtain ⟨h25, h26, z28, h29, z30, h31, rfl, h27⟩ := h22
  have h32 := h27.2.2.2.2.2.2.2.2.2
  have h33 := Fr_trans h17 h26 (by decide +kernel)
  have h34 := OTH_tr h20 h32.1
  have o35 : OUT σ0 σ24 a := OUT_tr o21 h27.1
  refine En_Ps 1 (pc' := 20) (lv' := [(0, .ref 3), (1, .ref a)]) (st' := [.ref 3]) rfl ?_
  refine En_callV rfl rfl rfl rfl rfl rfl rfl rfl tgz_3 (by decide +kernel) rfl (c_72x σ24 h25 ((Int32.ofInt 0)) ((h26 _ _ (inW tgz_3 (by decide +kernel))).trans h18) (TPc_fr hB h33 (by decide +kernel)) (by have := (by decide : (Int32.ofInt 0).toInt = 0); have := hB.1; omega)) (by decide) (by decide) (fun v37 σ38 h36 => ?_)
  obtain ⟨h39, h40, rfl, h41⟩ := h36
  have h42 := h41
  have h43 := Fr_trans h33 h40 (by decide +kernel)
  have h44 := OTH_fr h34 h40 (by decide +kernel)
  have h45 := KN_fr hP h32.2 h40 (by decide +kernel)
  have o46 : OUT σ0 σ38 a := OUT_fr o35 h40 (by decide +kernel)
  refine En_Ps 2 (pc' := 25) (lv' := [(2, .int ((Int32.ofInt 0))), (0, .ref 3), (1, .ref a)]) (st' := []) rfl ?_
  have key25 : ∀ (n25 : Nat) (σ195 : SG) (y47 : Int32) (y48 : Int32) (y49 : Int32) (y50 : Int32), WT σ195 → Fr [(3, 1), (3, 2), (3, 3), (3, 4), (3, 5), (3, 6), (18, 0), (18, 1), (18, 2), (18, 3), (18, 6), (18, 7), (18, 8), (18, 11), (18, 14), (20, 2), (21, 0), (22, 0), (23, 0), (24, 0), (25, 0), (26, 0), (28, 1), (28, 2), (28, 3)] σ0 σ195 → (σ195 3)[5]? = some (.int y48) → (σ195 a)[0]? = some (.int y49) → (σ195 a)[1]? = some (.int y50) → 0 ≤ y47.toInt → y47.toInt ≤ 1601 → 0 ≤ y48.toInt → y48.toInt ≤ 3 → 0 ≤ y49.toInt → y49.toInt ≤ 1601 → (-1) ≤ y50.toInt → y50.toInt ≤ 4 → -y50.toInt - y48.toInt ≤ 0 → -y50.toInt - y49.toInt ≤ 0 → y47.toInt - y49.toInt + z28.toInt ≤ 0 → -z28.toInt - y47.toInt + y49.toInt ≤ 0 → -y47.toInt + 1601 < (n25 : Int) → OTH a σ0 σ195 → RLI By Nb a σ195 y47.toInt → OUT σ0 σ195 a → En 7 159 none mr_60 (P_60x σ0 By Nb a) 25 [(0, .ref 3), (1, .ref a), (2, .int y47)] [] σ195 := by
    intro n25
    induction n25 with
    | zero =>
      intro σ195 y47 y48 y49 y50 h196 h197 h198 h199 h200 h201 h202 h203 h204 h205 h206 h207 h208 h209 h210 h211 h212 h213 h214 h215 h216
      obtain ⟨S217, f218, h219, h220, h221, h222⟩ := h215
      first | exact (q_313acc1a51 h213 h202).elim | (exfalso; omega)
    | succ n25 ih25 =>
      intro σ195 y47 y48 y49 y50 h196 h197 h198 h199 h200 h201 h202 h203 h204 h205 h206 h207 h208 h209 h210 h211 h212 h213 h214 h215 h216
      obtain ⟨S241, f242, h243, h244, h245, h246⟩ := h215
      refine En_Ps 2 (pc' := 29) (lv' := [(0, .ref 3), (1, .ref a), (2, .int y47)]) (st' := [.int (((Int16.ofInt 1600).toInt32)), .int y47]) rfl ?_
      refine En_icGt _ rfl (by decide : ((Int16.ofInt 1600).toInt32).toInt = 1600) rfl (fun h247 => ?_) (fun h247 => ?_)
      · exact En_ret (v := none) rfl rfl rfl ⟨h196, h197, y48, h198, y50, h200, rfl, ⟨h216, by first | exact q_c803b490ef h203 | omega, by first | exact q_e9a8eec0c4 h204 | omega, by first | exact q_909eef6c0e h207 | omega, by first | exact q_3919a0a4ce h208 | omega, by first | exact q_aa456fd6fe h209 | omega, ⟨h214, RLI_x h243 h244 h245 (fun zz => by omega)⟩⟩⟩
      · refine En_Ps 1 (pc' := 33) (lv' := [(0, .ref 3), (1, .ref a), (2, .int y47)]) (st' := [.ref 3]) rfl ?_
        refine En_getI (j := 1) (l := 0) (u := 4) rfl rfl rfl tgz_3 (by decide +kernel) h196 (by decide +kernel) (fun z249 h248 h250 h251 => ?_)
        have h252 := CT_k h243 h198
        have h253 : Imp (S241.1 = 0) (tK By Nb S241.2.2.1 = z249.toInt) := CT_t h243 h248
        refine En_iEq _ rfl rfl (fun h254 => ?_) (fun h254 => ?_)
        · exact En_ret (v := none) rfl rfl rfl ⟨h196, h197, y48, h198, y50, h200, rfl, ⟨h216, by first | exact q_c803b490ef h203 | omega, by first | exact q_e9a8eec0c4 h204 | omega, by first | exact q_909eef6c0e h207 | omega, by first | exact q_3919a0a4ce h208 | omega, by first | exact q_aa456fd6fe h209 | omega, ⟨h214, RLI_x h243 h244 h245 (fun zz => by (try have i0 := Imp_m h253 (by omega)); omega)⟩⟩⟩
        · refine En_Ps 1 (pc' := 40) (lv' := [(0, .ref 3), (1, .ref a), (2, .int y47)]) (st' := [.ref 3]) rfl ?_
          refine En_getK (j := 5) h198 rfl rfl rfl tgz_3 (by decide +kernel) ?_
          have h255 := CT_k h243 h198
          refine En_iNe _ rfl rfl (fun h256 => ?_) (fun h256 => ?_)
          · exact En_ret (v := none) rfl rfl rfl ⟨h196, h197, y48, h198, y50, h200, rfl, ⟨h216, by first | exact q_787f1164f6 h256 h203 | omega, by first | exact q_e9a8eec0c4 h204 | omega, by first | exact q_909eef6c0e h207 | omega, by first | exact q_3919a0a4ce h208 | omega, by first | exact q_aa456fd6fe h209 | omega, ⟨h214, RLI_x h243 h244 h245 (fun zz => by (try have i0 := Imp_m h253 (by omega)); omega)⟩⟩⟩
          · have h257 : S241.1 = 0 := by omega
            try have h261 := Imp_m h253 (by omega)
            obtain ⟨h258, h259⟩ := h244 h257
            have h260 : S241.2.2.2 7 = y49.toInt := KN_v h258 (Or.inl (by decide)) (by decide) (by decide) (by rw [lcO_lt (by decide) (by decide), Nat.add_zero]) (by decide) h199
            have keyj199 : ∀ (σ262 : SG) (y265 : Int32) (y269 : Int32) (y273 : Int32), WT σ262 → Fr [(3, 1), (3, 2), (3, 3), (3, 4), (3, 5), (3, 6), (18, 0), (18, 1), (18, 2), (18, 3), (18, 6), (18, 7), (18, 8), (18, 11), (18, 14), (20, 2), (21, 0), (22, 0), (23, 0), (24, 0), (25, 0), (26, 0), (28, 1), (28, 2), (28, 3)] σ0 σ262 → (σ262 3)[5]? = some (.int y265) → 0 ≤ y265.toInt → y265.toInt ≤ 3 → (σ262 a)[1]? = some (.int y269) → (-1) ≤ y269.toInt → y269.toInt ≤ 4 → (σ262 a)[0]? = some (.int y273) → 0 ≤ y273.toInt → y273.toInt ≤ 1601 → -y269.toInt - y265.toInt ≤ 0 → y273.toInt - y49.toInt ≤ 0 ∧ -y273.toInt + y49.toInt ≤ 0 → OTH a σ0 σ262 → CT By Nb σ262 (fL1 By Nb S241) → Imp ((fL1 By Nb S241).1 = 0) (KN σ262 a (fL1 By Nb S241).2.2.2 (act (fL1 By Nb S241).2.2.2)) → OUT σ0 σ262 a → En 7 159 none mr_60 (P_60x σ0 By Nb a) 199 [(0, .ref 3), (1, .ref a), (2, .int y47)] [] σ262 := by
              intro σ262 y265 y269 y273 h263 h264 h266 h267 h268 h270 h271 h272 h274 h275 h276 h277 h278 h279 h280 h281 h282
              refine En_Ps 2 (pc' := 201) (lv' := [(0, .ref 3), (1, .ref a), (2, .int y47)]) (st' := [.ref 3, .ref 3]) rfl ?_
              refine En_getI (j := 1) (l := 0) (u := 4) rfl rfl rfl tgz_3 (by decide +kernel) h263 (by decide +kernel) (fun z284 h283 h285 h286 => ?_)
              have h287 := CT_k h280 h266
              have h288 : Imp ((fL1 By Nb S241).1 = 0) (tK By Nb (fL1 By Nb S241).2.2.1 = z284.toInt) := CT_t h280 h283
              refine En_Ps 1 (pc' := 205) (lv' := [(0, .ref 3), (1, .ref a), (2, .int y47)]) (st' := [.int ((Int32.ofInt 3)), .int z284, .ref 3]) rfl ?_
              refine En_icNe _ rfl (by decide : (Int32.ofInt 3).toInt = 3) rfl (fun h289 => ?_) (fun h289 => ?_)
              · refine En_Ps 1 (pc' := 213) (lv' := [(0, .ref 3), (1, .ref a), (2, .int y47)]) (st' := [.int ((Int32.ofInt 0)), .ref 3]) rfl ?_
                have := (by decide : ((Int32.ofInt 0)).toInt = 0)
                refine En_callV rfl rfl rfl rfl rfl rfl rfl rfl tgz_3 (by decide +kernel) rfl (c_59x σ262 h263 ((Int32.ofInt 0)) (geI (by decide : (Int32.ofInt 0).toInt = 0) (by decide)) (leI (by decide : (Int32.ofInt 0).toInt = 0) (by decide)) y265 h266 h280) (by decide) (by decide) (fun v291 σ292 h290 => ?_)
                obtain ⟨h293, h294, z296, h297, rfl, h295⟩ := h290
                have h298 := h295.2.2.2.2.2.2
                have h299 := Fr_trans h264 h294 (by decide +kernel)
                have h300 := OTH_fr h279 h294 (by decide +kernel)
                have h301 : pss By Nb ((Int32.ofInt 0)).toInt (fL1 By Nb S241) = pss By Nb (if tK By Nb (fL1 By Nb S241).2.2.1 = 3 then 1 else 0) (fL1 By Nb S241) := pss_cg2 (fun zz => by (try have i0 := Imp_m h288 (by omega)); first | (rw [if_pos (by omega)]; omega) | (rw [if_neg (by omega)]; omega))
                obtain ⟨S302, h303⟩ : ∃ q : PS, q = pss By Nb (if tK By Nb (fL1 By Nb S241).2.2.1 = 3 then 1 else 0) (fL1 By Nb S241) := ⟨_, rfl⟩
                have h304 : CT By Nb σ292 S302 := by rw [h303]; exact (CT_eq h298 h301)
                have h305 := CT_k h304 h297
                have h306 : S302.2.2.2 = (fL1 By Nb S241).2.2.2 := by rw [h303]; exact pss_w
                have h307 : Imp (S302.1 = 0) ((fL1 By Nb S241).1 = 0) := fun z => (pss_g (by rw [h301, ← h303]; exact z)).1
                have h308 : Imp (S302.1 = 0) (((Int32.ofInt 0)).toInt = 1) := fun z => (pss_g (by rw [h301, ← h303]; exact z)).2.1
                have h309 : Imp (S302.1 = 0) (KN σ292 a S302.2.2.2 (act S302.2.2.2)) := fun z => by (try have i0 := Imp_m h308 (by omega)); (try have i1 := Imp_m h307 (by omega)); (try have i2 := Imp_m h288 (by omega)); rw [h306]; exact KN_fr hP (Imp_m h281 (by omega)) h294 (by decide +kernel)
                have o310 : OUT σ0 σ292 a := OUT_fr h282 h294 (by decide +kernel)
                have h311 := Imp_m h295.2.2.2.2.2.1 (by omega)
                refine En_Ps 2 (pc' := 218) (lv' := [(0, .ref 3), (1, .ref a), (2, .int y47)]) (st' := [.ref a, .ref a]) rfl ?_
                refine En_getK (j := 0) ((h294 _ _ (inW ha (by decide +kernel))).trans h274) rfl rfl rfl ha (by decide +kernel) ?_
                refine En_Ps 2 (pc' := 223) (lv' := [(0, .ref 3), (1, .ref a), (2, .int y47)]) (st' := [.int ((y273 + ((Int32.ofInt 1)))), .ref a]) rfl ?_
                refine En_top (addI rfl (by decide : (Int32.ofInt 1).toInt = 1) (by first | exact q_465ab79ac1 h275 | omega) (by first | exact q_3f2a934ec4 h276 | omega)) (fun z312 h313 => ?_)
                refine En_put (j := 0) rfl rfl rfl ha (by decide +kernel) rfl (vI (l := 0) (u := 1601) (by decide +kernel) rfl (by first | exact q_35104ce9d3 h313 h275 | omega) (by omega)) h293 h299 (by decide +kernel) (fun σ314 h315 h316 h317 h318 => ?_)
                have h319 := OTH_pj h300 h318 (by decide)
                obtain ⟨S320, h321⟩ : ∃ q : PS, q = wst S302 7 (S241.2.2.2 7 + 1) := ⟨_, rfl⟩
                have h322 : CT By Nb σ314 S320 := by rw [h321]; exact CT_wst (CT_ne h304 h318 (by have := hP; unfold PLA at this; omega))
                have h323 : Imp (S320.1 = 0) (KN σ314 a S320.2.2.2 (act S320.2.2.2)) := fun zz => by rw [h321] at zz ⊢; exact KN_sub (KN_st (j := 7) (v := S241.2.2.2 7 + 1) (Imp_m h309 zz) h317 h318 (by decide) (by decide) (by rw [lcO_lt (by decide) (by decide), Nat.add_zero]) (by decide) (by omega)) (fun t t0 t1 y => Or.inl (act_low (by decide) y))
                have h324 : fLine By Nb S241 = S320 := fL_line h303 h321
                have h325 : S320.2.2.2 7 = S241.2.2.2 7 + 1 := by rw [h321]; show (if (7 : Int) = 7 then S241.2.2.2 7 + 1 else S302.2.2.2 7) = S241.2.2.2 7 + 1; exact if_pos rfl
                have o326 : OUT σ0 σ314 a := OUT_st o310 h318 (by omega)
                refine En_Ps 1 (pc' := 229) (lv' := [(2, .int ((y47 + Int32.ofInt 1))), (0, .ref 3), (1, .ref a)]) (st' := []) rfl ?_
                refine En_lv1 (addI rfl (by decide : (Int32.ofInt 1).toInt = 1) (by first | exact q_465ab79ac1 h201 | omega) (by first | exact q_1c9c6c18a7 h247 | omega)) (fun z327 h328 => ?_)
                refine En_Ps 1 (pc' := 25) (lv' := [(2, .int z327), (0, .ref 3), (1, .ref a)]) (st' := []) rfl ?_
                refine En_lv (lv := [(0, .ref 3), (1, .ref a), (2, .int z327)]) ⟨rfl, rfl, rfl, trivial⟩ ?_
                exact ih25 σ314 z327 z296 z312 y269 h315 h316 ((h318 _ _ (Or.inr (by decide))).trans h297) h317 ((h318 _ _ (Or.inr (by decide))).trans ((h294 _ _ (inW ha (by decide +kernel))).trans h270)) (by first | exact q_35104ce9d3 h328 h201 | omega) (by first | exact q_cac708c19b h328 h247 | omega) (by first | exact q_996aa4c518 h311 | omega) (by first | exact q_87d9217d84 h295.2.1 | omega) (by first | exact q_35104ce9d3 h313 h275 | omega) (by omega) (by first | exact q_77b189e83d h271 | omega) (by first | exact q_c82ed93a8c h272 | omega) (by first | exact q_021a34f81f h271 h311 | omega) (by first | exact q_438bc66a3b h271 h313 h275 | omega) (by omega) (by omega) (by first | exact q_1df1dba3ad h328 h213 | omega) (h319) (RLI_s h245 h246 (by omega) h257 (by omega) h324 h322 h323 h325 (by omega)) (o326)
              · refine En_Ps 2 (pc' := 213) (lv' := [(0, .ref 3), (1, .ref a), (2, .int y47)]) (st' := [.int ((Int32.ofInt 1)), .ref 3]) rfl ?_
                have := (by decide : ((Int32.ofInt 1)).toInt = 1)
                refine En_callV rfl rfl rfl rfl rfl rfl rfl rfl tgz_3 (by decide +kernel) rfl (c_59x σ262 h263 ((Int32.ofInt 1)) (geI (by decide : (Int32.ofInt 1).toInt = 1) (by decide)) (leI (by decide : (Int32.ofInt 1).toInt = 1) (by decide)) y265 h266 h280) (by decide) (by decide) (fun v330 σ331 h329 => ?_)
                obtain ⟨h332, h333, z335, h336, rfl, h334⟩ := h329
                have h337 := h334.2.2.2.2.2.2
                have h338 := Fr_trans h264 h333 (by decide +kernel)
                have h339 := OTH_fr h279 h333 (by decide +kernel)
                have h340 : pss By Nb ((Int32.ofInt 1)).toInt (fL1 By Nb S241) = pss By Nb (if tK By Nb (fL1 By Nb S241).2.2.1 = 3 then 1 else 0) (fL1 By Nb S241) := pss_cg2 (fun zz => by (try have i0 := Imp_m h288 (by omega)); first | (rw [if_pos (by omega)]; omega) | (rw [if_neg (by omega)]; omega))
                obtain ⟨S341, h342⟩ : ∃ q : PS, q = pss By Nb (if tK By Nb (fL1 By Nb S241).2.2.1 = 3 then 1 else 0) (fL1 By Nb S241) := ⟨_, rfl⟩
                have h343 : CT By Nb σ331 S341 := by rw [h342]; exact (CT_eq h337 h340)
                have h344 := CT_k h343 h336
                have h345 : S341.2.2.2 = (fL1 By Nb S241).2.2.2 := by rw [h342]; exact pss_w
                have h346 : Imp (S341.1 = 0) ((fL1 By Nb S241).1 = 0) := fun z => (pss_g (by rw [h340, ← h342]; exact z)).1
                have h347 : Imp (S341.1 = 0) (((Int32.ofInt 1)).toInt = 1) := fun z => (pss_g (by rw [h340, ← h342]; exact z)).2.1
                have h348 : Imp (S341.1 = 0) (KN σ331 a S341.2.2.2 (act S341.2.2.2)) := fun z => by (try have i0 := Imp_m h347 (by omega)); (try have i1 := Imp_m h346 (by omega)); (try have i2 := Imp_m h288 (by omega)); rw [h345]; exact KN_fr hP (Imp_m h281 (by omega)) h333 (by decide +kernel)
                have o349 : OUT σ0 σ331 a := OUT_fr h282 h333 (by decide +kernel)
                have h350 := Imp_m h334.2.2.2.1 (by omega)
                refine En_Ps 2 (pc' := 218) (lv' := [(0, .ref 3), (1, .ref a), (2, .int y47)]) (st' := [.ref a, .ref a]) rfl ?_
                refine En_getK (j := 0) ((h333 _ _ (inW ha (by decide +kernel))).trans h274) rfl rfl rfl ha (by decide +kernel) ?_
                refine En_Ps 2 (pc' := 223) (lv' := [(0, .ref 3), (1, .ref a), (2, .int y47)]) (st' := [.int ((y273 + ((Int32.ofInt 1)))), .ref a]) rfl ?_
                refine En_top (addI rfl (by decide : (Int32.ofInt 1).toInt = 1) (by first | exact q_465ab79ac1 h275 | omega) (by first | exact q_3f2a934ec4 h276 | omega)) (fun z351 h352 => ?_)
                refine En_put (j := 0) rfl rfl rfl ha (by decide +kernel) rfl (vI (l := 0) (u := 1601) (by decide +kernel) rfl (by first | exact q_35104ce9d3 h352 h275 | omega) (by omega)) h332 h338 (by decide +kernel) (fun σ353 h354 h355 h356 h357 => ?_)
                have h358 := OTH_pj h339 h357 (by decide)
                obtain ⟨S359, h360⟩ : ∃ q : PS, q = wst S341 7 (S241.2.2.2 7 + 1) := ⟨_, rfl⟩
                have h361 : CT By Nb σ353 S359 := by rw [h360]; exact CT_wst (CT_ne h343 h357 (by have := hP; unfold PLA at this; omega))
                have h362 : Imp (S359.1 = 0) (KN σ353 a S359.2.2.2 (act S359.2.2.2)) := fun zz => by rw [h360] at zz ⊢; exact KN_sub (KN_st (j := 7) (v := S241.2.2.2 7 + 1) (Imp_m h348 zz) h356 h357 (by decide) (by decide) (by rw [lcO_lt (by decide) (by decide), Nat.add_zero]) (by decide) (by omega)) (fun t t0 t1 y => Or.inl (act_low (by decide) y))
                have h363 : fLine By Nb S241 = S359 := fL_line h342 h360
                have h364 : S359.2.2.2 7 = S241.2.2.2 7 + 1 := by rw [h360]; show (if (7 : Int) = 7 then S241.2.2.2 7 + 1 else S341.2.2.2 7) = S241.2.2.2 7 + 1; exact if_pos rfl
                have o365 : OUT σ0 σ353 a := OUT_st o349 h357 (by omega)
                refine En_Ps 1 (pc' := 229) (lv' := [(2, .int ((y47 + Int32.ofInt 1))), (0, .ref 3), (1, .ref a)]) (st' := []) rfl ?_
                refine En_lv1 (addI rfl (by decide : (Int32.ofInt 1).toInt = 1) (by first | exact q_465ab79ac1 h201 | omega) (by first | exact q_1c9c6c18a7 h247 | omega)) (fun z366 h367 => ?_)
                refine En_Ps 1 (pc' := 25) (lv' := [(2, .int z366), (0, .ref 3), (1, .ref a)]) (st' := []) rfl ?_
                refine En_lv (lv := [(0, .ref 3), (1, .ref a), (2, .int z366)]) ⟨rfl, rfl, rfl, trivial⟩ ?_
                exact ih25 σ353 z366 z335 z351 y269 h354 h355 ((h357 _ _ (Or.inr (by decide))).trans h336) h356 ((h357 _ _ (Or.inr (by decide))).trans ((h333 _ _ (inW ha (by decide +kernel))).trans h270)) (by first | exact q_35104ce9d3 h367 h201 | omega) (by first | exact q_cac708c19b h367 h247 | omega) (by first | exact q_ef1e8e38bf h334.1 | omega) (by first | exact q_87d9217d84 h334.2.1 | omega) (by first | exact q_35104ce9d3 h352 h275 | omega) (by omega) (by first | exact q_77b189e83d h271 | omega) (by first | exact q_c82ed93a8c h272 | omega) (by omega) (by first | exact q_438bc66a3b h271 h352 h275 | omega) (by omega) (by omega) (by first | exact q_1df1dba3ad h367 h213 | omega) (h358) (RLI_s h245 h246 (by omega) h257 (by omega) h363 h361 h362 h364 (by omega)) (o365)
            refine En_Ps 1 (pc' := 47) (lv' := [(0, .ref 3), (1, .ref a), (2, .int y47)]) (st' := [.int y47]) rfl ?_
            refine En_iNe _ rfl rfl (fun h368 => ?_) (fun h368 => ?_)
            · refine En_Ps 1 (pc' := 59) (lv' := [(0, .ref 3), (1, .ref a), (2, .int y47)]) (st' := [.ref 3]) rfl ?_
              refine En_ldcS (i := 2) rfl rfl rfl ?_
              refine En_callV rfl rfl rfl rfl rfl rfl rfl rfl tgz_3 (by decide +kernel) rfl (c_71s2x σ195 h196 h243) (by decide) (by decide) (fun v370 σ371 h369 => ?_)
              obtain ⟨h372, h373, z375, rfl, h374⟩ := h369
              have h376 := h374.2.2
              obtain rfl : σ195 = σ371 := Fr_nil h373
              have h377 := h376
              try have h378 := Imp_m h377 (by omega)
              try have h379 := Imp_m h253 (by omega)
              refine En_iEq _ rfl rfl (fun h380 => ?_) (fun h380 => ?_)
              · refine En_Ps 1 (pc' := 76) (lv' := [(0, .ref 3), (1, .ref a), (2, .int y47)]) (st' := [.ref 3]) rfl ?_
                refine En_ldcS (i := 6) rfl rfl rfl ?_
                refine En_callV rfl rfl rfl rfl rfl rfl rfl rfl tgz_3 (by decide +kernel) rfl (c_71s6x σ195 h196 h243) (by decide) (by decide) (fun v382 σ383 h381 => ?_)
                obtain ⟨h384, h385, z387, rfl, h386⟩ := h381
                have h388 := h386.2.2
                obtain rfl : σ195 = σ383 := Fr_nil h385
                have h389 := h388
                try have h390 := Imp_m h389 (by omega)
                try have h391 := Imp_m h377 (by omega)
                try have h392 := Imp_m h253 (by omega)
                refine En_iEq _ rfl rfl (fun h393 => ?_) (fun h393 => ?_)
                · refine En_Ps 1 (pc' := 93) (lv' := [(0, .ref 3), (1, .ref a), (2, .int y47)]) (st' := [.ref 3]) rfl ?_
                  refine En_ldcS (i := 3) rfl rfl rfl ?_
                  refine En_callV rfl rfl rfl rfl rfl rfl rfl rfl tgz_3 (by decide +kernel) rfl (c_71s3x σ195 h196 h243) (by decide) (by decide) (fun v395 σ396 h394 => ?_)
                  obtain ⟨h397, h398, z400, rfl, h399⟩ := h394
                  have h401 := h399.2.2
                  obtain rfl : σ195 = σ396 := Fr_nil h398
                  have h402 := h401
                  try have h403 := Imp_m h402 (by omega)
                  try have h404 := Imp_m h389 (by omega)
                  try have h405 := Imp_m h377 (by omega)
                  try have h406 := Imp_m h253 (by omega)
                  refine En_iEq _ rfl rfl (fun h407 => ?_) (fun h407 => ?_)
                  · refine En_Ps 1 (pc' := 110) (lv' := [(0, .ref 3), (1, .ref a), (2, .int y47)]) (st' := [.ref 3]) rfl ?_
                    refine En_ldcS (i := 17) rfl rfl rfl ?_
                    refine En_callV rfl rfl rfl rfl rfl rfl rfl rfl tgz_3 (by decide +kernel) rfl (c_71s17x σ195 h196 h243) (by decide) (by decide) (fun v409 σ410 h408 => ?_)
                    obtain ⟨h411, h412, z414, rfl, h413⟩ := h408
                    have h415 := h413.2.2
                    obtain rfl : σ195 = σ410 := Fr_nil h412
                    have h416 := h415
                    try have h417 := Imp_m h416 (by omega)
                    try have h418 := Imp_m h402 (by omega)
                    try have h419 := Imp_m h389 (by omega)
                    try have h420 := Imp_m h377 (by omega)
                    try have h421 := Imp_m h253 (by omega)
                    refine En_iEq _ rfl rfl (fun h422 => ?_) (fun h422 => ?_)
                    · refine En_Ps 1 (pc' := 127) (lv' := [(0, .ref 3), (1, .ref a), (2, .int y47)]) (st' := [.ref 3]) rfl ?_
                      refine En_ldcS (i := 9) rfl rfl rfl ?_
                      refine En_callV rfl rfl rfl rfl rfl rfl rfl rfl tgz_3 (by decide +kernel) rfl (c_71s9x σ195 h196 h243) (by decide) (by decide) (fun v424 σ425 h423 => ?_)
                      obtain ⟨h426, h427, z429, rfl, h428⟩ := h423
                      have h430 := h428.2.2
                      obtain rfl : σ195 = σ425 := Fr_nil h427
                      have h431 := h430
                      try have h432 := Imp_m h431 (by omega)
                      try have h433 := Imp_m h416 (by omega)
                      try have h434 := Imp_m h402 (by omega)
                      try have h435 := Imp_m h389 (by omega)
                      try have h436 := Imp_m h377 (by omega)
                      try have h437 := Imp_m h253 (by omega)
                      refine En_iEq _ rfl rfl (fun h438 => ?_) (fun h438 => ?_)
                      · refine En_Ps 1 (pc' := 144) (lv' := [(0, .ref 3), (1, .ref a), (2, .int y47)]) (st' := [.ref 3]) rfl ?_
                        refine En_ldcS (i := 5) rfl rfl rfl ?_
                        refine En_callV rfl rfl rfl rfl rfl rfl rfl rfl tgz_3 (by decide +kernel) rfl (c_71s5x σ195 h196 h243) (by decide) (by decide) (fun v440 σ441 h439 => ?_)
                        obtain ⟨h442, h443, z445, rfl, h444⟩ := h439
                        have h446 := h444.2.2
                        obtain rfl : σ195 = σ441 := Fr_nil h443
                        have h447 := h446
                        try have h448 := Imp_m h447 (by omega)
                        try have h449 := Imp_m h431 (by omega)
                        try have h450 := Imp_m h416 (by omega)
                        try have h451 := Imp_m h402 (by omega)
                        try have h452 := Imp_m h389 (by omega)
                        try have h453 := Imp_m h377 (by omega)
                        try have h454 := Imp_m h253 (by omega)
                        refine En_iEq _ rfl rfl (fun h455 => ?_) (fun h455 => ?_)
                        · refine En_Ps 1 (pc' := 161) (lv' := [(0, .ref 3), (1, .ref a), (2, .int y47)]) (st' := [.ref 3]) rfl ?_
                          refine En_ldcS (i := 1) rfl rfl rfl ?_
                          refine En_callV rfl rfl rfl rfl rfl rfl rfl rfl tgz_3 (by decide +kernel) rfl (c_71s1x σ195 h196 h243) (by decide) (by decide) (fun v457 σ458 h456 => ?_)
                          obtain ⟨h459, h460, z462, rfl, h461⟩ := h456
                          have h463 := h461.2.2
                          obtain rfl : σ195 = σ458 := Fr_nil h460
                          have h464 := h463
                          try have h465 := Imp_m h464 (by omega)
                          try have h466 := Imp_m h447 (by omega)
                          try have h467 := Imp_m h431 (by omega)
                          try have h468 := Imp_m h416 (by omega)
                          try have h469 := Imp_m h402 (by omega)
                          try have h470 := Imp_m h389 (by omega)
                          try have h471 := Imp_m h377 (by omega)
                          try have h472 := Imp_m h253 (by omega)
                          refine En_iEq _ rfl rfl (fun h473 => ?_) (fun h473 => ?_)
                          · refine En_Ps 1 (pc' := 178) (lv' := [(0, .ref 3), (1, .ref a), (2, .int y47)]) (st' := [.ref 3]) rfl ?_
                            refine En_ldcS (i := 0) rfl rfl rfl ?_
                            refine En_callV rfl rfl rfl rfl rfl rfl rfl rfl tgz_3 (by decide +kernel) rfl (c_71s0x σ195 h196 h243) (by decide) (by decide) (fun v475 σ476 h474 => ?_)
                            obtain ⟨h477, h478, z480, rfl, h479⟩ := h474
                            have h481 := h479.2.2
                            obtain rfl : σ195 = σ476 := Fr_nil h478
                            have h482 := h481
                            try have h483 := Imp_m h482 (by omega)
                            try have h484 := Imp_m h464 (by omega)
                            try have h485 := Imp_m h447 (by omega)
                            try have h486 := Imp_m h431 (by omega)
                            try have h487 := Imp_m h416 (by omega)
                            try have h488 := Imp_m h402 (by omega)
                            try have h489 := Imp_m h389 (by omega)
                            try have h490 := Imp_m h377 (by omega)
                            try have h491 := Imp_m h253 (by omega)
                            refine En_iEq _ rfl rfl (fun h492 => ?_) (fun h492 => ?_)
                            · refine En_Ps 2 (pc' := 196) (lv' := [(0, .ref 3), (1, .ref a), (2, .int y47)]) (st' := [.int ((Int32.ofInt 1)), .ref 3]) rfl ?_
                              have := (by decide : ((Int32.ofInt 1)).toInt = 1)
                              refine En_callV rfl rfl rfl rfl rfl rfl rfl rfl tgz_3 (by decide +kernel) rfl (c_54x σ195 h196 ((Int32.ofInt 1)) (geI (by decide : (Int32.ofInt 1).toInt = 1) (by decide)) (leI (by decide : (Int32.ofInt 1).toInt = 1) (by decide)) y48 h198 h243) (by decide) (by decide) (fun v494 σ495 h493 => ?_)
                              obtain ⟨h496, h497, z499, h500, rfl, h498⟩ := h493
                              have h501 := h498.2.2.2.2.2
                              have h502 := Fr_trans h197 h497 (by decide +kernel)
                              have h503 := OTH_fr h214 h497 (by decide +kernel)
                              obtain ⟨S504, h505⟩ : ∃ q : PS, q = err By Nb 1 S241 := ⟨_, rfl⟩
                              have h506 : CT By Nb σ495 S504 := by rw [h505]; exact (CT_eq h501 (err_cg (by omega)))
                              have h507 := CT_k h506 h500
                              have h508 : Imp (S504.1 = 0) (tK By Nb S504.2.2.1 = z249.toInt) := CT_t h506 ((h497 _ _ (inW tgz_3 (by decide +kernel))).trans h248)
                              have h509 : Imp (S504.1 = 0) (KN σ495 a S504.2.2.2 (act S504.2.2.2)) := fun z => by rw [h505] at z; exact absurd z (err_ne (by decide))
                              have o510 : OUT σ0 σ495 a := OUT_fr h216 h497 (by decide +kernel)
                              have h511 := Imp_m h498.2.2.2.1 (by first | exact q_c5d285f1b9 h256 | omega)
                              have h512 : fL1 By Nb S241 = S504 := by rw [h505]; exact (fL1_1 (by omega)).trans (fNx_n (by omega) (by omega) (by omega) (by omega) (by omega) (by omega) (by omega) (by omega))
                              exact keyj199 σ495 z499 y50 y49 h496 h502 h500 (by first | exact q_996aa4c518 h498.1 | omega) (by first | exact q_87d9217d84 h498.2.1 | omega) ((h497 _ _ (inW ha (by decide +kernel))).trans h200) (by first | exact q_77b189e83d h207 | omega) (by first | exact q_c82ed93a8c h208 | omega) ((h497 _ _ (inW ha (by decide +kernel))).trans h199) (by first | exact q_58e6e51dcc h205 | omega) (by first | exact q_3232882bcd h206 | omega) (by omega) (by omega) (h503) (CT_eq h506 h512.symm) (by rw [h512]; exact h509) (o510)
                            · refine En_Ps 2 (pc' := 188) (lv' := [(0, .ref 3), (1, .ref a), (2, .int y47)]) (st' := [.ref a, .ref 3]) rfl ?_
                              refine En_callV rfl rfl rfl rfl rfl rfl rfl rfl tgz_3 (by decide +kernel) rfl (c_61x σ195 h196 a ha y48 h198 y50 h200 (by first | exact q_8ecf8a2bf8 h209 h256 | omega) h243 (by omega) hP (FXP_fr hP hX h197 (by decide +kernel)) h258) (by decide) (by decide) (fun v514 σ515 h513 => ?_)
                              obtain ⟨h516, h517, z519, h520, rfl, h518⟩ := h513
                              have h521 := h518.2.2.2.2.2
                              have h522 := Fr_trans h197 h517 (by decide +kernel)
                              have h523 := OTH_fr h214 h517 (by decide +kernel)
                              obtain ⟨S524, h525⟩ : ∃ q : PS, q = fAhead By Nb S241 := ⟨_, rfl⟩
                              have h526 : CT By Nb σ515 S524 := by rw [h525]; exact h521.1
                              have h527 := CT_k h526 h520
                              have h528 : Imp (S524.1 = 0) (KN σ515 a S524.2.2.2 (act S524.2.2.2)) := fun z => by rw [h525] at z ⊢; exact h521.2 z
                              have o529 : OUT σ0 σ515 a := OUT_tr h216 h518.1
                              refine En_Ps 1 (pc' := 199) (lv' := [(0, .ref 3), (1, .ref a), (2, .int y47)]) (st' := []) rfl ?_
                              have h530 : fL1 By Nb S241 = S524 := by rw [h525]; exact (fL1_1 (by omega)).trans (fNx_0 (by omega) (by omega) (by omega) (by omega) (by omega) (by omega) (by omega) (by omega))
                              exact keyj199 σ515 z519 y50 y49 h516 h522 h520 (by first | exact q_ef1e8e38bf h518.2.1 | omega) (by first | exact q_87d9217d84 h518.2.2.1 | omega) ((h517 _ _ (inW ha (by decide +kernel))).trans h200) (by first | exact q_77b189e83d h207 | omega) (by first | exact q_c82ed93a8c h208 | omega) ((h517 _ _ (inW ha (by decide +kernel))).trans h199) (by first | exact q_58e6e51dcc h205 | omega) (by first | exact q_3232882bcd h206 | omega) (by omega) (by omega) (h523) (CT_eq h526 h530.symm) (by rw [h530]; exact h528) (o529)
                          · refine En_Ps 2 (pc' := 171) (lv' := [(0, .ref 3), (1, .ref a), (2, .int y47)]) (st' := [.ref a, .ref 3]) rfl ?_
                            refine En_callV rfl rfl rfl rfl rfl rfl rfl rfl tgz_3 (by decide +kernel) rfl (c_62x σ195 h196 a ha y48 h198 y50 h200 (by first | exact q_8ecf8a2bf8 h209 h256 | omega) h243 (by omega) hP (FXP_fr hP hX h197 (by decide +kernel)) h258) (by decide) (by decide) (fun v532 σ533 h531 => ?_)
                            obtain ⟨h534, h535, z537, h538, rfl, h536⟩ := h531
                            have h539 := h536.2.2.2.2.2
                            have h540 := Fr_trans h197 h535 (by decide +kernel)
                            have h541 := OTH_fr h214 h535 (by decide +kernel)
                            obtain ⟨S542, h543⟩ : ∃ q : PS, q = fCourse By Nb S241 := ⟨_, rfl⟩
                            have h544 : CT By Nb σ533 S542 := by rw [h543]; exact h539.1
                            have h545 := CT_k h544 h538
                            have h546 : Imp (S542.1 = 0) (KN σ533 a S542.2.2.2 (act S542.2.2.2)) := fun z => by rw [h543] at z ⊢; exact h539.2 z
                            have o547 : OUT σ0 σ533 a := OUT_tr h216 h536.1
                            refine En_Ps 1 (pc' := 199) (lv' := [(0, .ref 3), (1, .ref a), (2, .int y47)]) (st' := []) rfl ?_
                            have h548 : fL1 By Nb S241 = S542 := by rw [h543]; exact (fL1_1 (by omega)).trans (fNx_1 (by omega) (by omega) (by omega) (by omega) (by omega) (by omega) (by omega))
                            exact keyj199 σ533 z537 y50 y49 h534 h540 h538 (by first | exact q_ef1e8e38bf h536.2.1 | omega) (by first | exact q_87d9217d84 h536.2.2.1 | omega) ((h535 _ _ (inW ha (by decide +kernel))).trans h200) (by first | exact q_77b189e83d h207 | omega) (by first | exact q_c82ed93a8c h208 | omega) ((h535 _ _ (inW ha (by decide +kernel))).trans h199) (by first | exact q_58e6e51dcc h205 | omega) (by first | exact q_3232882bcd h206 | omega) (by omega) (by omega) (h541) (CT_eq h544 h548.symm) (by rw [h548]; exact h546) (o547)
                        · refine En_Ps 2 (pc' := 154) (lv' := [(0, .ref 3), (1, .ref a), (2, .int y47)]) (st' := [.ref a, .ref 3]) rfl ?_
                          refine En_callV rfl rfl rfl rfl rfl rfl rfl rfl tgz_3 (by decide +kernel) rfl (c_66x σ195 h196 a ha y48 h198 y50 h200 (by first | exact q_8ecf8a2bf8 h209 h256 | omega) h243 (by omega) hP (FXP_fr hP hX h197 (by decide +kernel)) h258) (by decide) (by decide) (fun v550 σ551 h549 => ?_)
                          obtain ⟨h552, h553, z555, h556, rfl, h554⟩ := h549
                          have h557 := h554.2.2.2.2.2
                          have h558 := Fr_trans h197 h553 (by decide +kernel)
                          have h559 := OTH_fr h214 h553 (by decide +kernel)
                          obtain ⟨S560, h561⟩ : ∃ q : PS, q = fHouse By Nb S241 := ⟨_, rfl⟩
                          have h562 : CT By Nb σ551 S560 := by rw [h561]; exact h557.1
                          have h563 := CT_k h562 h556
                          have h564 : Imp (S560.1 = 0) (KN σ551 a S560.2.2.2 (act S560.2.2.2)) := fun z => by rw [h561] at z ⊢; exact h557.2 z
                          have o565 : OUT σ0 σ551 a := OUT_tr h216 h554.1
                          refine En_Ps 1 (pc' := 199) (lv' := [(0, .ref 3), (1, .ref a), (2, .int y47)]) (st' := []) rfl ?_
                          have h566 : fL1 By Nb S241 = S560 := by rw [h561]; exact (fL1_1 (by omega)).trans (fNx_5 (by omega) (by omega) (by omega) (by omega) (by omega) (by omega))
                          exact keyj199 σ551 z555 y50 y49 h552 h558 h556 (by first | exact q_ef1e8e38bf h554.2.1 | omega) (by first | exact q_87d9217d84 h554.2.2.1 | omega) ((h553 _ _ (inW ha (by decide +kernel))).trans h200) (by first | exact q_77b189e83d h207 | omega) (by first | exact q_c82ed93a8c h208 | omega) ((h553 _ _ (inW ha (by decide +kernel))).trans h199) (by first | exact q_58e6e51dcc h205 | omega) (by first | exact q_3232882bcd h206 | omega) (by omega) (by omega) (h559) (CT_eq h562 h566.symm) (by rw [h566]; exact h564) (o565)
                      · refine En_Ps 2 (pc' := 137) (lv' := [(0, .ref 3), (1, .ref a), (2, .int y47)]) (st' := [.ref a, .ref 3]) rfl ?_
                        refine En_callV rfl rfl rfl rfl rfl rfl rfl rfl tgz_3 (by decide +kernel) rfl (c_68x σ195 h196 a ha y48 h198 y50 h200 (by first | exact q_8ecf8a2bf8 h209 h256 | omega) h243 (by omega) hP (FXP_fr hP hX h197 (by decide +kernel)) h258) (by decide) (by decide) (fun v568 σ569 h567 => ?_)
                        obtain ⟨h570, h571, z573, h574, rfl, h572⟩ := h567
                        have h575 := h572.2.2.2.2.2
                        have h576 := Fr_trans h197 h571 (by decide +kernel)
                        have h577 := OTH_fr h214 h571 (by decide +kernel)
                        obtain ⟨S578, h579⟩ : ∃ q : PS, q = fOwner By Nb S241 := ⟨_, rfl⟩
                        have h580 : CT By Nb σ569 S578 := by rw [h579]; exact h575.1
                        have h581 := CT_k h580 h574
                        have h582 : Imp (S578.1 = 0) (KN σ569 a S578.2.2.2 (act S578.2.2.2)) := fun z => by rw [h579] at z ⊢; exact h575.2 z
                        have o583 : OUT σ0 σ569 a := OUT_tr h216 h572.1
                        refine En_Ps 1 (pc' := 199) (lv' := [(0, .ref 3), (1, .ref a), (2, .int y47)]) (st' := []) rfl ?_
                        have h584 : fL1 By Nb S241 = S578 := by rw [h579]; exact (fL1_1 (by omega)).trans (fNx_9 (by omega) (by omega) (by omega) (by omega) (by omega))
                        exact keyj199 σ569 z573 y50 y49 h570 h576 h574 (by first | exact q_ef1e8e38bf h572.2.1 | omega) (by first | exact q_87d9217d84 h572.2.2.1 | omega) ((h571 _ _ (inW ha (by decide +kernel))).trans h200) (by first | exact q_77b189e83d h207 | omega) (by first | exact q_c82ed93a8c h208 | omega) ((h571 _ _ (inW ha (by decide +kernel))).trans h199) (by first | exact q_58e6e51dcc h205 | omega) (by first | exact q_3232882bcd h206 | omega) (by omega) (by omega) (h577) (CT_eq h580 h584.symm) (by rw [h584]; exact h582) (o583)
                    · refine En_Ps 2 (pc' := 120) (lv' := [(0, .ref 3), (1, .ref a), (2, .int y47)]) (st' := [.ref a, .ref 3]) rfl ?_
                      refine En_callV rfl rfl rfl rfl rfl rfl rfl rfl tgz_3 (by decide +kernel) rfl (c_70x σ195 h196 a ha y48 h198 y50 h200 (by first | exact q_8ecf8a2bf8 h209 h256 | omega) h243 (by omega) hP (FXP_fr hP hX h197 (by decide +kernel)) h258) (by decide) (by decide) (fun v586 σ587 h585 => ?_)
                      obtain ⟨h588, h589, z591, h592, rfl, h590⟩ := h585
                      have h593 := h590.2.2.2.2.2
                      have h594 := Fr_trans h197 h589 (by decide +kernel)
                      have h595 := OTH_fr h214 h589 (by decide +kernel)
                      obtain ⟨S596, h597⟩ : ∃ q : PS, q = fTwin By Nb S241 := ⟨_, rfl⟩
                      have h598 : CT By Nb σ587 S596 := by rw [h597]; exact h593.1
                      have h599 := CT_k h598 h592
                      have h600 : Imp (S596.1 = 0) (KN σ587 a S596.2.2.2 (act S596.2.2.2)) := fun z => by rw [h597] at z ⊢; exact h593.2 z
                      have o601 : OUT σ0 σ587 a := OUT_tr h216 h590.1
                      refine En_Ps 1 (pc' := 199) (lv' := [(0, .ref 3), (1, .ref a), (2, .int y47)]) (st' := []) rfl ?_
                      have h602 : fL1 By Nb S241 = S596 := by rw [h597]; exact (fL1_1 (by omega)).trans (fNx_17 (by omega) (by omega) (by omega) (by omega))
                      exact keyj199 σ587 z591 y50 y49 h588 h594 h592 (by first | exact q_ef1e8e38bf h590.2.1 | omega) (by first | exact q_87d9217d84 h590.2.2.1 | omega) ((h589 _ _ (inW ha (by decide +kernel))).trans h200) (by first | exact q_77b189e83d h207 | omega) (by first | exact q_c82ed93a8c h208 | omega) ((h589 _ _ (inW ha (by decide +kernel))).trans h199) (by first | exact q_58e6e51dcc h205 | omega) (by first | exact q_3232882bcd h206 | omega) (by omega) (by omega) (h595) (CT_eq h598 h602.symm) (by rw [h602]; exact h600) (o601)
                  · refine En_Ps 2 (pc' := 103) (lv' := [(0, .ref 3), (1, .ref a), (2, .int y47)]) (st' := [.ref a, .ref 3]) rfl ?_
                    refine En_callV rfl rfl rfl rfl rfl rfl rfl rfl tgz_3 (by decide +kernel) rfl (c_64x σ195 h196 a ha y48 h198 y50 h200 (by first | exact q_8ecf8a2bf8 h209 h256 | omega) h243 (by omega) hP (FXP_fr hP hX h197 (by decide +kernel)) h258) (by decide) (by decide) (fun v604 σ605 h603 => ?_)
                    obtain ⟨h606, h607, z609, h610, rfl, h608⟩ := h603
                    have h611 := h608.2.2.2.2.2
                    have h612 := Fr_trans h197 h607 (by decide +kernel)
                    have h613 := OTH_fr h214 h607 (by decide +kernel)
                    obtain ⟨S614, h615⟩ : ∃ q : PS, q = fExam By Nb S241 := ⟨_, rfl⟩
                    have h616 : CT By Nb σ605 S614 := by rw [h615]; exact h611.1
                    have h617 := CT_k h616 h610
                    have h618 : Imp (S614.1 = 0) (KN σ605 a S614.2.2.2 (act S614.2.2.2)) := fun z => by rw [h615] at z ⊢; exact h611.2 z
                    have o619 : OUT σ0 σ605 a := OUT_tr h216 h608.1
                    refine En_Ps 1 (pc' := 199) (lv' := [(0, .ref 3), (1, .ref a), (2, .int y47)]) (st' := []) rfl ?_
                    have h620 : fL1 By Nb S241 = S614 := by rw [h615]; exact (fL1_1 (by omega)).trans (fNx_3 (by omega) (by omega) (by omega))
                    exact keyj199 σ605 z609 y50 y49 h606 h612 h610 (by first | exact q_ef1e8e38bf h608.2.1 | omega) (by first | exact q_87d9217d84 h608.2.2.1 | omega) ((h607 _ _ (inW ha (by decide +kernel))).trans h200) (by first | exact q_77b189e83d h207 | omega) (by first | exact q_c82ed93a8c h208 | omega) ((h607 _ _ (inW ha (by decide +kernel))).trans h199) (by first | exact q_58e6e51dcc h205 | omega) (by first | exact q_3232882bcd h206 | omega) (by omega) (by omega) (h613) (CT_eq h616 h620.symm) (by rw [h620]; exact h618) (o619)
                · refine En_Ps 2 (pc' := 86) (lv' := [(0, .ref 3), (1, .ref a), (2, .int y47)]) (st' := [.ref a, .ref 3]) rfl ?_
                  refine En_callV rfl rfl rfl rfl rfl rfl rfl rfl tgz_3 (by decide +kernel) rfl (c_67x σ195 h196 a ha y48 h198 y50 h200 (by first | exact q_8ecf8a2bf8 h209 h256 | omega) h243 (by omega) hP (FXP_fr hP hX h197 (by decide +kernel)) h258) (by decide) (by decide) (fun v622 σ623 h621 => ?_)
                  obtain ⟨h624, h625, z627, h628, rfl, h626⟩ := h621
                  have h629 := h626.2.2.2.2.2
                  have h630 := Fr_trans h197 h625 (by decide +kernel)
                  have h631 := OTH_fr h214 h625 (by decide +kernel)
                  obtain ⟨S632, h633⟩ : ∃ q : PS, q = fLesson By Nb S241 := ⟨_, rfl⟩
                  have h634 : CT By Nb σ623 S632 := by rw [h633]; exact h629.1
                  have h635 := CT_k h634 h628
                  have h636 : Imp (S632.1 = 0) (KN σ623 a S632.2.2.2 (act S632.2.2.2)) := fun z => by rw [h633] at z ⊢; exact h629.2 z
                  have o637 : OUT σ0 σ623 a := OUT_tr h216 h626.1
                  refine En_Ps 1 (pc' := 199) (lv' := [(0, .ref 3), (1, .ref a), (2, .int y47)]) (st' := []) rfl ?_
                  have h638 : fL1 By Nb S241 = S632 := by rw [h633]; exact (fL1_1 (by omega)).trans (fNx_6 (by omega) (by omega))
                  exact keyj199 σ623 z627 y50 y49 h624 h630 h628 (by first | exact q_ef1e8e38bf h626.2.1 | omega) (by first | exact q_87d9217d84 h626.2.2.1 | omega) ((h625 _ _ (inW ha (by decide +kernel))).trans h200) (by first | exact q_77b189e83d h207 | omega) (by first | exact q_c82ed93a8c h208 | omega) ((h625 _ _ (inW ha (by decide +kernel))).trans h199) (by first | exact q_58e6e51dcc h205 | omega) (by first | exact q_3232882bcd h206 | omega) (by omega) (by omega) (h631) (CT_eq h634 h638.symm) (by rw [h638]; exact h636) (o637)
              · refine En_Ps 2 (pc' := 69) (lv' := [(0, .ref 3), (1, .ref a), (2, .int y47)]) (st' := [.ref a, .ref 3]) rfl ?_
                refine En_callV rfl rfl rfl rfl rfl rfl rfl rfl tgz_3 (by decide +kernel) rfl (c_63x σ195 h196 a ha y48 h198 y50 h200 (by first | exact q_8ecf8a2bf8 h209 h256 | omega) h243 (by omega) hP (FXP_fr hP hX h197 (by decide +kernel)) h258) (by decide) (by decide) (fun v640 σ641 h639 => ?_)
                obtain ⟨h642, h643, z645, h646, rfl, h644⟩ := h639
                have h647 := h644.2.2.2.2.2
                have h648 := Fr_trans h197 h643 (by decide +kernel)
                have h649 := OTH_fr h214 h643 (by decide +kernel)
                obtain ⟨S650, h651⟩ : ∃ q : PS, q = fDoor By Nb S241 := ⟨_, rfl⟩
                have h652 : CT By Nb σ641 S650 := by rw [h651]; exact h647.1
                have h653 := CT_k h652 h646
                have h654 : Imp (S650.1 = 0) (KN σ641 a S650.2.2.2 (act S650.2.2.2)) := fun z => by rw [h651] at z ⊢; exact h647.2 z
                have o655 : OUT σ0 σ641 a := OUT_tr h216 h644.1
                refine En_Ps 1 (pc' := 199) (lv' := [(0, .ref 3), (1, .ref a), (2, .int y47)]) (st' := []) rfl ?_
                have h656 : fL1 By Nb S241 = S650 := by rw [h651]; exact (fL1_1 (by omega)).trans (fNx_2 (by omega))
                exact keyj199 σ641 z645 y50 y49 h642 h648 h646 (by first | exact q_ef1e8e38bf h644.2.1 | omega) (by first | exact q_87d9217d84 h644.2.2.1 | omega) ((h643 _ _ (inW ha (by decide +kernel))).trans h200) (by first | exact q_77b189e83d h207 | omega) (by first | exact q_c82ed93a8c h208 | omega) ((h643 _ _ (inW ha (by decide +kernel))).trans h199) (by first | exact q_58e6e51dcc h205 | omega) (by first | exact q_3232882bcd h206 | omega) (by omega) (by omega) (h649) (CT_eq h652 h656.symm) (by rw [h656]; exact h654) (o655)
            · refine En_Ps 2 (pc' := 52) (lv' := [(0, .ref 3), (1, .ref a), (2, .int y47)]) (st' := [.ref a, .ref 3]) rfl ?_
              refine En_callV rfl rfl rfl rfl rfl rfl rfl rfl tgz_3 (by decide +kernel) rfl (c_65x σ195 h196 a ha y48 h198 h243 (by omega) hP (FXP_fr hP hX h197 (by decide +kernel)) h258) (by decide) (by decide) (fun v658 σ659 h657 => ?_)
              obtain ⟨h660, h661, z663, h664, z665, h666, rfl, h662⟩ := h657
              have h667 := h662.2.2.2.2.2.2.2.2
              have h668 := Fr_trans h197 h661 (by decide +kernel)
              have h669 := OTH_tr h214 h667.1
              obtain ⟨S670, h671⟩ : ∃ q : PS, q = fFirst By Nb S241 := ⟨_, rfl⟩
              have h672 : CT By Nb σ659 S670 := by rw [h671]; exact h667.2.1
              have h673 := CT_k h672 h664
              have h674 : Imp (S670.1 = 0) (KN σ659 a S670.2.2.2 (act S670.2.2.2)) := fun z => by rw [h671] at z ⊢; exact h667.2.2 z
              have o675 : OUT σ0 σ659 a := OUT_tr h216 h662.1
              refine En_Ps 1 (pc' := 199) (lv' := [(0, .ref 3), (1, .ref a), (2, .int y47)]) (st' := []) rfl ?_
              have h676 : fL1 By Nb S241 = S670 := by rw [h671]; exact fL1_0 (by omega)
              exact keyj199 σ659 z663 z665 y49 h660 h668 h664 (by first | exact q_ef1e8e38bf h662.2.1 | omega) (by first | exact q_87d9217d84 h662.2.2.1 | omega) h666 (by first | exact q_ce01e7a6da h662.2.2.2.2.1 | omega) (by first | exact q_3b0dd79e8e h662.2.2.2.2.2.1 | omega) ((h661 _ _ (inW ha (by decide +kernel))).trans h199) (by first | exact q_58e6e51dcc h205 | omega) (by first | exact q_3232882bcd h206 | omega) (by omega) (by omega) (h669) (CT_eq h672 h676.symm) (by rw [h676]; exact h674) (o675)
  have := (by decide : (Int32.ofInt 0).toInt = 0)
  have := (by decide : (Int32.ofInt 0).toInt = 0)
  refine En_lv (lv := [(0, .ref 3), (1, .ref a), (2, .int ((Int32.ofInt 0)))]) ⟨rfl, rfl, rfl, trivial⟩ ?_
  exact key25 (Int.toNat (1601) + 1) σ38 ((Int32.ofInt 0)) ((Int32.ofInt 0)) z28 z30 h39 h43 ((h40 _ _ (inW tgz_3 (by decide +kernel))).trans ((h26 _ _ (inW tgz_3 (by decide +kernel))).trans ((h19 _ _ (Or.inr (by decide))).trans ((h12 _ _ (Or.inr (by decide))).trans h4)))) ((h40 _ _ (inW ha (by decide +kernel))).trans h29) ((h40 _ _ (inW ha (by decide +kernel))).trans h31) (by decide) (by decide) (by decide) (by decide) (by first | exact q_ef1e8e38bf h27.2.1 | omega) (by first | exact q_319b9e2471 h27.2.2.1 | omega) (by first | exact q_1ab37740a2 h27.2.2.2.1 | omega) (by first | exact q_6b679f4e4f h27.2.2.2.2.1 | omega) (by omega) (by first | exact q_af949619b4 h27.2.1 h27.2.2.2.1 | omega) (by omega) (by omega) (by first | exact toN_lt _ | omega) (h44) (RLI_0 h42 (by decide) ((h40 _ _ (inW tgz_3 (by decide +kernel))).trans ((h26 _ _ (inW tgz_3 (by decide +kernel))).trans ((h19 _ _ (Or.inr (by decide))).trans ((h12 _ _ (Or.inr (by decide))).trans h4)))) (by decide) ((h40 _ _ (inW tgz_3 (by decide +kernel))).trans ((h26 _ _ (inW tgz_3 (by decide +kernel))).trans ((h19 _ _ (Or.inr (by decide))).trans h11))) (by decide) h45 (by decide)) (o46)

