/-- DoorSchool$Reader.readTwin(LDoorSchool$Plan;)V -/
abbrev P_70x (σ0 : SG) (By : Int → Int) (Nb : Int) (Sp : PS) (a : Nat) (f : Int32) (sg : Int32) : PO := fun v σ => WT σ ∧ Fr [(3, 1), (3, 2), (3, 3), (3, 4), (3, 5), (3, 6), (28, 3)] σ0 σ ∧ ∃ f1 : Int32, (σ 3)[5]? = some (.int f1) ∧ v = none ∧ OUT σ0 σ a ∧ -f1.toInt ≤ 0 ∧ f1.toInt - 3 ≤ 0 ∧ -f1.toInt + f.toInt ≤ 0 ∧ f.toInt - f1.toInt ≤ 0 ∧ (CT By Nb σ (fTwin By Nb Sp) ∧ ((fTwin By Nb Sp).1 = 0 → KN σ a (fTwin By Nb Sp).2.2.2 (act (fTwin By Nb Sp).2.2.2)))
set_option maxRecDepth 10000 in
set_option maxHeartbeats 4000000 in
theorem c_70x {By : Int → Int} {Nb : Int} {Sp : PS} (σ0 : SG) (hσ0 : WT σ0) (a : Nat) (ha : TG a = 18) (f : Int32) (h_f : (σ0 3)[5]? = some (.int f)) (sg : Int32) (h_sg : (σ0 a)[1]? = some (.int sg)) (hp0 : -sg.toInt ≤ 0) (hC : CT By Nb σ0 Sp) (hg : Sp.1 = 0) (hP : PLA a) (hX : FXP σ0 a) (hK : KN σ0 a Sp.2.2.2 (act Sp.2.2.2)) : En 2 43 none mr_70 (P_70x σ0 By Nb Sp a f sg) 0 [(0, .ref 3), (1, .ref a)] [] σ0 := by
  obtain ⟨hl_f, hu_f⟩ := WT_int hσ0 (g := 3) (by decide +kernel) (by decide +kernel) (l := 0) (u := 3) (by decide +kernel) h_f
  obtain ⟨hl_sg, hu_sg⟩ := WT_int hσ0 (g := 18) ha (by decide +kernel) (l := (-1)) (u := 4) (by decide +kernel) h_sg
  have hF0 : Fr [(3, 1), (3, 2), (3, 3), (3, 4), (3, 5), (3, 6), (28, 3)] σ0 σ0 := Fr_rfl
  have h1 := CT_k hC h_f
  obtain ⟨z3, h2, h4, h5⟩ := WT_peekI hσ0 ha (by decide +kernel : FT 18 3 = (0, 0, 4)) (by decide +kernel)
  have h6 : Sp.2.2.2 2 = z3.toInt := KN_v hK (Or.inl (by decide)) (by decide) (by decide) (by rw [lcO_lt (by decide) (by decide), Nat.add_zero]) rfl h2
  refine En_Ps 1 (pc' := 1) (lv' := [(0, .ref 3), (1, .ref a)]) (st' := [.ref 3]) rfl ?_
  obtain ⟨z8, h7, h9, h10⟩ := WT_peekI hσ0 tgz_3 (by decide +kernel : FT 3 3 = (0, 0, 1600)) (by decide +kernel)
  refine En_callV rfl rfl rfl rfl rfl rfl rfl rfl tgz_3 (by decide +kernel) rfl (c_72x σ0 hσ0 z8 h7 hC.1 (CT_at hC (by omega) h7)) (by decide) (by decide) (fun v12 σ13 h11 => ?_)
  obtain ⟨h14, h15, rfl, h16⟩ := h11
  have h17 := h16
  have h18 := Fr_trans hF0 h15 (by decide +kernel)
  obtain ⟨S19, h20⟩ : ∃ q : PS, q = adv By Nb Sp := ⟨_, rfl⟩
  have h21 : CT By Nb σ13 S19 := by rw [h20]; exact (CT_adv hC (by omega) h7 h15 (by decide +kernel) h17.2)
  have h22 := CT_k h21 ((h15 _ _ (inW tgz_3 (by decide +kernel))).trans h_f)
  have h23 : S19.2.2.2 = Sp.2.2.2 := by rw [h20]; exact adv_w
  have h24 : S19.1 = Sp.1 := by rw [h20]; exact adv_1
  have h25 := KN_fr hP hK h15 (by decide +kernel)
  have h26 : S19.2.2.2 = Sp.2.2.2 := h23.trans (rfl : Sp.2.2.2 = Sp.2.2.2)
  have o27 : OUT σ0 σ13 a := OUT_fr OUT_0 h15 (by decide +kernel)
  have h28 : S19.2.2.2 2 = Sp.2.2.2 2 := by rw [h26]
  refine En_Ps 3 (pc' := 7) (lv' := [(0, .ref 3), (1, .ref a)]) (st' := [.ref a, .int ((Int32.ofInt 0)), .ref 3]) rfl ?_
  refine En_getK (j := 3) ((h15 _ _ (inW ha (by decide +kernel))).trans h2) rfl rfl rfl ha (by decide +kernel) ?_
  refine En_Ps 2 (pc' := 12) (lv' := [(0, .ref 3), (1, .ref a)]) (st' := [.int ((z3 - ((Int32.ofInt 1)))), .int ((Int32.ofInt 0)), .ref 3]) rfl ?_
  refine En_top (subI rfl (by decide : (Int32.ofInt 1).toInt = 1) (by omega) (by omega)) (fun z29 h30 => ?_)
  have := (by decide : ((Int32.ofInt 0)).toInt = 0)
  refine En_callV rfl rfl rfl rfl rfl rfl rfl rfl tgz_3 (by decide +kernel) rfl (c_58x σ13 h14 ((Int32.ofInt 0)) z29 f ((h15 _ _ (inW tgz_3 (by decide +kernel))).trans h_f) h21) (by decide) (by decide) (fun v32 σ33 h31 => ?_)
  obtain ⟨h34, h35, z37, h38, z39, rfl, h36⟩ := h31
  have h40 := h36.2.2.2.2.2.2.2.2.2
  have h41 := Fr_trans h18 h35 (by decide +kernel)
  have h42 : nH By Nb ((Int32.ofInt 0)).toInt z29.toInt S19 = nH By Nb (0) (S19.2.2.2 2 - 1) S19 := nH_cg2 (fun zz => by omega) (fun zz => by omega)
  obtain ⟨S43, h44⟩ : ∃ q : PS, q = nH By Nb (0) (S19.2.2.2 2 - 1) S19 := ⟨_, rfl⟩
  have h45 : CT By Nb σ33 S43 := by rw [h44]; exact (CT_eq h40.1 h42)
  have h46 := CT_k h45 h38
  have h47 : Imp (S43.1 = 0) (z39.toInt = tV By Nb S19.2.2.1) := fun z => Imp_m h40.2 (by rw [h42, ← h44]; exact z)
  have h48 : Imp (S43.1 = 0) (S19.1 = 0 ∧ tK By Nb S19.2.2.1 = 2 ∧ 0 ≤ tV By Nb S19.2.2.1 ∧ tV By Nb S19.2.2.1 ≤ S19.2.2.2 2 - 1) := fun z => nH_gg (by rw [← h44]; exact z)
  have h49 : S43.2.2.2 = S19.2.2.2 := by rw [h44]; exact nH_w
  have h50 := KN_fr hP h25 h35 (by decide +kernel)
  have h51 : S43.2.2.2 = Sp.2.2.2 := h49.trans h26
  have o52 : OUT σ0 σ33 a := OUT_fr o27 h35 (by decide +kernel)
  have h53 := Imp_m h36.2.2.2.2.2.2.2.1 (by omega)
  have h54 := Imp_m h36.2.2.2.2.2.2.2.2.1 (by omega)
  refine En_Ps 2 (pc' := 17) (lv' := [(2, .int z39), (0, .ref 3), (1, .ref a)]) (st' := [.ref 3]) rfl ?_
  refine En_getK (j := 5) h38 rfl rfl rfl tgz_3 (by decide +kernel) ?_
  refine En_iNe _ rfl rfl (fun h55 => ?_) (fun h55 => ?_)
  · have h56 := Imp_m h36.2.2.2.2.2.2.1 (by omega)
    have h57 : tw1 By Nb S19 = S43 := by rw [h44]; exact tw1_n (d := z39.toInt) (fun zz => by rw [← h44] at zz; rw [h26]; exact ⟨by omega, by omega, by omega⟩)
    refine En_Ps 1 (pc' := 50) (lv' := [(2, .int z39), (0, .ref 3), (1, .ref a)]) (st' := [.ref 3]) rfl ?_
    refine En_getK (j := 5) h38 rfl rfl rfl tgz_3 (by decide +kernel) ?_
    refine En_iEq _ rfl rfl (fun hx => by exfalso; have := Imp_m h36.2.2.2.2.2.1 (by omega); omega) (fun h58 => ?_)
    have h59 : fTwin By Nb Sp = S43 := by unfold fTwin; (try dsimp only); first | (rw [← h20, h57]; first | done | rfl) | (rw [← h20, h57]; rw [if_pos (by omega)]; first | done | rfl) | (rw [← h20, h57]; rw [if_neg (by omega)]; first | done | rfl) | (rw [← h20, h57]; rw [if_neg (by omega), if_pos (by omega)]; first | done | rfl) | (rw [← h20, h57]; rw [if_neg (by omega), if_neg (by omega)]; first | done | rfl) | (rw [← h20, h57]; rw [if_neg (by omega), if_neg (by omega), if_neg (by omega)]; first | done | rfl)
    exact En_ret (v := none) rfl rfl rfl ⟨h34, h41, z37, h38, rfl, ⟨o52, by omega, by omega, by omega, by omega, (by rw [h59]; exact ⟨h45, fun z => absurd z (by omega)⟩)⟩⟩
  · have h60 := Imp_m h36.2.2.2.2.2.1 (by omega)
    try have h61 := Imp_m h48 (by omega)
    try have h62 := Imp_m h47 (by omega)
    refine En_Ps 1 (pc' := 24) (lv' := [(2, .int z39), (0, .ref 3), (1, .ref a)]) (st' := [.ref a]) rfl ?_
    refine En_getR (j := 4) (g' := 19) (u := 0) rfl rfl rfl ha (by decide +kernel) h34 (by decide +kernel) (fun a64 h63 ha64 => ?_)
    refine En_Ps 1 (pc' := 28) (lv' := [(2, .int z39), (0, .ref 3), (1, .ref a)]) (st' := [.int z39, .ref a64]) rfl ?_
    refine En_aald (g' := 28) (u := 0) rfl rfl ha64 (by decide +kernel) h34 (by omega) (lnI (by decide +kernel : LN _ = 4) (by omega)) (FTsgl (by decide +kernel)) (fun a66 h65 ha66 => ?_)
    have h67 := DRc (d := z39.toInt) (FXP_fr hP hX h41 (by decide +kernel)) h63 h65 (by omega) (by omega)
    have h68 := lc_d (d := z39.toInt) (by omega) (by omega)
    refine En_getI (j := 3) (l := (-1)) (u := 3) rfl rfl rfl ha66 (by decide +kernel) h34 (by decide +kernel) (fun z70 h69 h71 h72 => ?_)
    have h73 : Sp.2.2.2 (13 + 4 * z39.toInt) = z70.toInt := KN_v h50 (Or.inr (Or.inl ⟨by omega, by omega, by omega⟩)) (by omega) (by omega) (by omega) (by omega) h69
    refine En_Ps 1 (pc' := 33) (lv' := [(2, .int z39), (0, .ref 3), (1, .ref a)]) (st' := [.int ((Int32.ofInt (-1))), .int z70]) rfl ?_
    refine En_icNe _ rfl (by decide : (Int32.ofInt (-1)).toInt = -1) rfl (fun h74 => ?_) (fun h74 => ?_)
    · refine En_Ps 2 (pc' := 46) (lv' := [(2, .int z39), (0, .ref 3), (1, .ref a)]) (st' := [.int ((Int32.ofInt 2)), .ref 3]) rfl ?_
      have := (by decide : ((Int32.ofInt 2)).toInt = 2)
      refine En_callV rfl rfl rfl rfl rfl rfl rfl rfl tgz_3 (by decide +kernel) rfl (c_54x σ33 h34 ((Int32.ofInt 2)) (geI (by decide : (Int32.ofInt 2).toInt = 2) (by omega)) (leI (by decide : (Int32.ofInt 2).toInt = 2) (by omega)) z37 h38 h45) (by decide) (by decide) (fun v76 σ77 h75 => ?_)
      obtain ⟨h78, h79, z81, h82, rfl, h80⟩ := h75
      have h83 := h80.2.2.2.2.2
      have h84 := Fr_trans h41 h79 (by decide +kernel)
      obtain ⟨S85, h86⟩ : ∃ q : PS, q = err By Nb 2 S43 := ⟨_, rfl⟩
      have h87 : CT By Nb σ77 S85 := by rw [h86]; exact (CT_eq h83 (err_cg (by omega)))
      have h88 := CT_k h87 h82
      have h89 : S85.2.2.2 = S43.2.2.2 := by rw [h86]; exact err_w
      have h90 := KN_fr hP h50 h79 (by decide +kernel)
      have h91 : S85.2.2.2 = Sp.2.2.2 := h89.trans h51
      have o92 : OUT σ0 σ77 a := OUT_fr o52 h79 (by decide +kernel)
      have h93 := Imp_m h80.2.2.2.1 (by omega)
      have h94 : tw1 By Nb S19 = S85 := by rw [h86, h44]; exact tw1_p (d := z39.toInt) (by rw [← h44]; omega) (by omega) (by rw [h26]; omega)
      refine En_Ps 1 (pc' := 50) (lv' := [(2, .int z39), (0, .ref 3), (1, .ref a)]) (st' := [.ref 3]) rfl ?_
      refine En_getK (j := 5) h82 rfl rfl rfl tgz_3 (by decide +kernel) ?_
      refine En_iEq _ rfl rfl (fun hx => by exfalso; have := Imp_m h36.2.2.2.2.2.2.1 (by omega); have := Imp_m h80.2.2.2.2.1 (by omega); omega) (fun h95 => ?_)
      have h96 : fTwin By Nb Sp = S85 := by unfold fTwin; (try dsimp only); first | (rw [← h20, h94]; first | done | rfl) | (rw [← h20, h94]; rw [if_pos (by omega)]; first | done | rfl) | (rw [← h20, h94]; rw [if_neg (by omega)]; first | done | rfl) | (rw [← h20, h94]; rw [if_neg (by omega), if_pos (by omega)]; first | done | rfl) | (rw [← h20, h94]; rw [if_neg (by omega), if_neg (by omega)]; first | done | rfl) | (rw [← h20, h94]; rw [if_neg (by omega), if_neg (by omega), if_neg (by omega)]; first | done | rfl)
      exact En_ret (v := none) rfl rfl rfl ⟨h78, h84, z81, h82, rfl, ⟨o92, by omega, by omega, by omega, by omega, (by rw [h96]; exact ⟨h87, fun z => absurd z (by omega)⟩)⟩⟩
    · refine En_Ps 2 (pc' := 38) (lv' := [(2, .int z39), (0, .ref 3), (1, .ref a)]) (st' := [.int z39, .ref a]) rfl ?_
      refine En_callV rfl rfl rfl rfl rfl rfl rfl rfl ha (by decide +kernel) rfl (c_45x σ33 h34 a ha z39 hP (FXP_fr hP hX h41 (by decide +kernel)) h50) (by decide) (by decide) (fun v98 σ99 h97 => ?_)
      obtain ⟨h100, h101, z103, rfl, h102⟩ := h97
      have h104 := h102.2.2.2
      obtain rfl : σ33 = σ99 := Fr_nil h101
      have h105 := h104
      refine En_iEq _ rfl rfl (fun h106 => ?_) (fun h106 => ?_)
      · have h107 : tw1 By Nb S19 = S43 := by rw [h44]; exact tw1_n (d := z39.toInt) (fun zz => by rw [← h44] at zz; rw [h26]; exact ⟨by omega, by omega, by omega⟩)
        refine En_Ps 1 (pc' := 50) (lv' := [(2, .int z39), (0, .ref 3), (1, .ref a)]) (st' := [.ref 3]) rfl ?_
        refine En_getK (j := 5) h38 rfl rfl rfl tgz_3 (by decide +kernel) ?_
        refine En_iEq _ rfl rfl (fun h108 => ?_) (fun hx => by exfalso; have := Imp_m h36.2.2.2.2.2.2.1 (by omega); omega)
        refine En_Ps 1 (pc' := 58) (lv' := [(2, .int z39), (0, .ref 3), (1, .ref a)]) (st' := [.ref 3]) rfl ?_
        obtain ⟨z110, h109, h111, h112⟩ := WT_peekI h34 tgz_3 (by decide +kernel : FT 3 3 = (0, 0, 1600)) (by decide +kernel)
        refine En_callV rfl rfl rfl rfl rfl rfl rfl rfl tgz_3 (by decide +kernel) rfl (c_72x σ33 h34 z110 h109 h45.1 (CT_at h45 (by omega) h109)) (by decide) (by decide) (fun v114 σ115 h113 => ?_)
        obtain ⟨h116, h117, rfl, h118⟩ := h113
        have h119 := h118
        have h120 := Fr_trans h41 h117 (by decide +kernel)
        obtain ⟨S121, h122⟩ : ∃ q : PS, q = adv By Nb S43 := ⟨_, rfl⟩
        have h123 : CT By Nb σ115 S121 := by rw [h122]; exact (CT_adv h45 (by omega) h109 h117 (by decide +kernel) h119.2)
        have h124 := CT_k h123 ((h117 _ _ (inW tgz_3 (by decide +kernel))).trans h38)
        have h125 : S121.2.2.2 = S43.2.2.2 := by rw [h122]; exact adv_w
        have h126 : S121.1 = S43.1 := by rw [h122]; exact adv_1
        have h127 := KN_fr hP h50 h117 (by decide +kernel)
        have h128 : S121.2.2.2 = Sp.2.2.2 := h125.trans h51
        have o129 : OUT σ0 σ115 a := OUT_fr o52 h117 (by decide +kernel)
        have h130 : S121.2.2.2 2 = Sp.2.2.2 2 := by rw [h128]
        refine En_Ps 3 (pc' := 64) (lv' := [(2, .int z39), (0, .ref 3), (1, .ref a)]) (st' := [.ref a, .int ((Int32.ofInt 0)), .ref 3]) rfl ?_
        refine En_getK (j := 3) ((h117 _ _ (inW ha (by decide +kernel))).trans ((h35 _ _ (inW ha (by decide +kernel))).trans ((h15 _ _ (inW ha (by decide +kernel))).trans h2))) rfl rfl rfl ha (by decide +kernel) ?_
        refine En_Ps 2 (pc' := 69) (lv' := [(2, .int z39), (0, .ref 3), (1, .ref a)]) (st' := [.int ((z3 - ((Int32.ofInt 1)))), .int ((Int32.ofInt 0)), .ref 3]) rfl ?_
        refine En_top (subI rfl (by decide : (Int32.ofInt 1).toInt = 1) (by omega) (by omega)) (fun z131 h132 => ?_)
        have := (by decide : ((Int32.ofInt 0)).toInt = 0)
        refine En_callV rfl rfl rfl rfl rfl rfl rfl rfl tgz_3 (by decide +kernel) rfl (c_58x σ115 h116 ((Int32.ofInt 0)) z131 z37 ((h117 _ _ (inW tgz_3 (by decide +kernel))).trans h38) h123) (by decide) (by decide) (fun v134 σ135 h133 => ?_)
        obtain ⟨h136, h137, z139, h140, z141, rfl, h138⟩ := h133
        have h142 := h138.2.2.2.2.2.2.2.2.2
        have h143 := Fr_trans h120 h137 (by decide +kernel)
        have h144 : nH By Nb ((Int32.ofInt 0)).toInt z131.toInt S121 = nH By Nb (0) (S121.2.2.2 2 - 1) S121 := nH_cg2 (fun zz => by (try have i0 := Imp_m h48 (by omega)); (try have i1 := Imp_m h47 (by omega)); (try have i2 := Imp_m h36.2.2.2.2.2.2.1 (by omega)); (try have i3 := Imp_m h102.2.2.1 (by omega)); omega) (fun zz => by (try have i0 := Imp_m h48 (by omega)); (try have i1 := Imp_m h47 (by omega)); (try have i2 := Imp_m h36.2.2.2.2.2.2.1 (by omega)); (try have i3 := Imp_m h102.2.2.1 (by omega)); omega)
        obtain ⟨S145, h146⟩ : ∃ q : PS, q = nH By Nb (0) (S121.2.2.2 2 - 1) S121 := ⟨_, rfl⟩
        have h147 : CT By Nb σ135 S145 := by rw [h146]; exact (CT_eq h142.1 h144)
        have h148 := CT_k h147 h140
        have h149 : Imp (S145.1 = 0) (z141.toInt = tV By Nb S121.2.2.1) := fun z => Imp_m h142.2 (by rw [h144, ← h146]; exact z)
        have h150 : Imp (S145.1 = 0) (S121.1 = 0 ∧ tK By Nb S121.2.2.1 = 2 ∧ 0 ≤ tV By Nb S121.2.2.1 ∧ tV By Nb S121.2.2.1 ≤ S121.2.2.2 2 - 1) := fun z => nH_gg (by rw [← h146]; exact z)
        have h151 : S145.2.2.2 = S121.2.2.2 := by rw [h146]; exact nH_w
        have h152 := KN_fr hP h127 h137 (by decide +kernel)
        have h153 : S145.2.2.2 = Sp.2.2.2 := h151.trans h128
        have o154 : OUT σ0 σ135 a := OUT_fr o129 h137 (by decide +kernel)
        have h155 := Imp_m h138.2.2.2.2.2.2.2.1 (by omega)
        have h156 := Imp_m h138.2.2.2.2.2.2.2.2.1 (by omega)
        refine En_Ps 2 (pc' := 74) (lv' := [(3, .int z141), (2, .int z39), (0, .ref 3), (1, .ref a)]) (st' := [.ref 3]) rfl ?_
        refine En_getK (j := 5) h140 rfl rfl rfl tgz_3 (by decide +kernel) ?_
        refine En_iNe _ rfl rfl (fun h157 => ?_) (fun h157 => ?_)
        · have h158 := Imp_m h138.2.2.2.2.2.2.1 (by omega)
          have h159 : tw2 By Nb (tV By Nb S19.2.2.1) S121 = S145 := by rw [h146]; exact tw2_n (d := z141.toInt) (fun zz => by rw [← h146] at zz; rw [h128]; exact ⟨by omega, by omega, by omega⟩)
          refine En_Ps 1 (pc' := 104) (lv' := [(3, .int z141), (2, .int z39), (0, .ref 3), (1, .ref a)]) (st' := [.ref 3]) rfl ?_
          refine En_getK (j := 5) h140 rfl rfl rfl tgz_3 (by decide +kernel) ?_
          refine En_iNe _ rfl rfl (fun h160 => ?_) (fun hx => by exfalso; have := Imp_m h36.2.2.2.2.2.2.1 (by omega); have := Imp_m h138.2.2.2.2.2.1 (by omega); omega)
          have h161 : fTwin By Nb Sp = S145 := by unfold fTwin; (try dsimp only); first | (rw [← h20, h107, ← h122, h159]; first | done | rfl) | (rw [← h20, h107, ← h122, h159]; rw [if_pos (by omega)]; first | done | rfl) | (rw [← h20, h107, ← h122, h159]; rw [if_neg (by omega)]; first | done | rfl) | (rw [← h20, h107, ← h122, h159]; rw [if_neg (by omega), if_pos (by omega)]; first | done | rfl) | (rw [← h20, h107, ← h122, h159]; rw [if_neg (by omega), if_neg (by omega)]; first | done | rfl) | (rw [← h20, h107, ← h122, h159]; rw [if_neg (by omega), if_neg (by omega), if_neg (by omega)]; first | done | rfl)
          exact En_ret (v := none) rfl rfl rfl ⟨h136, h143, z139, h140, rfl, ⟨o154, by omega, by omega, by omega, by omega, (by rw [h161]; exact ⟨h147, fun z => absurd z (by omega)⟩)⟩⟩
        · have h162 := Imp_m h138.2.2.2.2.2.1 (by omega)
          try have h163 := Imp_m h150 (by omega)
          try have h164 := Imp_m h149 (by omega)
          try have h165 := Imp_m h48 (by omega)
          try have h166 := Imp_m h47 (by omega)
          refine En_Ps 2 (pc' := 82) (lv' := [(3, .int z141), (2, .int z39), (0, .ref 3), (1, .ref a)]) (st' := [.int z39, .int z141]) rfl ?_
          refine En_icEq _ rfl rfl rfl (fun h167 => ?_) (fun h167 => ?_)
          · refine En_Ps 2 (pc' := 100) (lv' := [(3, .int z141), (2, .int z39), (0, .ref 3), (1, .ref a)]) (st' := [.int ((Int32.ofInt 2)), .ref 3]) rfl ?_
            have := (by decide : ((Int32.ofInt 2)).toInt = 2)
            refine En_callV rfl rfl rfl rfl rfl rfl rfl rfl tgz_3 (by decide +kernel) rfl (c_54x σ135 h136 ((Int32.ofInt 2)) (geI (by decide : (Int32.ofInt 2).toInt = 2) (by omega)) (leI (by decide : (Int32.ofInt 2).toInt = 2) (by omega)) z139 h140 h147) (by decide) (by decide) (fun v169 σ170 h168 => ?_)
            obtain ⟨h171, h172, z174, h175, rfl, h173⟩ := h168
            have h176 := h173.2.2.2.2.2
            have h177 := Fr_trans h143 h172 (by decide +kernel)
            obtain ⟨S178, h179⟩ : ∃ q : PS, q = err By Nb 2 S145 := ⟨_, rfl⟩
            have h180 : CT By Nb σ170 S178 := by rw [h179]; exact (CT_eq h176 (err_cg (by omega)))
            have h181 := CT_k h180 h175
            have h182 : S178.2.2.2 = S145.2.2.2 := by rw [h179]; exact err_w
            have h183 := KN_fr hP h152 h172 (by decide +kernel)
            have h184 : S178.2.2.2 = Sp.2.2.2 := h182.trans h153
            have o185 : OUT σ0 σ170 a := OUT_fr o154 h172 (by decide +kernel)
            have h186 := Imp_m h173.2.2.2.1 (by omega)
            have h187 : tw2 By Nb (tV By Nb S19.2.2.1) S121 = S178 := by rw [h179, h146]; exact tw2_p (d := z141.toInt) (by rw [← h146]; omega) (by omega) (by rw [h128]; omega)
            refine En_Ps 1 (pc' := 104) (lv' := [(3, .int z141), (2, .int z39), (0, .ref 3), (1, .ref a)]) (st' := [.ref 3]) rfl ?_
            refine En_getK (j := 5) h175 rfl rfl rfl tgz_3 (by decide +kernel) ?_
            refine En_iNe _ rfl rfl (fun h188 => ?_) (fun hx => by exfalso; have := Imp_m h36.2.2.2.2.2.2.1 (by omega); have := Imp_m h138.2.2.2.2.2.2.1 (by omega); have := Imp_m h173.2.2.2.2.1 (by omega); omega)
            have h189 : fTwin By Nb Sp = S178 := by unfold fTwin; (try dsimp only); first | (rw [← h20, h107, ← h122, h187]; first | done | rfl) | (rw [← h20, h107, ← h122, h187]; rw [if_pos (by omega)]; first | done | rfl) | (rw [← h20, h107, ← h122, h187]; rw [if_neg (by omega)]; first | done | rfl) | (rw [← h20, h107, ← h122, h187]; rw [if_neg (by omega), if_pos (by omega)]; first | done | rfl) | (rw [← h20, h107, ← h122, h187]; rw [if_neg (by omega), if_neg (by omega)]; first | done | rfl) | (rw [← h20, h107, ← h122, h187]; rw [if_neg (by omega), if_neg (by omega), if_neg (by omega)]; first | done | rfl)
            exact En_ret (v := none) rfl rfl rfl ⟨h171, h177, z174, h175, rfl, ⟨o185, by omega, by omega, by omega, by omega, (by rw [h189]; exact ⟨h180, fun z => absurd z (by omega)⟩)⟩⟩
          · refine En_Ps 1 (pc' := 86) (lv' := [(3, .int z141), (2, .int z39), (0, .ref 3), (1, .ref a)]) (st' := [.ref a]) rfl ?_
            refine En_getK (j := 4) ((h137 _ _ (inW ha (by decide +kernel))).trans ((h117 _ _ (inW ha (by decide +kernel))).trans h63)) rfl rfl rfl ha (by decide +kernel) ?_
            refine En_Ps 1 (pc' := 90) (lv' := [(3, .int z141), (2, .int z39), (0, .ref 3), (1, .ref a)]) (st' := [.int z141, .ref a64]) rfl ?_
            refine En_aald (g' := 28) (u := 0) rfl rfl ha64 (by decide +kernel) h136 (by omega) (lnI (by decide +kernel : LN _ = 4) (by omega)) (FTsgl (by decide +kernel)) (fun a191 h190 ha191 => ?_)
            have h192 := DRc (d := z141.toInt) (FXP_fr hP hX h143 (by decide +kernel)) ((h137 _ _ (inW ha (by decide +kernel))).trans ((h117 _ _ (inW ha (by decide +kernel))).trans h63)) h190 (by omega) (by omega)
            have h193 := lc_d (d := z141.toInt) (by omega) (by omega)
            refine En_getI (j := 3) (l := (-1)) (u := 3) rfl rfl rfl ha191 (by decide +kernel) h136 (by decide +kernel) (fun z195 h194 h196 h197 => ?_)
            have h198 : Sp.2.2.2 (13 + 4 * z141.toInt) = z195.toInt := KN_v h152 (Or.inr (Or.inl ⟨by omega, by omega, by omega⟩)) (by omega) (by omega) (by omega) (by omega) h194
            refine En_Ps 1 (pc' := 95) (lv' := [(3, .int z141), (2, .int z39), (0, .ref 3), (1, .ref a)]) (st' := [.int ((Int32.ofInt (-1))), .int z195]) rfl ?_
            refine En_icEq _ rfl (by decide : (Int32.ofInt (-1)).toInt = -1) rfl (fun h199 => ?_) (fun h199 => ?_)
            · have h200 : tw2 By Nb (tV By Nb S19.2.2.1) S121 = S145 := by rw [h146]; exact tw2_n (d := z141.toInt) (fun zz => by rw [← h146] at zz; rw [h128]; exact ⟨by omega, by omega, by omega⟩)
              refine En_Ps 1 (pc' := 104) (lv' := [(3, .int z141), (2, .int z39), (0, .ref 3), (1, .ref a)]) (st' := [.ref 3]) rfl ?_
              refine En_getK (j := 5) h140 rfl rfl rfl tgz_3 (by decide +kernel) ?_
              refine En_iNe _ rfl rfl (fun hx => by exfalso; have := Imp_m h36.2.2.2.2.2.2.1 (by omega); have := Imp_m h138.2.2.2.2.2.2.1 (by omega); omega) (fun h201 => ?_)
              try have h202 := Imp_m h150 (by omega)
              try have h203 := Imp_m h149 (by omega)
              try have h204 := Imp_m h48 (by omega)
              try have h205 := Imp_m h47 (by omega)
              refine En_Ps 1 (pc' := 111) (lv' := [(3, .int z141), (2, .int z39), (0, .ref 3), (1, .ref a)]) (st' := [.ref a]) rfl ?_
              refine En_getK (j := 4) ((h137 _ _ (inW ha (by decide +kernel))).trans ((h117 _ _ (inW ha (by decide +kernel))).trans h63)) rfl rfl rfl ha (by decide +kernel) ?_
              refine En_Ps 1 (pc' := 115) (lv' := [(3, .int z141), (2, .int z39), (0, .ref 3), (1, .ref a)]) (st' := [.int z39, .ref a64]) rfl ?_
              refine En_aald (g' := 28) (u := 0) rfl rfl ha64 (by decide +kernel) h136 (by omega) (lnI (by decide +kernel : LN _ = 4) (by omega)) (FTsgl (by decide +kernel)) (fun a207 h206 ha207 => ?_)
              have h208 := DRc (d := z39.toInt) (FXP_fr hP hX h143 (by decide +kernel)) ((h137 _ _ (inW ha (by decide +kernel))).trans ((h117 _ _ (inW ha (by decide +kernel))).trans h63)) h206 (by omega) (by omega)
              have h209 := lc_d (d := z39.toInt) (by omega) (by omega)
              have h210 := lc_d (d := (tV By Nb S19.2.2.1)) (by omega) (by omega)
              refine En_Ps 1 (pc' := 117) (lv' := [(3, .int z141), (2, .int z39), (0, .ref 3), (1, .ref a)]) (st' := [.int z141, .ref a207]) rfl ?_
              refine En_put (j := 3) rfl rfl rfl ha207 (by decide +kernel) rfl (vI (l := (-1)) (u := 3) (by decide +kernel) rfl (by omega) (by omega)) h136 h143 (by decide +kernel) (fun σ211 h212 h213 h214 h215 => ?_)
              obtain ⟨S216, h217⟩ : ∃ q : PS, q = wst S145 (13 + 4 * (tV By Nb S19.2.2.1)) ((tV By Nb S121.2.2.1)) := ⟨_, rfl⟩
              have h218 : CT By Nb σ211 S216 := by rw [h217]; exact CT_wst (CT_ne h147 h215 (by have := hP; unfold PLA at this; omega))
              have h219 : KN σ211 a (uPd Sp.2.2.2 (13 + 4 * (tV By Nb S19.2.2.1)) ((tV By Nb S121.2.2.1))) (fun t => (act Sp.2.2.2 t ∨ t = 13 + 4 * (tV By Nb S19.2.2.1))) := KN_st h152 h214 h215 (by omega) (by omega) (by omega) (by omega) (by omega)
              have h220 : S216.2.2.2 = (uPd Sp.2.2.2 (13 + 4 * (tV By Nb S19.2.2.1)) ((tV By Nb S121.2.2.1))) := by rw [h217]; show uPd S145.2.2.2 _ _ = _; rw [h153]
              have h221 : S216.1 = S145.1 := by rw [h217]; rfl
              have h222 := CT_k h218 ((h215 _ _ (Or.inr (by decide))).trans h140)
              have o223 : OUT σ0 σ211 a := OUT_st o154 h215 (by omega)
              refine En_Ps 1 (pc' := 121) (lv' := [(3, .int z141), (2, .int z39), (0, .ref 3), (1, .ref a)]) (st' := [.ref 3]) rfl ?_
              obtain ⟨z225, h224, h226, h227⟩ := WT_peekI h212 tgz_3 (by decide +kernel : FT 3 3 = (0, 0, 1600)) (by decide +kernel)
              refine En_callV rfl rfl rfl rfl rfl rfl rfl rfl tgz_3 (by decide +kernel) rfl (c_72x σ211 h212 z225 h224 h218.1 (CT_at h218 (by omega) h224)) (by decide) (by decide) (fun v229 σ230 h228 => ?_)
              obtain ⟨h231, h232, rfl, h233⟩ := h228
              have h234 := h233
              have h235 := Fr_trans h213 h232 (by decide +kernel)
              obtain ⟨S236, h237⟩ : ∃ q : PS, q = adv By Nb S216 := ⟨_, rfl⟩
              have h238 : CT By Nb σ230 S236 := by rw [h237]; exact (CT_adv h218 (by omega) h224 h232 (by decide +kernel) h234.2)
              have h239 := CT_k h238 ((h232 _ _ (inW tgz_3 (by decide +kernel))).trans ((h215 _ _ (Or.inr (by decide))).trans h140))
              have h240 : S236.2.2.2 = S216.2.2.2 := by rw [h237]; exact adv_w
              have h241 : S236.1 = S216.1 := by rw [h237]; exact adv_1
              have h242 := KN_fr hP h219 h232 (by decide +kernel)
              have h243 : S236.2.2.2 = (uPd Sp.2.2.2 (13 + 4 * (tV By Nb S19.2.2.1)) ((tV By Nb S121.2.2.1))) := h240.trans h220
              have o244 : OUT σ0 σ230 a := OUT_fr o223 h232 (by decide +kernel)
              have h245 : fTwin By Nb Sp = S236 := by unfold fTwin; (try dsimp only); first | (rw [← h20, h107, ← h122, h200, ← h217, ← h237]; first | done | rfl) | (rw [← h20, h107, ← h122, h200, ← h217, ← h237]; rw [if_pos (by omega)]; first | done | rfl) | (rw [← h20, h107, ← h122, h200, ← h217, ← h237]; rw [if_neg (by omega)]; first | done | rfl) | (rw [← h20, h107, ← h122, h200, ← h217, ← h237]; rw [if_neg (by omega), if_pos (by omega)]; first | done | rfl) | (rw [← h20, h107, ← h122, h200, ← h217, ← h237]; rw [if_neg (by omega), if_neg (by omega)]; first | done | rfl) | (rw [← h20, h107, ← h122, h200, ← h217, ← h237]; rw [if_neg (by omega), if_neg (by omega), if_neg (by omega)]; first | done | rfl)
              exact En_ret (v := none) rfl rfl rfl ⟨h231, h235, z139, ((h232 _ _ (inW tgz_3 (by decide +kernel))).trans ((h215 _ _ (Or.inr (by decide))).trans h140)), rfl, ⟨o244, by omega, by omega, by omega, by omega, (by rw [h245]; exact ⟨h238, fun zz => by rw [h243]; exact KN_sub h242 (fun t t0 t1 y => Or.inl (act_in (by omega) (by omega) y))⟩)⟩⟩
            · refine En_Ps 2 (pc' := 100) (lv' := [(3, .int z141), (2, .int z39), (0, .ref 3), (1, .ref a)]) (st' := [.int ((Int32.ofInt 2)), .ref 3]) rfl ?_
              have := (by decide : ((Int32.ofInt 2)).toInt = 2)
              refine En_callV rfl rfl rfl rfl rfl rfl rfl rfl tgz_3 (by decide +kernel) rfl (c_54x σ135 h136 ((Int32.ofInt 2)) (geI (by decide : (Int32.ofInt 2).toInt = 2) (by omega)) (leI (by decide : (Int32.ofInt 2).toInt = 2) (by omega)) z139 h140 h147) (by decide) (by decide) (fun v247 σ248 h246 => ?_)
              obtain ⟨h249, h250, z252, h253, rfl, h251⟩ := h246
              have h254 := h251.2.2.2.2.2
              have h255 := Fr_trans h143 h250 (by decide +kernel)
              obtain ⟨S256, h257⟩ : ∃ q : PS, q = err By Nb 2 S145 := ⟨_, rfl⟩
              have h258 : CT By Nb σ248 S256 := by rw [h257]; exact (CT_eq h254 (err_cg (by omega)))
              have h259 := CT_k h258 h253
              have h260 : S256.2.2.2 = S145.2.2.2 := by rw [h257]; exact err_w
              have h261 := KN_fr hP h152 h250 (by decide +kernel)
              have h262 : S256.2.2.2 = Sp.2.2.2 := h260.trans h153
              have o263 : OUT σ0 σ248 a := OUT_fr o154 h250 (by decide +kernel)
              have h264 := Imp_m h251.2.2.2.1 (by omega)
              have h265 : tw2 By Nb (tV By Nb S19.2.2.1) S121 = S256 := by rw [h257, h146]; exact tw2_p (d := z141.toInt) (by rw [← h146]; omega) (by omega) (by rw [h128]; omega)
              refine En_Ps 1 (pc' := 104) (lv' := [(3, .int z141), (2, .int z39), (0, .ref 3), (1, .ref a)]) (st' := [.ref 3]) rfl ?_
              refine En_getK (j := 5) h253 rfl rfl rfl tgz_3 (by decide +kernel) ?_
              refine En_iNe _ rfl rfl (fun h266 => ?_) (fun hx => by exfalso; have := Imp_m h36.2.2.2.2.2.2.1 (by omega); have := Imp_m h138.2.2.2.2.2.2.1 (by omega); have := Imp_m h251.2.2.2.2.1 (by omega); omega)
              have h267 : fTwin By Nb Sp = S256 := by unfold fTwin; (try dsimp only); first | (rw [← h20, h107, ← h122, h265]; first | done | rfl) | (rw [← h20, h107, ← h122, h265]; rw [if_pos (by omega)]; first | done | rfl) | (rw [← h20, h107, ← h122, h265]; rw [if_neg (by omega)]; first | done | rfl) | (rw [← h20, h107, ← h122, h265]; rw [if_neg (by omega), if_pos (by omega)]; first | done | rfl) | (rw [← h20, h107, ← h122, h265]; rw [if_neg (by omega), if_neg (by omega)]; first | done | rfl) | (rw [← h20, h107, ← h122, h265]; rw [if_neg (by omega), if_neg (by omega), if_neg (by omega)]; first | done | rfl)
              exact En_ret (v := none) rfl rfl rfl ⟨h249, h255, z252, h253, rfl, ⟨o263, by omega, by omega, by omega, by omega, (by rw [h267]; exact ⟨h258, fun z => absurd z (by omega)⟩)⟩⟩
      · have h268 := Imp_m h102.2.2.1 (by omega)
        refine En_Ps 2 (pc' := 46) (lv' := [(2, .int z39), (0, .ref 3), (1, .ref a)]) (st' := [.int ((Int32.ofInt 2)), .ref 3]) rfl ?_
        have := (by decide : ((Int32.ofInt 2)).toInt = 2)
        refine En_callV rfl rfl rfl rfl rfl rfl rfl rfl tgz_3 (by decide +kernel) rfl (c_54x σ33 h34 ((Int32.ofInt 2)) (geI (by decide : (Int32.ofInt 2).toInt = 2) (by omega)) (leI (by decide : (Int32.ofInt 2).toInt = 2) (by omega)) z37 h38 h45) (by decide) (by decide) (fun v270 σ271 h269 => ?_)
        obtain ⟨h272, h273, z275, h276, rfl, h274⟩ := h269
        have h277 := h274.2.2.2.2.2
        have h278 := Fr_trans h41 h273 (by decide +kernel)
        obtain ⟨S279, h280⟩ : ∃ q : PS, q = err By Nb 2 S43 := ⟨_, rfl⟩
        have h281 : CT By Nb σ271 S279 := by rw [h280]; exact (CT_eq h277 (err_cg (by omega)))
        have h282 := CT_k h281 h276
        have h283 : S279.2.2.2 = S43.2.2.2 := by rw [h280]; exact err_w
        have h284 := KN_fr hP h50 h273 (by decide +kernel)
        have h285 : S279.2.2.2 = Sp.2.2.2 := h283.trans h51
        have o286 : OUT σ0 σ271 a := OUT_fr o52 h273 (by decide +kernel)
        have h287 := Imp_m h274.2.2.2.1 (by omega)
        have h288 : tw1 By Nb S19 = S279 := by rw [h280, h44]; exact tw1_p (d := z39.toInt) (by rw [← h44]; omega) (by omega) (by rw [h26]; omega)
        refine En_Ps 1 (pc' := 50) (lv' := [(2, .int z39), (0, .ref 3), (1, .ref a)]) (st' := [.ref 3]) rfl ?_
        refine En_getK (j := 5) h276 rfl rfl rfl tgz_3 (by decide +kernel) ?_
        refine En_iEq _ rfl rfl (fun hx => by exfalso; have := Imp_m h36.2.2.2.2.2.2.1 (by omega); have := Imp_m h274.2.2.2.2.1 (by omega); omega) (fun h289 => ?_)
        have h290 : fTwin By Nb Sp = S279 := by unfold fTwin; (try dsimp only); first | (rw [← h20, h288]; first | done | rfl) | (rw [← h20, h288]; rw [if_pos (by omega)]; first | done | rfl) | (rw [← h20, h288]; rw [if_neg (by omega)]; first | done | rfl) | (rw [← h20, h288]; rw [if_neg (by omega), if_pos (by omega)]; first | done | rfl) | (rw [← h20, h288]; rw [if_neg (by omega), if_neg (by omega)]; first | done | rfl) | (rw [← h20, h288]; rw [if_neg (by omega), if_neg (by omega), if_neg (by omega)]; first | done | rfl)
        exact En_ret (v := none) rfl rfl rfl ⟨h272, h278, z275, h276, rfl, ⟨o286, by omega, by omega, by omega, by omega, (by rw [h290]; exact ⟨h281, fun z => absurd z (by omega)⟩)⟩⟩
/-- DoorSchool$Reader.takePart(I)I -/
abbrev P_74x (σ0 : SG) (By : Int → Int) (Nb : Int) (Sp : PS) (a : Int32) (f : Int32) : PO := fun v σ => WT σ ∧ Fr [(3, 1), (3, 2), (3, 3), (3, 4), (3, 5), (3, 6)] σ0 σ ∧ ∃ f1 : Int32, (σ 3)[5]? = some (.int f1) ∧ ∃ ret : Int32, v = some (.int ret) ∧ -ret.toInt - 1 ≤ 0 ∧ ret.toInt - 15 ≤ 0 ∧ -f1.toInt ≤ 0 ∧ f1.toInt - 3 ≤ 0 ∧ -f1.toInt + f.toInt ≤ 0 ∧ f.toInt - f1.toInt ≤ 0 ∧ Imp (f1.toInt ≤ 0) (-ret.toInt ≤ 0 ∧ ret.toInt - 15 ≤ 0) ∧ (CT By Nb σ (tP By Nb a.toInt Sp) ∧ Imp ((tP By Nb a.toInt Sp).1 = 0) (ret.toInt = tV By Nb Sp.2.2.1))
set_option maxRecDepth 10000 in
set_option maxHeartbeats 4000000 in
theorem c_74x {By : Int → Int} {Nb : Int} {Sp : PS} (σ0 : SG) (hσ0 : WT σ0) (a : Int32) (hl_a : (-1) ≤ a.toInt) (hu_a : a.toInt ≤ 15) (f : Int32) (h_f : (σ0 3)[5]? = some (.int f)) (hC : CT By Nb σ0 Sp) (ha : Sp.1 = 0 → 0 ≤ a.toInt) : En 2 43 none mr_74 (P_74x σ0 By Nb Sp a f) 0 [(0, .ref 3), (1, .int a)] [] σ0 := by
  obtain ⟨hl_f, hu_f⟩ := WT_int hσ0 (g := 3) (by decide +kernel) (by decide +kernel) (l := 0) (u := 3) (by decide +kernel) h_f
  have hF0 : Fr [(3, 1), (3, 2), (3, 3), (3, 4), (3, 5), (3, 6)] σ0 σ0 := Fr_rfl
  obtain ⟨z2, h1, h3, h4⟩ := WT_peekI hσ0 tgz_3 (by decide +kernel : FT 3 1 = (0, 0, 4)) (by decide +kernel)
  obtain ⟨z6, h5, h7, h8⟩ := WT_peekI hσ0 tgz_3 (by decide +kernel : FT 3 4 = (0, (-2147483648), 1000000)) (by decide +kernel)
  have h9 := CT_k hC h_f
  have h10 : Imp (Sp.1 = 0) (tK By Nb Sp.2.2.1 = z2.toInt) := CT_t hC h1
  have h11 : Imp (Sp.1 = 0 ∧ tK By Nb Sp.2.2.1 = 2) (z6.toInt = tV By Nb Sp.2.2.1 ∧ 0 ≤ tV By Nb Sp.2.2.1) := fun q => CT_u hC h5 q.1 q.2
  refine En_Ps 3 (pc' := 4) (lv' := [(0, .ref 3), (1, .int a)]) (st' := [.int (((Int8.ofInt 15).toInt32)), .int ((Int32.ofInt 0)), .ref 3]) rfl ?_
  have := (by decide : ((Int32.ofInt 0)).toInt = 0)
  have := (by decide : (((Int8.ofInt 15).toInt32)).toInt = 15)
  refine En_callV rfl rfl rfl rfl rfl rfl rfl rfl tgz_3 (by decide +kernel) rfl (c_58x σ0 hσ0 ((Int32.ofInt 0)) (((Int8.ofInt 15).toInt32)) f h_f hC) (by decide) (by decide) (fun v13 σ14 h12 => ?_)
  obtain ⟨h15, h16, z18, h19, z20, rfl, h17⟩ := h12
  have h21 := h17.2.2.2.2.2.2.2.2.2
  have h22 := Fr_trans hF0 h16 (by decide +kernel)
  have h23 : nH By Nb ((Int32.ofInt 0)).toInt (((Int8.ofInt 15).toInt32)).toInt Sp = nH By Nb (0) (15) Sp := nH_cg2 (fun zz => by omega) (fun zz => by omega)
  obtain ⟨S24, h25⟩ : ∃ q : PS, q = nH By Nb (0) (15) Sp := ⟨_, rfl⟩
  have h26 : CT By Nb σ14 S24 := by rw [h25]; exact (CT_eq h21.1 h23)
  have h27 := CT_k h26 h19
  have h28 : Imp (S24.1 = 0) (tK By Nb S24.2.2.1 = z2.toInt) := CT_t h26 ((h16 _ _ (inW tgz_3 (by decide +kernel))).trans h1)
  have h29 : Imp (S24.1 = 0 ∧ tK By Nb S24.2.2.1 = 2) (z6.toInt = tV By Nb S24.2.2.1 ∧ 0 ≤ tV By Nb S24.2.2.1) := fun q => CT_u h26 ((h16 _ _ (inW tgz_3 (by decide +kernel))).trans h5) q.1 q.2
  have h30 : Imp (S24.1 = 0) (z20.toInt = tV By Nb Sp.2.2.1) := fun z => Imp_m h21.2 (by rw [h23, ← h25]; exact z)
  have h31 : Imp (S24.1 = 0) (Sp.1 = 0 ∧ tK By Nb Sp.2.2.1 = 2 ∧ 0 ≤ tV By Nb Sp.2.2.1 ∧ tV By Nb Sp.2.2.1 ≤ 15) := fun z => nH_gg (by rw [← h25]; exact z)
  have h32 : S24.2.2.2 = Sp.2.2.2 := by rw [h25]; exact nH_w
  have h33 := Imp_m h17.2.2.2.2.2.2.2.1 (by omega)
  have h34 := Imp_m h17.2.2.2.2.2.2.2.2.1 (by omega)
  refine En_Ps 2 (pc' := 9) (lv' := [(2, .int z20), (0, .ref 3), (1, .int a)]) (st' := [.ref 3]) rfl ?_
  refine En_getK (j := 5) h19 rfl rfl rfl tgz_3 (by decide +kernel) ?_
  refine En_iNe _ rfl rfl (fun h35 => ?_) (fun h35 => ?_)
  · have h36 := Imp_m h17.2.2.2.2.2.2.1 (by omega)
    refine En_Ps 1 (pc' := 29) (lv' := [(2, .int z20), (0, .ref 3), (1, .int a)]) (st' := [.ref 3]) rfl ?_
    refine En_getK (j := 5) h19 rfl rfl rfl tgz_3 (by decide +kernel) ?_
    refine En_iNe _ rfl rfl (fun h37 => ?_) (fun hx => by exfalso; have := Imp_m h17.2.2.2.2.2.1 (by omega); omega)
    refine En_Ps 1 (pc' := 40) (lv' := [(2, .int z20), (0, .ref 3), (1, .int a)]) (st' := [.int z20]) rfl ?_
    exact En_ret (v := some (.int z20)) rfl rfl rfl ⟨h15, h22, z18, h19, z20, rfl, ⟨by omega, by omega, by omega, by omega, by omega, by omega, fun _ => by have := Imp_m h17.2.2.2.2.2.1 (by omega); omega, (by have q0 : tP By Nb a.toInt Sp = S24 := (by subst h25; first | exact tPc_e (by omega) (by omega) | exact tPc_a (by omega) | exact tPc_b (by omega)); rw [q0]; exact ⟨h26, fun zz => by (try have i0 := Imp_m h31 (by omega)); (try have i1 := Imp_m h30 (by omega)); (try have i2 := Imp_m h28 (by omega)); (try have i3 := Imp_m h10 (by omega)); (try have i4 := Imp_m h11 (by omega)); (try have i5 := Imp_m h29 (by omega)); (try have i6 := Imp_m h17.2.2.2.2.2.1 (by omega)); omega⟩)⟩⟩
  · have h38 := Imp_m h17.2.2.2.2.2.1 (by omega)
    try have h39 := Imp_m h31 (by omega)
    try have h40 := Imp_m h30 (by omega)
    try have h41 := Imp_m h28 (by omega)
    try have h42 := Imp_m h10 (by omega)
    try have h43 := Imp_m h11 (by omega)
    try have h44 := Imp_m h29 (by omega)
    refine En_Ps 2 (pc' := 17) (lv' := [(2, .int z20), (0, .ref 3), (1, .int a)]) (st' := [.int a, .int z20]) rfl ?_
    have h45 : sbI (z20.toInt) a.toInt = sbI (tV By Nb Sp.2.2.1) a.toInt := sbI_cg (by omega) rfl
    refine En_Ps 2 (pc' := 19) (lv' := [(2, .int z20), (0, .ref 3), (1, .int a)]) (st' := [.int ((a ^^^ ((Int32.ofInt (-1))))), .int z20]) rfl ?_
    refine En_nam (fun z46 h47 => ?_)
    refine En_Ps 1 (pc' := 20) (lv' := [(2, .int z20), (0, .ref 3), (1, .int a)]) (st' := [.int ((z20 &&& z46))]) rfl ?_
    refine En_nam (fun z48 h49 => ?_)
    obtain ⟨h50, h51⟩ := andn_rng h49 rfl (by omega) (by omega : _ ≤ (15 : Int))
    refine En_iEq _ rfl rfl (fun h52 => ?_) (fun h52 => ?_)
    · have := sub_sbw h49 h47 rfl rfl (by omega) (by omega) (by omega)
      refine En_Ps 1 (pc' := 29) (lv' := [(2, .int z20), (0, .ref 3), (1, .int a)]) (st' := [.ref 3]) rfl ?_
      refine En_getK (j := 5) h19 rfl rfl rfl tgz_3 (by decide +kernel) ?_
      refine En_iNe _ rfl rfl (fun hx => by exfalso; have := Imp_m h17.2.2.2.2.2.2.1 (by omega); omega) (fun h53 => ?_)
      refine En_Ps 1 (pc' := 36) (lv' := [(2, .int z20), (0, .ref 3), (1, .int a)]) (st' := [.ref 3]) rfl ?_
      obtain ⟨z55, h54, h56, h57⟩ := WT_peekI h15 tgz_3 (by decide +kernel : FT 3 3 = (0, 0, 1600)) (by decide +kernel)
      refine En_callV rfl rfl rfl rfl rfl rfl rfl rfl tgz_3 (by decide +kernel) rfl (c_72x σ14 h15 z55 h54 h26.1 (CT_at h26 (by omega) h54)) (by decide) (by decide) (fun v59 σ60 h58 => ?_)
      obtain ⟨h61, h62, rfl, h63⟩ := h58
      have h64 := h63
      have h65 := Fr_trans h22 h62 (by decide +kernel)
      obtain ⟨S66, h67⟩ : ∃ q : PS, q = adv By Nb S24 := ⟨_, rfl⟩
      have h68 : CT By Nb σ60 S66 := by rw [h67]; exact (CT_adv h26 (by omega) h54 h62 (by decide +kernel) h64.2)
      have h69 := CT_k h68 ((h62 _ _ (inW tgz_3 (by decide +kernel))).trans h19)
      have h70 : S66.2.2.2 = S24.2.2.2 := by rw [h67]; exact adv_w
      have h71 : S66.1 = S24.1 := by rw [h67]; exact adv_1
      refine En_Ps 1 (pc' := 40) (lv' := [(2, .int z20), (0, .ref 3), (1, .int a)]) (st' := [.int z20]) rfl ?_
      exact En_ret (v := some (.int z20)) rfl rfl rfl ⟨h61, h65, z18, ((h62 _ _ (inW tgz_3 (by decide +kernel))).trans h19), z20, rfl, ⟨by omega, by omega, by omega, by omega, by omega, by omega, fun _ => by omega, (by have q0 : tP By Nb a.toInt Sp = S66 := (by subst h67; subst h25; first | exact tPc_e (by omega) (by omega) | exact tPc_a (by omega) | exact tPc_b (by omega)); rw [q0]; exact ⟨h68, fun zz => by (try have i0 := Imp_m h31 (by omega)); (try have i1 := Imp_m h30 (by omega)); (try have i2 := Imp_m h28 (by omega)); (try have i3 := Imp_m h10 (by omega)); (try have i4 := Imp_m h11 (by omega)); (try have i5 := Imp_m h29 (by omega)); (try have i6 := Imp_m h17.2.2.2.2.2.2.1 (by omega)); omega⟩)⟩⟩
    · have := sub_sbw h49 h47 rfl rfl (by omega) (by omega) (by omega)
      refine En_Ps 2 (pc' := 25) (lv' := [(2, .int z20), (0, .ref 3), (1, .int a)]) (st' := [.int ((Int32.ofInt 2)), .ref 3]) rfl ?_
      have := (by decide : ((Int32.ofInt 2)).toInt = 2)
      refine En_callV rfl rfl rfl rfl rfl rfl rfl rfl tgz_3 (by decide +kernel) rfl (c_54x σ14 h15 ((Int32.ofInt 2)) (geI (by decide : (Int32.ofInt 2).toInt = 2) (by omega)) (leI (by decide : (Int32.ofInt 2).toInt = 2) (by omega)) z18 h19 h26) (by decide) (by decide) (fun v73 σ74 h72 => ?_)
      obtain ⟨h75, h76, z78, h79, rfl, h77⟩ := h72
      have h80 := h77.2.2.2.2.2
      have h81 := Fr_trans h22 h76 (by decide +kernel)
      obtain ⟨S82, h83⟩ : ∃ q : PS, q = err By Nb 2 S24 := ⟨_, rfl⟩
      have h84 : CT By Nb σ74 S82 := by rw [h83]; exact (CT_eq h80 (err_cg (by omega)))
      have h85 := CT_k h84 h79
      have h86 : Imp (S82.1 = 0) (tK By Nb S82.2.2.1 = z2.toInt) := CT_t h84 ((h76 _ _ (inW tgz_3 (by decide +kernel))).trans ((h16 _ _ (inW tgz_3 (by decide +kernel))).trans h1))
      have h87 : Imp (S82.1 = 0 ∧ tK By Nb S82.2.2.1 = 2) (z6.toInt = tV By Nb S82.2.2.1 ∧ 0 ≤ tV By Nb S82.2.2.1) := fun q => CT_u h84 ((h76 _ _ (inW tgz_3 (by decide +kernel))).trans ((h16 _ _ (inW tgz_3 (by decide +kernel))).trans h5)) q.1 q.2
      have h88 : S82.2.2.2 = S24.2.2.2 := by rw [h83]; exact err_w
      have h89 := Imp_m h77.2.2.2.1 (by omega)
      refine En_Ps 1 (pc' := 29) (lv' := [(2, .int z20), (0, .ref 3), (1, .int a)]) (st' := [.ref 3]) rfl ?_
      refine En_getK (j := 5) h79 rfl rfl rfl tgz_3 (by decide +kernel) ?_
      refine En_iNe _ rfl rfl (fun h90 => ?_) (fun hx => by exfalso; have := Imp_m h17.2.2.2.2.2.2.1 (by omega); have := Imp_m h77.2.2.2.2.1 (by omega); omega)
      refine En_Ps 1 (pc' := 40) (lv' := [(2, .int z20), (0, .ref 3), (1, .int a)]) (st' := [.int z20]) rfl ?_
      exact En_ret (v := some (.int z20)) rfl rfl rfl ⟨h75, h81, z78, h79, z20, rfl, ⟨by omega, by omega, by omega, by omega, by omega, by omega, fun _ => by omega, (by have q0 : tP By Nb a.toInt Sp = S82 := (by subst h83; subst h25; first | exact tPc_e (by omega) (by omega) | exact tPc_a (by omega) | exact tPc_b (by omega)); rw [q0]; exact ⟨h84, fun zz => by (try have i0 := Imp_m h86 (by omega)); (try have i1 := Imp_m h31 (by omega)); (try have i2 := Imp_m h30 (by omega)); (try have i3 := Imp_m h28 (by omega)); (try have i4 := Imp_m h10 (by omega)); (try have i5 := Imp_m h11 (by omega)); (try have i6 := Imp_m h29 (by omega)); (try have i7 := Imp_m h87 (by omega)); (try have i8 := Imp_m h17.2.2.2.2.2.2.1 (by omega)); (try have i9 := Imp_m h77.2.2.2.2.1 (by omega)); omega⟩)⟩⟩
/-- DoorSchool$Reader.readOwner(LDoorSchool$Plan;)V -/
abbrev P_68x (σ0 : SG) (By : Int → Int) (Nb : Int) (Sp : PS) (a : Nat) (f : Int32) (sg : Int32) : PO := fun v σ => WT σ ∧ Fr [(3, 1), (3, 2), (3, 3), (3, 4), (3, 5), (3, 6), (18, 6), (18, 7)] σ0 σ ∧ ∃ f1 : Int32, (σ 3)[5]? = some (.int f1) ∧ v = none ∧ OUT σ0 σ a ∧ -f1.toInt ≤ 0 ∧ f1.toInt - 3 ≤ 0 ∧ -f1.toInt + f.toInt ≤ 0 ∧ f.toInt - f1.toInt ≤ 0 ∧ (CT By Nb σ (fOwner By Nb Sp) ∧ ((fOwner By Nb Sp).1 = 0 → KN σ a (fOwner By Nb Sp).2.2.2 (act (fOwner By Nb Sp).2.2.2)))
set_option maxRecDepth 10000 in
set_option maxHeartbeats 4000000 in
theorem c_68x {By : Int → Int} {Nb : Int} {Sp : PS} (σ0 : SG) (hσ0 : WT σ0) (a : Nat) (ha : TG a = 18) (f : Int32) (h_f : (σ0 3)[5]? = some (.int f)) (sg : Int32) (h_sg : (σ0 a)[1]? = some (.int sg)) (hp0 : -sg.toInt ≤ 0) (hC : CT By Nb σ0 Sp) (hg : Sp.1 = 0) (hP : PLA a) (hX : FXP σ0 a) (hK : KN σ0 a Sp.2.2.2 (act Sp.2.2.2)) : En 3 66 none mr_68 (P_68x σ0 By Nb Sp a f sg) 0 [(0, .ref 3), (1, .ref a)] [] σ0 := by
  obtain ⟨hl_f, hu_f⟩ := WT_int hσ0 (g := 3) (by decide +kernel) (by decide +kernel) (l := 0) (u := 3) (by decide +kernel) h_f
  obtain ⟨hl_sg, hu_sg⟩ := WT_int hσ0 (g := 18) ha (by decide +kernel) (l := (-1)) (u := 4) (by decide +kernel) h_sg
  have hF0 : Fr [(3, 1), (3, 2), (3, 3), (3, 4), (3, 5), (3, 6), (18, 6), (18, 7)] σ0 σ0 := Fr_rfl
  have h1 := CT_k hC h_f
  have h2 : Sp.2.2.2 0 = sg.toInt := KN_v hK (Or.inl (by decide)) (by decide) (by decide) (by rw [lcO_lt (by decide) (by decide), Nat.add_zero]) rfl h_sg
  have h3 : pI (Sp.2.2.2 0) = pI (sg.toInt) := by rw [h2]
  refine En_Ps 1 (pc' := 1) (lv' := [(0, .ref 3), (1, .ref a)]) (st' := [.ref 3]) rfl ?_
  obtain ⟨z5, h4, h6, h7⟩ := WT_peekI hσ0 tgz_3 (by decide +kernel : FT 3 3 = (0, 0, 1600)) (by decide +kernel)
  refine En_callV rfl rfl rfl rfl rfl rfl rfl rfl tgz_3 (by decide +kernel) rfl (c_72x σ0 hσ0 z5 h4 hC.1 (CT_at hC (by omega) h4)) (by decide) (by decide) (fun v9 σ10 h8 => ?_)
  obtain ⟨h11, h12, rfl, h13⟩ := h8
  have h14 := h13
  have h15 := Fr_trans hF0 h12 (by decide +kernel)
  obtain ⟨S16, h17⟩ : ∃ q : PS, q = adv By Nb Sp := ⟨_, rfl⟩
  have h18 : CT By Nb σ10 S16 := by rw [h17]; exact (CT_adv hC (by omega) h4 h12 (by decide +kernel) h14.2)
  have h19 := CT_k h18 ((h12 _ _ (inW tgz_3 (by decide +kernel))).trans h_f)
  have h20 : S16.2.2.2 = Sp.2.2.2 := by rw [h17]; exact adv_w
  have h21 : S16.1 = Sp.1 := by rw [h17]; exact adv_1
  have h22 := KN_fr hP hK h12 (by decide +kernel)
  have h23 : S16.2.2.2 = Sp.2.2.2 := h20.trans (rfl : Sp.2.2.2 = Sp.2.2.2)
  have o24 : OUT σ0 σ10 a := OUT_fr OUT_0 h12 (by decide +kernel)
  refine En_Ps 3 (pc' := 7) (lv' := [(0, .ref 3), (1, .ref a)]) (st' := [.ref a, .int ((Int32.ofInt 0)), .ref 3]) rfl ?_
  refine En_callV rfl rfl rfl rfl rfl rfl rfl rfl ha (by decide +kernel) rfl (c_51x σ10 h11 a ha sg ((h12 _ _ (inW ha (by decide +kernel))).trans h_sg) (by omega)) (by decide) (by decide) (fun v26 σ27 h25 => ?_)
  obtain ⟨h28, h29, z31, rfl, h30⟩ := h25
  have h32 := h30.2.2
  obtain rfl : σ10 = σ27 := Fr_nil h29
  have h33 := h32
  have h34 : pI (S16.2.2.2 0) = z31.toInt := by rw [h23]; omega
  refine En_Ps 2 (pc' := 12) (lv' := [(0, .ref 3), (1, .ref a)]) (st' := [.int ((z31 - ((Int32.ofInt 1)))), .int ((Int32.ofInt 0)), .ref 3]) rfl ?_
  refine En_top (subI rfl (by decide : (Int32.ofInt 1).toInt = 1) (by omega) (by omega)) (fun z35 h36 => ?_)
  have := (by decide : ((Int32.ofInt 0)).toInt = 0)
  refine En_callV rfl rfl rfl rfl rfl rfl rfl rfl tgz_3 (by decide +kernel) rfl (c_73x σ10 h11 ((Int32.ofInt 0)) z35 f ((h12 _ _ (inW tgz_3 (by decide +kernel))).trans h_f) h18) (by decide) (by decide) (fun v38 σ39 h37 => ?_)
  obtain ⟨h40, h41, z43, h44, z45, rfl, h42⟩ := h37
  have h46 := h42.2.2.2.2.2.2.2.2.2
  have h47 := Fr_trans h15 h41 (by decide +kernel)
  have h48 : tN By Nb ((Int32.ofInt 0)).toInt z35.toInt S16 = tN By Nb (0) (pI (S16.2.2.2 0) - 1) S16 := tN_cg2 (fun zz => by omega) (fun zz => by omega)
  obtain ⟨S49, h50⟩ : ∃ q : PS, q = tN By Nb (0) (pI (S16.2.2.2 0) - 1) S16 := ⟨_, rfl⟩
  have h51 : CT By Nb σ39 S49 := by rw [h50]; exact (CT_eq h46.1 h48)
  have h52 := CT_k h51 h44
  have h53 : Imp (S49.1 = 0) (z45.toInt = tV By Nb S16.2.2.1) := fun z => Imp_m h46.2 (by rw [h48, ← h50]; exact z)
  have h54 : Imp (S49.1 = 0) (S16.1 = 0 ∧ tK By Nb S16.2.2.1 = 2 ∧ 0 ≤ tV By Nb S16.2.2.1 ∧ tV By Nb S16.2.2.1 ≤ pI (S16.2.2.2 0) - 1) := fun z => tN_gg (by rw [← h50]; exact z)
  have h55 : S49.2.2.2 = S16.2.2.2 := by rw [h50]; exact tN_w
  have h56 := KN_fr hP h22 h41 (by decide +kernel)
  have h57 : S49.2.2.2 = Sp.2.2.2 := h55.trans h23
  have o58 : OUT σ0 σ39 a := OUT_fr o24 h41 (by decide +kernel)
  have h59 := Imp_m h42.2.2.2.2.2.2.2.1 (by omega)
  have h60 := Imp_m h42.2.2.2.2.2.2.2.2.1 (by omega)
  refine En_Ps 3 (pc' := 18) (lv' := [(2, .int z45), (0, .ref 3), (1, .ref a)]) (st' := [.int z45, .ref 3]) rfl ?_
  refine En_callV rfl rfl rfl rfl rfl rfl rfl rfl tgz_3 (by decide +kernel) rfl (c_74x σ39 h40 z45 (geI rfl (by omega)) (leI rfl (by omega)) z43 h44 h51 (fun zz => by (try have i0 := Imp_m h54 (by omega)); (try have i1 := Imp_m h53 (by omega)); (try have i2 := Imp_m h42.2.2.2.2.2.1 (by omega)); (try have i3 := Imp_m h42.2.2.2.2.2.2.1 (by omega)); omega)) (by decide) (by decide) (fun v62 σ63 h61 => ?_)
  obtain ⟨h64, h65, z67, h68, z69, rfl, h66⟩ := h61
  have h70 := h66.2.2.2.2.2.2.2
  have h71 := Fr_trans h47 h65 (by decide +kernel)
  have h72 : tP By Nb z45.toInt S49 = tP By Nb (tV By Nb S16.2.2.1) S49 := tP_cg2 (fun zz => by (try have i0 := Imp_m h54 (by omega)); (try have i1 := Imp_m h53 (by omega)); (try have i2 := Imp_m h42.2.2.2.2.2.1 (by omega)); (try have i3 := Imp_m h42.2.2.2.2.2.2.1 (by omega)); omega)
  obtain ⟨S73, h74⟩ : ∃ q : PS, q = tP By Nb (tV By Nb S16.2.2.1) S49 := ⟨_, rfl⟩
  have h75 : CT By Nb σ63 S73 := by rw [h74]; exact (CT_eq h70.1 h72)
  have h76 := CT_k h75 h68
  have h77 : Imp (S73.1 = 0) (z69.toInt = tV By Nb S49.2.2.1) := fun z => Imp_m h70.2 (by rw [h72, ← h74]; exact z)
  have h78 : Imp (S73.1 = 0) (S49.1 = 0) := fun z => tP_g (by rw [← h74]; exact z)
  have h79 : S73.2.2.2 = S49.2.2.2 := by rw [h74]; exact tP_w
  have h80 := KN_fr hP h56 h65 (by decide +kernel)
  have h81 : S73.2.2.2 = Sp.2.2.2 := h79.trans h57
  have o82 : OUT σ0 σ63 a := OUT_fr o58 h65 (by decide +kernel)
  refine En_Ps 2 (pc' := 23) (lv' := [(3, .int z69), (2, .int z45), (0, .ref 3), (1, .ref a)]) (st' := [.ref 3]) rfl ?_
  refine En_getK (j := 5) h68 rfl rfl rfl tgz_3 (by decide +kernel) ?_
  refine En_iNe _ rfl rfl (fun h83 => ?_) (fun h83 => ?_)
  · have h84 : fOwner By Nb Sp = S73 := by unfold fOwner fRule; (try dsimp only); first | (rw [← h17, ← h50, ← h74]; first | done | rfl) | (rw [← h17, ← h50, ← h74]; rw [if_pos (by omega)]; first | done | rfl) | (rw [← h17, ← h50, ← h74]; rw [if_neg (by omega)]; first | done | rfl) | (rw [← h17, ← h50, ← h74]; rw [if_neg (by omega), if_pos (by omega)]; first | done | rfl) | (rw [← h17, ← h50, ← h74]; rw [if_neg (by omega), if_neg (by omega)]; first | done | rfl) | (rw [← h17, ← h50, ← h74]; rw [if_neg (by omega), if_neg (by omega), if_neg (by omega)]; first | done | rfl)
    exact En_ret (v := none) rfl rfl rfl ⟨h64, h71, z67, h68, rfl, ⟨o82, by omega, by omega, by omega, by omega, (by rw [h84]; exact ⟨h75, fun z => absurd z (by omega)⟩)⟩⟩
  · have h85 := Imp_m h42.2.2.2.2.2.1 (by omega)
    have h86 := Imp_m h66.2.2.2.2.2.2.1 (by omega)
    try have h87 := Imp_m h78 (by omega)
    try have h88 := Imp_m h77 (by omega)
    try have h89 := Imp_m h54 (by omega)
    try have h90 := Imp_m h53 (by omega)
    refine En_Ps 2 (pc' := 31) (lv' := [(3, .int z69), (2, .int z45), (0, .ref 3), (1, .ref a)]) (st' := [.int z45, .ref a]) rfl ?_
    refine En_put (j := 6) rfl rfl rfl ha (by decide +kernel) rfl (vI (l := 0) (u := 15) (by decide +kernel) rfl (by omega) (by omega)) h64 h71 (by decide +kernel) (fun σ91 h92 h93 h94 h95 => ?_)
    obtain ⟨S96, h97⟩ : ∃ q : PS, q = wst S73 (8) ((tV By Nb S16.2.2.1)) := ⟨_, rfl⟩
    have h98 : CT By Nb σ91 S96 := by rw [h97]; exact CT_wst (CT_ne h75 h95 (by have := hP; unfold PLA at this; omega))
    have h99 : KN σ91 a (uPd Sp.2.2.2 (8) ((tV By Nb S16.2.2.1))) (fun t => (act Sp.2.2.2 t ∨ t = 8)) := KN_st h80 h94 h95 (by omega) (by omega) (by rw [lcO_lt (by decide) (by decide), Nat.add_zero]) (by decide) (by (try have i0 := Imp_m h78 (by omega)); (try have i1 := Imp_m h77 (by omega)); (try have i2 := Imp_m h54 (by omega)); (try have i3 := Imp_m h53 (by omega)); (try have i4 := Imp_m h42.2.2.2.2.2.2.1 (by omega)); omega)
    have h100 : S96.2.2.2 = (uPd Sp.2.2.2 (8) ((tV By Nb S16.2.2.1))) := by rw [h97]; show uPd S73.2.2.2 _ _ = _; rw [h81]
    have h101 : S96.1 = S73.1 := by rw [h97]; rfl
    have h102 := CT_k h98 ((h95 _ _ (Or.inr (by decide))).trans h68)
    have o103 : OUT σ0 σ91 a := OUT_st o82 h95 (by omega)
    refine En_Ps 2 (pc' := 36) (lv' := [(3, .int z69), (2, .int z45), (0, .ref 3), (1, .ref a)]) (st' := [.int z69, .ref a]) rfl ?_
    refine En_put (j := 7) rfl rfl rfl ha (by decide +kernel) rfl (vI (l := 0) (u := 15) (by decide +kernel) rfl (by omega) (by omega)) h92 h93 (by decide +kernel) (fun σ104 h105 h106 h107 h108 => ?_)
    obtain ⟨S109, h110⟩ : ∃ q : PS, q = wst S96 (8 + 1) ((tV By Nb S49.2.2.1)) := ⟨_, rfl⟩
    have h111 : CT By Nb σ104 S109 := by rw [h110]; exact CT_wst (CT_ne h98 h108 (by have := hP; unfold PLA at this; omega))
    have h112 : KN σ104 a (uPd (uPd Sp.2.2.2 (8) ((tV By Nb S16.2.2.1))) (8 + 1) ((tV By Nb S49.2.2.1))) (fun t => ((act Sp.2.2.2 t ∨ t = 8) ∨ t = 8 + 1)) := KN_st h99 h107 h108 (by omega) (by omega) (by rw [lcO_lt (by decide) (by decide), Nat.add_zero]) (by decide) (by (try have i0 := Imp_m h78 (by omega)); (try have i1 := Imp_m h77 (by omega)); (try have i2 := Imp_m h54 (by omega)); (try have i3 := Imp_m h53 (by omega)); (try have i4 := Imp_m h42.2.2.2.2.2.2.1 (by omega)); omega)
    have h113 : S109.2.2.2 = (uPd (uPd Sp.2.2.2 (8) ((tV By Nb S16.2.2.1))) (8 + 1) ((tV By Nb S49.2.2.1))) := by rw [h110]; show uPd S96.2.2.2 _ _ = _; rw [h100]
    have h114 : S109.1 = S96.1 := by rw [h110]; rfl
    have h115 := CT_k h111 ((h108 _ _ (Or.inr (by decide))).trans ((h95 _ _ (Or.inr (by decide))).trans h68))
    have o116 : OUT σ0 σ104 a := OUT_st o103 h108 (by omega)
    have h117 : fOwner By Nb Sp = S109 := by unfold fOwner fRule; (try dsimp only); first | (rw [← h17, ← h50, ← h74, ← h97, ← h110]; first | done | rfl) | (rw [← h17, ← h50, ← h74, ← h97, ← h110]; rw [if_pos (by omega)]; first | done | rfl) | (rw [← h17, ← h50, ← h74, ← h97, ← h110]; rw [if_neg (by omega)]; first | done | rfl) | (rw [← h17, ← h50, ← h74, ← h97, ← h110]; rw [if_neg (by omega), if_pos (by omega)]; first | done | rfl) | (rw [← h17, ← h50, ← h74, ← h97, ← h110]; rw [if_neg (by omega), if_neg (by omega)]; first | done | rfl) | (rw [← h17, ← h50, ← h74, ← h97, ← h110]; rw [if_neg (by omega), if_neg (by omega), if_neg (by omega)]; first | done | rfl)
    exact En_ret (v := none) rfl rfl rfl ⟨h105, h106, z67, ((h108 _ _ (Or.inr (by decide))).trans ((h95 _ _ (Or.inr (by decide))).trans h68)), rfl, ⟨o116, by omega, by omega, by omega, by omega, (by rw [h117]; exact ⟨h111, fun zz => by rw [h113]; exact KN_sub h112 (fun t t0 t1 y => Or.inl (Or.inl (act_low (by omega) (act_low (by omega) y))))⟩)⟩⟩
/-- DoorSchool$Reader.readHouse(LDoorSchool$Plan;)V -/
abbrev P_66x (σ0 : SG) (By : Int → Int) (Nb : Int) (Sp : PS) (a : Nat) (f : Int32) (sg : Int32) : PO := fun v σ => WT σ ∧ Fr [(3, 1), (3, 2), (3, 3), (3, 4), (3, 5), (3, 6), (18, 8), (23, 0), (24, 0)] σ0 σ ∧ ∃ f1 : Int32, (σ 3)[5]? = some (.int f1) ∧ v = none ∧ OUT σ0 σ a ∧ -f1.toInt ≤ 0 ∧ f1.toInt - 3 ≤ 0 ∧ -f1.toInt + f.toInt ≤ 0 ∧ f.toInt - f1.toInt ≤ 0 ∧ (CT By Nb σ (fHouse By Nb Sp) ∧ ((fHouse By Nb Sp).1 = 0 → KN σ a (fHouse By Nb Sp).2.2.2 (act (fHouse By Nb Sp).2.2.2)))
set_option maxRecDepth 10000 in
set_option maxHeartbeats 4000000 in
theorem c_66x {By : Int → Int} {Nb : Int} {Sp : PS} (σ0 : SG) (hσ0 : WT σ0) (a : Nat) (ha : TG a = 18) (f : Int32) (h_f : (σ0 3)[5]? = some (.int f)) (sg : Int32) (h_sg : (σ0 a)[1]? = some (.int sg)) (hp0 : -sg.toInt ≤ 0) (hC : CT By Nb σ0 Sp) (hg : Sp.1 = 0) (hP : PLA a) (hX : FXP σ0 a) (hK : KN σ0 a Sp.2.2.2 (act Sp.2.2.2)) : En 3 66 none mr_66 (P_66x σ0 By Nb Sp a f sg) 0 [(0, .ref 3), (1, .ref a)] [] σ0 := by
  obtain ⟨hl_f, hu_f⟩ := WT_int hσ0 (g := 3) (by decide +kernel) (by decide +kernel) (l := 0) (u := 3) (by decide +kernel) h_f
  obtain ⟨hl_sg, hu_sg⟩ := WT_int hσ0 (g := 18) ha (by decide +kernel) (l := (-1)) (u := 4) (by decide +kernel) h_sg
  have hF0 : Fr [(3, 1), (3, 2), (3, 3), (3, 4), (3, 5), (3, 6), (18, 8), (23, 0), (24, 0)] σ0 σ0 := Fr_rfl
  have h1 := CT_k hC h_f
  have h2 : Sp.2.2.2 0 = sg.toInt := KN_v hK (Or.inl (by decide)) (by decide) (by decide) (by rw [lcO_lt (by decide) (by decide), Nat.add_zero]) rfl h_sg
  have h3 : pI (Sp.2.2.2 0) = pI (sg.toInt) := by rw [h2]
  obtain ⟨z5, h4, h6, h7⟩ := WT_peekI hσ0 ha (by decide +kernel : FT 18 8 = (0, 0, 4)) (by decide +kernel)
  have h8 : Sp.2.2.2 4 = z5.toInt := KN_v hK (Or.inl (by decide)) (by decide) (by decide) (by rw [lcO_lt (by decide) (by decide), Nat.add_zero]) rfl h4
  refine En_Ps 1 (pc' := 1) (lv' := [(0, .ref 3), (1, .ref a)]) (st' := [.ref a]) rfl ?_
  refine En_getK (j := 8) h4 rfl rfl rfl ha (by decide +kernel) ?_
  refine En_Ps 1 (pc' := 5) (lv' := [(0, .ref 3), (1, .ref a)]) (st' := [.int ((Int32.ofInt 4)), .int z5]) rfl ?_
  refine En_icLt _ rfl (by decide : (Int32.ofInt 4).toInt = 4) rfl (fun h9 => ?_) (fun h9 => ?_)
  · refine En_Ps 1 (pc' := 15) (lv' := [(0, .ref 3), (1, .ref a)]) (st' := [.ref 3]) rfl ?_
    obtain ⟨z11, h10, h12, h13⟩ := WT_peekI hσ0 tgz_3 (by decide +kernel : FT 3 3 = (0, 0, 1600)) (by decide +kernel)
    refine En_callV rfl rfl rfl rfl rfl rfl rfl rfl tgz_3 (by decide +kernel) rfl (c_72x σ0 hσ0 z11 h10 hC.1 (CT_at hC (by omega) h10)) (by decide) (by decide) (fun v15 σ16 h14 => ?_)
    obtain ⟨h17, h18, rfl, h19⟩ := h14
    have h20 := h19
    have h21 := Fr_trans hF0 h18 (by decide +kernel)
    obtain ⟨S22, h23⟩ : ∃ q : PS, q = adv By Nb Sp := ⟨_, rfl⟩
    have h24 : CT By Nb σ16 S22 := by rw [h23]; exact (CT_adv hC (by omega) h10 h18 (by decide +kernel) h20.2)
    have h25 := CT_k h24 ((h18 _ _ (inW tgz_3 (by decide +kernel))).trans h_f)
    have h26 : S22.2.2.2 = Sp.2.2.2 := by rw [h23]; exact adv_w
    have h27 : S22.1 = Sp.1 := by rw [h23]; exact adv_1
    have h28 := KN_fr hP hK h18 (by decide +kernel)
    have h29 : S22.2.2.2 = Sp.2.2.2 := h26.trans (rfl : Sp.2.2.2 = Sp.2.2.2)
    have o30 : OUT σ0 σ16 a := OUT_fr OUT_0 h18 (by decide +kernel)
    refine En_Ps 3 (pc' := 21) (lv' := [(0, .ref 3), (1, .ref a)]) (st' := [.ref a, .int ((Int32.ofInt 0)), .ref 3]) rfl ?_
    refine En_callV rfl rfl rfl rfl rfl rfl rfl rfl ha (by decide +kernel) rfl (c_51x σ16 h17 a ha sg ((h18 _ _ (inW ha (by decide +kernel))).trans h_sg) (by omega)) (by decide) (by decide) (fun v32 σ33 h31 => ?_)
    obtain ⟨h34, h35, z37, rfl, h36⟩ := h31
    have h38 := h36.2.2
    obtain rfl : σ16 = σ33 := Fr_nil h35
    have h39 := h38
    have h40 : pI (S22.2.2.2 0) = z37.toInt := by rw [h29]; omega
    refine En_Ps 2 (pc' := 26) (lv' := [(0, .ref 3), (1, .ref a)]) (st' := [.int ((z37 - ((Int32.ofInt 1)))), .int ((Int32.ofInt 0)), .ref 3]) rfl ?_
    refine En_top (subI rfl (by decide : (Int32.ofInt 1).toInt = 1) (by omega) (by omega)) (fun z41 h42 => ?_)
    have := (by decide : ((Int32.ofInt 0)).toInt = 0)
    refine En_callV rfl rfl rfl rfl rfl rfl rfl rfl tgz_3 (by decide +kernel) rfl (c_73x σ16 h17 ((Int32.ofInt 0)) z41 f ((h18 _ _ (inW tgz_3 (by decide +kernel))).trans h_f) h24) (by decide) (by decide) (fun v44 σ45 h43 => ?_)
    obtain ⟨h46, h47, z49, h50, z51, rfl, h48⟩ := h43
    have h52 := h48.2.2.2.2.2.2.2.2.2
    have h53 := Fr_trans h21 h47 (by decide +kernel)
    have h54 : tN By Nb ((Int32.ofInt 0)).toInt z41.toInt S22 = tN By Nb (0) (pI (S22.2.2.2 0) - 1) S22 := tN_cg2 (fun zz => by omega) (fun zz => by omega)
    obtain ⟨S55, h56⟩ : ∃ q : PS, q = tN By Nb (0) (pI (S22.2.2.2 0) - 1) S22 := ⟨_, rfl⟩
    have h57 : CT By Nb σ45 S55 := by rw [h56]; exact (CT_eq h52.1 h54)
    have h58 := CT_k h57 h50
    have h59 : Imp (S55.1 = 0) (z51.toInt = tV By Nb S22.2.2.1) := fun z => Imp_m h52.2 (by rw [h54, ← h56]; exact z)
    have h60 : Imp (S55.1 = 0) (S22.1 = 0 ∧ tK By Nb S22.2.2.1 = 2 ∧ 0 ≤ tV By Nb S22.2.2.1 ∧ tV By Nb S22.2.2.1 ≤ pI (S22.2.2.2 0) - 1) := fun z => tN_gg (by rw [← h56]; exact z)
    have h61 : S55.2.2.2 = S22.2.2.2 := by rw [h56]; exact tN_w
    have h62 := KN_fr hP h28 h47 (by decide +kernel)
    have h63 : S55.2.2.2 = Sp.2.2.2 := h61.trans h29
    have o64 : OUT σ0 σ45 a := OUT_fr o30 h47 (by decide +kernel)
    have h65 := Imp_m h48.2.2.2.2.2.2.2.1 (by omega)
    have h66 := Imp_m h48.2.2.2.2.2.2.2.2.1 (by omega)
    refine En_Ps 3 (pc' := 32) (lv' := [(2, .int z51), (0, .ref 3), (1, .ref a)]) (st' := [.int z51, .ref 3]) rfl ?_
    refine En_callV rfl rfl rfl rfl rfl rfl rfl rfl tgz_3 (by decide +kernel) rfl (c_74x σ45 h46 z51 (geI rfl (by omega)) (leI rfl (by omega)) z49 h50 h57 (fun zz => by (try have i0 := Imp_m h60 (by omega)); (try have i1 := Imp_m h59 (by omega)); (try have i2 := Imp_m h48.2.2.2.2.2.1 (by omega)); (try have i3 := Imp_m h48.2.2.2.2.2.2.1 (by omega)); omega)) (by decide) (by decide) (fun v68 σ69 h67 => ?_)
    obtain ⟨h70, h71, z73, h74, z75, rfl, h72⟩ := h67
    have h76 := h72.2.2.2.2.2.2.2
    have h77 := Fr_trans h53 h71 (by decide +kernel)
    have h78 : tP By Nb z51.toInt S55 = tP By Nb (tV By Nb S22.2.2.1) S55 := tP_cg2 (fun zz => by (try have i0 := Imp_m h60 (by omega)); (try have i1 := Imp_m h59 (by omega)); (try have i2 := Imp_m h48.2.2.2.2.2.1 (by omega)); (try have i3 := Imp_m h48.2.2.2.2.2.2.1 (by omega)); omega)
    obtain ⟨S79, h80⟩ : ∃ q : PS, q = tP By Nb (tV By Nb S22.2.2.1) S55 := ⟨_, rfl⟩
    have h81 : CT By Nb σ69 S79 := by rw [h80]; exact (CT_eq h76.1 h78)
    have h82 := CT_k h81 h74
    have h83 : Imp (S79.1 = 0) (z75.toInt = tV By Nb S55.2.2.1) := fun z => Imp_m h76.2 (by rw [h78, ← h80]; exact z)
    have h84 : Imp (S79.1 = 0) (S55.1 = 0) := fun z => tP_g (by rw [← h80]; exact z)
    have h85 : S79.2.2.2 = S55.2.2.2 := by rw [h80]; exact tP_w
    have h86 := KN_fr hP h62 h71 (by decide +kernel)
    have h87 : S79.2.2.2 = Sp.2.2.2 := h85.trans h63
    have o88 : OUT σ0 σ69 a := OUT_fr o64 h71 (by decide +kernel)
    refine En_Ps 2 (pc' := 37) (lv' := [(3, .int z75), (2, .int z51), (0, .ref 3), (1, .ref a)]) (st' := [.ref 3]) rfl ?_
    refine En_getK (j := 5) h74 rfl rfl rfl tgz_3 (by decide +kernel) ?_
    refine En_iNe _ rfl rfl (fun h89 => ?_) (fun h89 => ?_)
    · have h90 : fRule By Nb (146 + 2 * Sp.2.2.2 4) S22 = S79 := by unfold fRule; (try dsimp only); rw [← h56, ← h80]; first | (rw [if_pos (by omega)]; first | done | rfl) | (rw [if_neg (by omega)]; first | done | rfl)
      have h91 : fHouse By Nb Sp = S79 := by unfold fHouse; (try dsimp only); first | (rw [← h23, h90]; first | done | rfl) | (rw [← h23, h90]; rw [if_pos (by omega)]; first | done | rfl) | (rw [← h23, h90]; rw [if_neg (by omega)]; first | done | rfl) | (rw [← h23, h90]; rw [if_neg (by omega), if_pos (by omega)]; first | done | rfl) | (rw [← h23, h90]; rw [if_neg (by omega), if_neg (by omega)]; first | done | rfl) | (rw [← h23, h90]; rw [if_neg (by omega), if_neg (by omega), if_neg (by omega)]; first | done | rfl)
      exact En_ret (v := none) rfl rfl rfl ⟨h70, h77, z73, h74, rfl, ⟨o88, by omega, by omega, by omega, by omega, (by rw [h91]; exact ⟨h81, fun z => absurd z (by omega)⟩)⟩⟩
    · have h92 := Imp_m h48.2.2.2.2.2.1 (by omega)
      have h93 := Imp_m h72.2.2.2.2.2.2.1 (by omega)
      try have h94 := Imp_m h84 (by omega)
      try have h95 := Imp_m h83 (by omega)
      try have h96 := Imp_m h60 (by omega)
      try have h97 := Imp_m h59 (by omega)
      refine En_Ps 1 (pc' := 44) (lv' := [(3, .int z75), (2, .int z51), (0, .ref 3), (1, .ref a)]) (st' := [.ref a]) rfl ?_
      refine En_getR (j := 9) (g' := 23) (u := 0) rfl rfl rfl ha (by decide +kernel) h70 (by decide +kernel) (fun a99 h98 ha99 => ?_)
      refine En_Ps 1 (pc' := 48) (lv' := [(3, .int z75), (2, .int z51), (0, .ref 3), (1, .ref a)]) (st' := [.ref a, .ref a99]) rfl ?_
      refine En_getK (j := 8) ((h71 _ _ (inW ha (by decide +kernel))).trans ((h47 _ _ (inW ha (by decide +kernel))).trans ((h18 _ _ (inW ha (by decide +kernel))).trans h4))) rfl rfl rfl ha (by decide +kernel) ?_
      refine En_Ps 1 (pc' := 52) (lv' := [(3, .int z75), (2, .int z51), (0, .ref 3), (1, .ref a)]) (st' := [.int z51, .int z5, .ref a99]) rfl ?_
      refine En_iast (l := 0) (u := 15) rfl rfl ha99 (by decide +kernel) (by omega) (lnI (by decide +kernel : LN _ = 4) (by omega)) (FTsgl (by decide +kernel)) (rngI rfl (by omega) (by omega)) h70 h77 (by decide +kernel) (fun σ100 h101 h102 h103 h104 => ?_)
      have h105 : a99 = a + 5 := ref_uniq ((h104 _ _ (Or.inl (neTG ha ha99 (by decide)))).trans h98) (FXP_fr hP hX h102 (by decide +kernel)).2.2.1
      have h106 := lc_h (m := Sp.2.2.2 4) (by omega) (by omega)
      obtain ⟨S107, h108⟩ : ∃ q : PS, q = wst S79 (146 + 2 * Sp.2.2.2 4) ((tV By Nb S22.2.2.1)) := ⟨_, rfl⟩
      have h109 : CT By Nb σ100 S107 := by rw [h108]; exact CT_wst (CT_ne h81 h104 (by have := hP; unfold PLA at this; omega))
      have h110 : KN σ100 a (uPd Sp.2.2.2 (146 + 2 * Sp.2.2.2 4) ((tV By Nb S22.2.2.1))) (fun t => (act Sp.2.2.2 t ∨ t = 146 + 2 * Sp.2.2.2 4)) := KN_st h86 h103 h104 (by omega) (by omega) (by omega) (by omega) (by (try have i0 := Imp_m h84 (by omega)); (try have i1 := Imp_m h83 (by omega)); (try have i2 := Imp_m h60 (by omega)); (try have i3 := Imp_m h59 (by omega)); (try have i4 := Imp_m h48.2.2.2.2.2.2.1 (by omega)); omega)
      have h111 : S107.2.2.2 = (uPd Sp.2.2.2 (146 + 2 * Sp.2.2.2 4) ((tV By Nb S22.2.2.1))) := by rw [h108]; show uPd S79.2.2.2 _ _ = _; rw [h87]
      have h112 : S107.1 = S79.1 := by rw [h108]; rfl
      have h113 := CT_k h109 ((h104 _ _ (Or.inl (neTG tgz_3 ha99 (by decide)))).trans h74)
      have o114 : OUT σ0 σ100 a := OUT_st o88 h104 (by omega)
      refine En_Ps 1 (pc' := 54) (lv' := [(3, .int z75), (2, .int z51), (0, .ref 3), (1, .ref a)]) (st' := [.ref a]) rfl ?_
      refine En_getR (j := 10) (g' := 24) (u := 0) rfl rfl rfl ha (by decide +kernel) h101 (by decide +kernel) (fun a116 h115 ha116 => ?_)
      refine En_Ps 1 (pc' := 58) (lv' := [(3, .int z75), (2, .int z51), (0, .ref 3), (1, .ref a)]) (st' := [.ref a, .ref a116]) rfl ?_
      refine En_getK (j := 8) ((h104 _ _ (Or.inl (neTG ha ha99 (by decide)))).trans ((h71 _ _ (inW ha (by decide +kernel))).trans ((h47 _ _ (inW ha (by decide +kernel))).trans ((h18 _ _ (inW ha (by decide +kernel))).trans h4)))) rfl rfl rfl ha (by decide +kernel) ?_
      refine En_Ps 1 (pc' := 62) (lv' := [(3, .int z75), (2, .int z51), (0, .ref 3), (1, .ref a)]) (st' := [.int z75, .int z5, .ref a116]) rfl ?_
      refine En_iast (l := 0) (u := 15) rfl rfl ha116 (by decide +kernel) (by omega) (lnI (by decide +kernel : LN _ = 4) (by omega)) (FTsgl (by decide +kernel)) (rngI rfl (by omega) (by omega)) h101 h102 (by decide +kernel) (fun σ117 h118 h119 h120 h121 => ?_)
      have h122 : a116 = a + 6 := ref_uniq ((h121 _ _ (Or.inl (neTG ha ha116 (by decide)))).trans h115) (FXP_fr hP hX h119 (by decide +kernel)).2.2.2.1
      have h123 := lc_h (m := Sp.2.2.2 4) (by omega) (by omega)
      obtain ⟨S124, h125⟩ : ∃ q : PS, q = wst S107 (146 + 2 * Sp.2.2.2 4 + 1) ((tV By Nb S55.2.2.1)) := ⟨_, rfl⟩
      have h126 : CT By Nb σ117 S124 := by rw [h125]; exact CT_wst (CT_ne h109 h121 (by have := hP; unfold PLA at this; omega))
      have h127 : KN σ117 a (uPd (uPd Sp.2.2.2 (146 + 2 * Sp.2.2.2 4) ((tV By Nb S22.2.2.1))) (146 + 2 * Sp.2.2.2 4 + 1) ((tV By Nb S55.2.2.1))) (fun t => ((act Sp.2.2.2 t ∨ t = 146 + 2 * Sp.2.2.2 4) ∨ t = 146 + 2 * Sp.2.2.2 4 + 1)) := KN_st h110 h120 h121 (by omega) (by omega) (by omega) (by omega) (by (try have i0 := Imp_m h84 (by omega)); (try have i1 := Imp_m h83 (by omega)); (try have i2 := Imp_m h60 (by omega)); (try have i3 := Imp_m h59 (by omega)); (try have i4 := Imp_m h48.2.2.2.2.2.2.1 (by omega)); omega)
      have h128 : S124.2.2.2 = (uPd (uPd Sp.2.2.2 (146 + 2 * Sp.2.2.2 4) ((tV By Nb S22.2.2.1))) (146 + 2 * Sp.2.2.2 4 + 1) ((tV By Nb S55.2.2.1))) := by rw [h125]; show uPd S107.2.2.2 _ _ = _; rw [h111]
      have h129 : S124.1 = S107.1 := by rw [h125]; rfl
      have h130 := CT_k h126 ((h121 _ _ (Or.inl (neTG tgz_3 ha116 (by decide)))).trans ((h104 _ _ (Or.inl (neTG tgz_3 ha99 (by decide)))).trans h74))
      have o131 : OUT σ0 σ117 a := OUT_st o114 h121 (by omega)
      have h132 : fRule By Nb (146 + 2 * Sp.2.2.2 4) S22 = S124 := by unfold fRule; (try dsimp only); rw [← h56, ← h80, ← h108, ← h125]; first | (rw [if_pos (by omega)]; first | done | rfl) | (rw [if_neg (by omega)]; first | done | rfl)
      refine En_Ps 2 (pc' := 65) (lv' := [(3, .int z75), (2, .int z51), (0, .ref 3), (1, .ref a)]) (st' := [.ref a, .ref a]) rfl ?_
      refine En_getK (j := 8) ((h121 _ _ (Or.inl (neTG ha ha116 (by decide)))).trans ((h104 _ _ (Or.inl (neTG ha ha99 (by decide)))).trans ((h71 _ _ (inW ha (by decide +kernel))).trans ((h47 _ _ (inW ha (by decide +kernel))).trans ((h18 _ _ (inW ha (by decide +kernel))).trans h4))))) rfl rfl rfl ha (by decide +kernel) ?_
      refine En_Ps 2 (pc' := 70) (lv' := [(3, .int z75), (2, .int z51), (0, .ref 3), (1, .ref a)]) (st' := [.int ((z5 + ((Int32.ofInt 1)))), .ref a]) rfl ?_
      refine En_top (addI rfl (by decide : (Int32.ofInt 1).toInt = 1) (by omega) (by omega)) (fun z133 h134 => ?_)
      refine En_put (j := 8) rfl rfl rfl ha (by decide +kernel) rfl (vI (l := 0) (u := 4) (by decide +kernel) rfl (by omega) (by omega)) h118 h119 (by decide +kernel) (fun σ135 h136 h137 h138 h139 => ?_)
      obtain ⟨S140, h141⟩ : ∃ q : PS, q = wst S124 (4) (Sp.2.2.2 4 + 1) := ⟨_, rfl⟩
      have h142 : CT By Nb σ135 S140 := by rw [h141]; exact CT_wst (CT_ne h126 h139 (by have := hP; unfold PLA at this; omega))
      have h143 : KN σ135 a (uPd (uPd (uPd Sp.2.2.2 (146 + 2 * Sp.2.2.2 4) ((tV By Nb S22.2.2.1))) (146 + 2 * Sp.2.2.2 4 + 1) ((tV By Nb S55.2.2.1))) (4) (Sp.2.2.2 4 + 1)) (fun t => (((act Sp.2.2.2 t ∨ t = 146 + 2 * Sp.2.2.2 4) ∨ t = 146 + 2 * Sp.2.2.2 4 + 1) ∨ t = 4)) := KN_st h127 h138 h139 (by omega) (by omega) (by rw [lcO_lt (by decide) (by decide), Nat.add_zero]) (by decide) (by (try have i0 := Imp_m h84 (by omega)); (try have i1 := Imp_m h83 (by omega)); (try have i2 := Imp_m h60 (by omega)); (try have i3 := Imp_m h59 (by omega)); (try have i4 := Imp_m h48.2.2.2.2.2.2.1 (by omega)); omega)
      have h144 : S140.2.2.2 = (uPd (uPd (uPd Sp.2.2.2 (146 + 2 * Sp.2.2.2 4) ((tV By Nb S22.2.2.1))) (146 + 2 * Sp.2.2.2 4 + 1) ((tV By Nb S55.2.2.1))) (4) (Sp.2.2.2 4 + 1)) := by rw [h141]; show uPd S124.2.2.2 _ _ = _; rw [h128]
      have h145 : S140.1 = S124.1 := by rw [h141]; rfl
      have h146 := CT_k h142 ((h139 _ _ (Or.inr (by decide))).trans ((h121 _ _ (Or.inl (neTG tgz_3 ha116 (by decide)))).trans ((h104 _ _ (Or.inl (neTG tgz_3 ha99 (by decide)))).trans h74)))
      have o147 : OUT σ0 σ135 a := OUT_st o131 h139 (by omega)
      have h148 : fHouse By Nb Sp = S140 := by unfold fHouse; (try dsimp only); first | (rw [← h23, h132, ← h141]; first | done | rfl) | (rw [← h23, h132, ← h141]; rw [if_pos (by omega)]; first | done | rfl) | (rw [← h23, h132, ← h141]; rw [if_neg (by omega)]; first | done | rfl) | (rw [← h23, h132, ← h141]; rw [if_neg (by omega), if_pos (by omega)]; first | done | rfl) | (rw [← h23, h132, ← h141]; rw [if_neg (by omega), if_neg (by omega)]; first | done | rfl) | (rw [← h23, h132, ← h141]; rw [if_neg (by omega), if_neg (by omega), if_neg (by omega)]; first | done | rfl)
      exact En_ret (v := none) rfl rfl rfl ⟨h136, h137, z73, ((h139 _ _ (Or.inr (by decide))).trans ((h121 _ _ (Or.inl (neTG tgz_3 ha116 (by decide)))).trans ((h104 _ _ (Or.inl (neTG tgz_3 ha99 (by decide)))).trans h74))), rfl, ⟨o147, by omega, by omega, by omega, by omega, (by rw [h148]; exact ⟨h142, fun zz => by rw [h144]; exact KN_sub h143 (fun t t0 t1 y => AHs (by omega) y)⟩)⟩⟩
  · refine En_Ps 2 (pc' := 10) (lv' := [(0, .ref 3), (1, .ref a)]) (st' := [.int ((Int32.ofInt 3)), .ref 3]) rfl ?_
    have := (by decide : ((Int32.ofInt 3)).toInt = 3)
    refine En_callV rfl rfl rfl rfl rfl rfl rfl rfl tgz_3 (by decide +kernel) rfl (c_54x σ0 hσ0 ((Int32.ofInt 3)) (geI (by decide : (Int32.ofInt 3).toInt = 3) (by omega)) (leI (by decide : (Int32.ofInt 3).toInt = 3) (by omega)) f h_f hC) (by decide) (by decide) (fun v150 σ151 h149 => ?_)
    obtain ⟨h152, h153, z155, h156, rfl, h154⟩ := h149
    have h157 := h154.2.2.2.2.2
    have h158 := Fr_trans hF0 h153 (by decide +kernel)
    obtain ⟨S159, h160⟩ : ∃ q : PS, q = err By Nb 3 Sp := ⟨_, rfl⟩
    have h161 : CT By Nb σ151 S159 := by rw [h160]; exact (CT_eq h157 (err_cg (by omega)))
    have h162 := CT_k h161 h156
    have h163 : S159.2.2.2 = Sp.2.2.2 := by rw [h160]; exact err_w
    have h164 := KN_fr hP hK h153 (by decide +kernel)
    have h165 : S159.2.2.2 = Sp.2.2.2 := h163.trans (rfl : Sp.2.2.2 = Sp.2.2.2)
    have o166 : OUT σ0 σ151 a := OUT_fr OUT_0 h153 (by decide +kernel)
    have h167 : fHouse By Nb Sp = S159 := by unfold fHouse; (try dsimp only); first | (rw [← h160]; first | done | rfl) | (rw [← h160]; rw [if_pos (by omega)]; first | done | rfl) | (rw [← h160]; rw [if_neg (by omega)]; first | done | rfl) | (rw [← h160]; rw [if_neg (by omega), if_pos (by omega)]; first | done | rfl) | (rw [← h160]; rw [if_neg (by omega), if_neg (by omega)]; first | done | rfl) | (rw [← h160]; rw [if_neg (by omega), if_neg (by omega), if_neg (by omega)]; first | done | rfl)
    exact En_ret (v := none) rfl rfl rfl ⟨h152, h158, z155, h156, rfl, ⟨o166, by omega, by omega, by omega, by omega, (by rw [h167]; exact ⟨h161, fun z => absurd z (by omega)⟩)⟩⟩
/-- DoorSchool$Reader.readCourse(LDoorSchool$Plan;)V -/
abbrev P_62x (σ0 : SG) (By : Int → Int) (Nb : Int) (Sp : PS) (a : Nat) (f : Int32) (sg : Int32) : PO := fun v σ => WT σ ∧ Fr [(3, 1), (3, 2), (3, 3), (3, 4), (3, 5), (3, 6), (18, 11), (25, 0)] σ0 σ ∧ ∃ f1 : Int32, (σ 3)[5]? = some (.int f1) ∧ v = none ∧ OUT σ0 σ a ∧ -f1.toInt ≤ 0 ∧ f1.toInt - 3 ≤ 0 ∧ -f1.toInt + f.toInt ≤ 0 ∧ f.toInt - f1.toInt ≤ 0 ∧ (CT By Nb σ (fCourse By Nb Sp) ∧ ((fCourse By Nb Sp).1 = 0 → KN σ a (fCourse By Nb Sp).2.2.2 (act (fCourse By Nb Sp).2.2.2)))
set_option maxRecDepth 10000 in
set_option maxHeartbeats 4000000 in
theorem c_62x {By : Int → Int} {Nb : Int} {Sp : PS} (σ0 : SG) (hσ0 : WT σ0) (a : Nat) (ha : TG a = 18) (f : Int32) (h_f : (σ0 3)[5]? = some (.int f)) (sg : Int32) (h_sg : (σ0 a)[1]? = some (.int sg)) (hp0 : -sg.toInt ≤ 0) (hC : CT By Nb σ0 Sp) (hg : Sp.1 = 0) (hP : PLA a) (hX : FXP σ0 a) (hK : KN σ0 a Sp.2.2.2 (act Sp.2.2.2)) : En 5 112 none mr_62 (P_62x σ0 By Nb Sp a f sg) 0 [(0, .ref 3), (1, .ref a)] [] σ0 := by
  obtain ⟨hl_f, hu_f⟩ := WT_int hσ0 (g := 3) (by decide +kernel) (by decide +kernel) (l := 0) (u := 3) (by decide +kernel) h_f
  obtain ⟨hl_sg, hu_sg⟩ := WT_int hσ0 (g := 18) ha (by decide +kernel) (l := (-1)) (u := 4) (by decide +kernel) h_sg
  have hF0 : Fr [(3, 1), (3, 2), (3, 3), (3, 4), (3, 5), (3, 6), (18, 11), (25, 0)] σ0 σ0 := Fr_rfl
  have h1 := CT_k hC h_f
  obtain ⟨z3, h2, h4, h5⟩ := WT_peekI hσ0 ha (by decide +kernel : FT 18 11 = (0, 0, 6)) (by decide +kernel)
  have h6 : Sp.2.2.2 5 = z3.toInt := KN_v hK (Or.inl (by decide)) (by decide) (by decide) (by rw [lcO_lt (by decide) (by decide), Nat.add_zero]) rfl h2
  refine En_Ps 1 (pc' := 1) (lv' := [(0, .ref 3), (1, .ref a)]) (st' := [.ref a]) rfl ?_
  refine En_getK (j := 11) h2 rfl rfl rfl ha (by decide +kernel) ?_
  refine En_Ps 1 (pc' := 6) (lv' := [(0, .ref 3), (1, .ref a)]) (st' := [.int (((Int8.ofInt 6).toInt32)), .int z3]) rfl ?_
  refine En_icLt _ rfl (by decide : ((Int8.ofInt 6).toInt32).toInt = 6) rfl (fun h7 => ?_) (fun h7 => ?_)
  · refine En_Ps 1 (pc' := 16) (lv' := [(0, .ref 3), (1, .ref a)]) (st' := [.ref 3]) rfl ?_
    obtain ⟨z9, h8, h10, h11⟩ := WT_peekI hσ0 tgz_3 (by decide +kernel : FT 3 3 = (0, 0, 1600)) (by decide +kernel)
    refine En_callV rfl rfl rfl rfl rfl rfl rfl rfl tgz_3 (by decide +kernel) rfl (c_72x σ0 hσ0 z9 h8 hC.1 (CT_at hC (by omega) h8)) (by decide) (by decide) (fun v13 σ14 h12 => ?_)
    obtain ⟨h15, h16, rfl, h17⟩ := h12
    have h18 := h17
    have h19 := Fr_trans hF0 h16 (by decide +kernel)
    obtain ⟨S20, h21⟩ : ∃ q : PS, q = adv By Nb Sp := ⟨_, rfl⟩
    have h22 : CT By Nb σ14 S20 := by rw [h21]; exact (CT_adv hC (by omega) h8 h16 (by decide +kernel) h18.2)
    have h23 := CT_k h22 ((h16 _ _ (inW tgz_3 (by decide +kernel))).trans h_f)
    have h24 : S20.2.2.2 = Sp.2.2.2 := by rw [h21]; exact adv_w
    have h25 : S20.1 = Sp.1 := by rw [h21]; exact adv_1
    have h26 := KN_fr hP hK h16 (by decide +kernel)
    have h27 : S20.2.2.2 = Sp.2.2.2 := h24.trans (rfl : Sp.2.2.2 = Sp.2.2.2)
    have o28 : OUT σ0 σ14 a := OUT_fr OUT_0 h16 (by decide +kernel)
    refine En_Ps 2 (pc' := 21) (lv' := [(0, .ref 3), (1, .ref a)]) (st' := [.ref 3, .ref 3]) rfl ?_
    refine En_ldcS (i := 15) rfl rfl rfl ?_
    refine En_callV rfl rfl rfl rfl rfl rfl rfl rfl tgz_3 (by decide +kernel) rfl (c_71s15x σ14 h15 h22) (by decide) (by decide) (fun v30 σ31 h29 => ?_)
    obtain ⟨h32, h33, z35, rfl, h34⟩ := h29
    have h36 := h34.2.2
    obtain rfl : σ14 = σ31 := Fr_nil h33
    have h37 := h36
    refine En_callV rfl rfl rfl rfl rfl rfl rfl rfl tgz_3 (by decide +kernel) rfl (c_59x σ14 h15 z35 (geI rfl (by omega)) (leI rfl (by omega)) f ((h16 _ _ (inW tgz_3 (by decide +kernel))).trans h_f) h22) (by decide) (by decide) (fun v39 σ40 h38 => ?_)
    obtain ⟨h41, h42, z44, h45, rfl, h43⟩ := h38
    have h46 := h43.2.2.2.2.2.2
    have h47 := Fr_trans h19 h42 (by decide +kernel)
    have h48 : pss By Nb z35.toInt S20 = pss By Nb (iW By Nb 15 S20) S20 := pss_cg2 (fun zz => by (try have i0 := Imp_m h37 (by omega)); omega)
    obtain ⟨S49, h50⟩ : ∃ q : PS, q = pss By Nb (iW By Nb 15 S20) S20 := ⟨_, rfl⟩
    have h51 : CT By Nb σ40 S49 := by rw [h50]; exact (CT_eq h46 h48)
    have h52 := CT_k h51 h45
    have h53 : S49.2.2.2 = S20.2.2.2 := by rw [h50]; exact pss_w
    have h54 : Imp (S49.1 = 0) (S20.1 = 0) := fun z => (pss_g (by rw [h48, ← h50]; exact z)).1
    have h55 : Imp (S49.1 = 0) (z35.toInt = 1) := fun z => (pss_g (by rw [h48, ← h50]; exact z)).2.1
    have h56 := KN_fr hP h26 h42 (by decide +kernel)
    have h57 : S49.2.2.2 = Sp.2.2.2 := h53.trans h27
    have o58 : OUT σ0 σ40 a := OUT_fr o28 h42 (by decide +kernel)
    refine En_Ps 3 (pc' := 33) (lv' := [(0, .ref 3), (1, .ref a)]) (st' := [.int (((Int8.ofInt 9).toInt32)), .int ((Int32.ofInt 1)), .ref 3]) rfl ?_
    have := (by decide : ((Int32.ofInt 1)).toInt = 1)
    have := (by decide : (((Int8.ofInt 9).toInt32)).toInt = 9)
    refine En_callV rfl rfl rfl rfl rfl rfl rfl rfl tgz_3 (by decide +kernel) rfl (c_73x σ40 h41 ((Int32.ofInt 1)) (((Int8.ofInt 9).toInt32)) z44 h45 h51) (by decide) (by decide) (fun v60 σ61 h59 => ?_)
    obtain ⟨h62, h63, z65, h66, z67, rfl, h64⟩ := h59
    have h68 := h64.2.2.2.2.2.2.2.2.2
    have h69 := Fr_trans h47 h63 (by decide +kernel)
    have h70 : tN By Nb ((Int32.ofInt 1)).toInt (((Int8.ofInt 9).toInt32)).toInt S49 = tN By Nb (1) (9) S49 := tN_cg2 (fun zz => by omega) (fun zz => by omega)
    obtain ⟨S71, h72⟩ : ∃ q : PS, q = tN By Nb (1) (9) S49 := ⟨_, rfl⟩
    have h73 : CT By Nb σ61 S71 := by rw [h72]; exact (CT_eq h68.1 h70)
    have h74 := CT_k h73 h66
    have h75 : Imp (S71.1 = 0) (z67.toInt = tV By Nb S49.2.2.1) := fun z => Imp_m h68.2 (by rw [h70, ← h72]; exact z)
    have h76 : Imp (S71.1 = 0) (S49.1 = 0 ∧ tK By Nb S49.2.2.1 = 2 ∧ 1 ≤ tV By Nb S49.2.2.1 ∧ tV By Nb S49.2.2.1 ≤ 9) := fun z => tN_gg (by rw [← h72]; exact z)
    have h77 : S71.2.2.2 = S49.2.2.2 := by rw [h72]; exact tN_w
    have h78 := KN_fr hP h56 h63 (by decide +kernel)
    have h79 : S71.2.2.2 = Sp.2.2.2 := h77.trans h57
    have o80 : OUT σ0 σ61 a := OUT_fr o58 h63 (by decide +kernel)
    have h81 := Imp_m h64.2.2.2.2.2.2.2.1 (by omega)
    have h82 := Imp_m h64.2.2.2.2.2.2.2.2.1 (by omega)
    refine En_Ps 2 (pc' := 38) (lv' := [(2, .int z67), (0, .ref 3), (1, .ref a)]) (st' := [.ref 3]) rfl ?_
    refine En_getK (j := 5) h66 rfl rfl rfl tgz_3 (by decide +kernel) ?_
    refine En_iNe _ rfl rfl (fun h83 => ?_) (fun h83 => ?_)
    · have h84 := Imp_m h64.2.2.2.2.2.2.1 (by omega)
      have h85 : fCourse By Nb Sp = S71 := by unfold fCourse; (try dsimp only); first | (rw [← h21, ← h50, ← h72]; first | done | rfl) | (rw [← h21, ← h50, ← h72]; rw [if_pos (by omega)]; first | done | rfl) | (rw [← h21, ← h50, ← h72]; rw [if_neg (by omega)]; first | done | rfl) | (rw [← h21, ← h50, ← h72]; rw [if_neg (by omega), if_pos (by omega)]; first | done | rfl) | (rw [← h21, ← h50, ← h72]; rw [if_neg (by omega), if_neg (by omega)]; first | done | rfl) | (rw [← h21, ← h50, ← h72]; rw [if_neg (by omega), if_neg (by omega), if_neg (by omega)]; first | done | rfl)
      exact En_ret (v := none) rfl rfl rfl ⟨h62, h69, z65, h66, rfl, ⟨o80, by omega, by omega, by omega, by omega, (by rw [h85]; exact ⟨h73, fun z => absurd z (by omega)⟩)⟩⟩
    · have h86 := Imp_m h64.2.2.2.2.2.1 (by omega)
      try have h87 := Imp_m h76 (by omega)
      try have h88 := Imp_m h75 (by omega)
      try have h89 := Imp_m h55 (by omega)
      try have h90 := Imp_m h54 (by omega)
      try have h91 := Imp_m h37 (by omega)
      refine En_Ps 1 (pc' := 45) (lv' := [(2, .int z67), (0, .ref 3), (1, .ref a)]) (st' := [.ref a]) rfl ?_
      refine En_getR (j := 12) (g' := 25) (u := 0) rfl rfl rfl ha (by decide +kernel) h62 (by decide +kernel) (fun a93 h92 ha93 => ?_)
      refine En_Ps 1 (pc' := 49) (lv' := [(2, .int z67), (0, .ref 3), (1, .ref a)]) (st' := [.ref a, .ref a93]) rfl ?_
      refine En_getK (j := 11) ((h63 _ _ (inW ha (by decide +kernel))).trans ((h42 _ _ (inW ha (by decide +kernel))).trans ((h16 _ _ (inW ha (by decide +kernel))).trans h2))) rfl rfl rfl ha (by decide +kernel) ?_
      refine En_Ps 1 (pc' := 53) (lv' := [(2, .int z67), (0, .ref 3), (1, .ref a)]) (st' := [.int z67, .int z3, .ref a93]) rfl ?_
      refine En_iast (l := 0) (u := 9) rfl rfl ha93 (by decide +kernel) (by omega) (lnI (by decide +kernel : LN _ = 6) (by omega)) (FTsgl (by decide +kernel)) (rngI rfl (by omega) (by omega)) h62 h69 (by decide +kernel) (fun σ94 h95 h96 h97 h98 => ?_)
      have h99 : a93 = a + 7 := ref_uniq ((h98 _ _ (Or.inl (neTG ha ha93 (by decide)))).trans h92) (FXP_fr hP hX h96 (by decide +kernel)).2.2.2.2.1
      have h100 := lc_c (m := Sp.2.2.2 5) (by omega) (by omega)
      obtain ⟨S101, h102⟩ : ∃ q : PS, q = wst S71 (154 + 2 * Sp.2.2.2 5) ((tV By Nb S49.2.2.1)) := ⟨_, rfl⟩
      have h103 : CT By Nb σ94 S101 := by rw [h102]; exact CT_wst (CT_ne h73 h98 (by have := hP; unfold PLA at this; omega))
      have h104 : KN σ94 a (uPd Sp.2.2.2 (154 + 2 * Sp.2.2.2 5) ((tV By Nb S49.2.2.1))) (fun t => (act Sp.2.2.2 t ∨ t = 154 + 2 * Sp.2.2.2 5)) := KN_st h78 h97 h98 (by omega) (by omega) (by omega) (by omega) (by (try have i0 := Imp_m h76 (by omega)); (try have i1 := Imp_m h75 (by omega)); (try have i2 := Imp_m h55 (by omega)); (try have i3 := Imp_m h54 (by omega)); (try have i4 := Imp_m h37 (by omega)); (try have i5 := Imp_m h43.2.2.2.1 (by omega)); (try have i6 := Imp_m h43.2.2.2.2.2.1 (by omega)); (try have i7 := Imp_m h64.2.2.2.2.2.2.1 (by omega)); omega)
      have h105 : S101.2.2.2 = (uPd Sp.2.2.2 (154 + 2 * Sp.2.2.2 5) ((tV By Nb S49.2.2.1))) := by rw [h102]; show uPd S71.2.2.2 _ _ = _; rw [h79]
      have h106 : S101.1 = S71.1 := by rw [h102]; rfl
      have h107 := CT_k h103 ((h98 _ _ (Or.inl (neTG tgz_3 ha93 (by decide)))).trans h66)
      have o108 : OUT σ0 σ94 a := OUT_st o80 h98 (by omega)
      refine En_Ps 2 (pc' := 56) (lv' := [(2, .int z67), (0, .ref 3), (1, .ref a)]) (st' := [.ref a, .ref a]) rfl ?_
      refine En_getK (j := 11) ((h98 _ _ (Or.inl (neTG ha ha93 (by decide)))).trans ((h63 _ _ (inW ha (by decide +kernel))).trans ((h42 _ _ (inW ha (by decide +kernel))).trans ((h16 _ _ (inW ha (by decide +kernel))).trans h2)))) rfl rfl rfl ha (by decide +kernel) ?_
      refine En_Ps 2 (pc' := 61) (lv' := [(2, .int z67), (0, .ref 3), (1, .ref a)]) (st' := [.int ((z3 + ((Int32.ofInt 1)))), .ref a]) rfl ?_
      refine En_top (addI rfl (by decide : (Int32.ofInt 1).toInt = 1) (by omega) (by omega)) (fun z109 h110 => ?_)
      refine En_put (j := 11) rfl rfl rfl ha (by decide +kernel) rfl (vI (l := 0) (u := 6) (by decide +kernel) rfl (by omega) (by omega)) h95 h96 (by decide +kernel) (fun σ111 h112 h113 h114 h115 => ?_)
      obtain ⟨S116, h117⟩ : ∃ q : PS, q = wst S101 (5) (Sp.2.2.2 5 + 1) := ⟨_, rfl⟩
      have h118 : CT By Nb σ111 S116 := by rw [h117]; exact CT_wst (CT_ne h103 h115 (by have := hP; unfold PLA at this; omega))
      have h119 : KN σ111 a (uPd (uPd Sp.2.2.2 (154 + 2 * Sp.2.2.2 5) ((tV By Nb S49.2.2.1))) (5) (Sp.2.2.2 5 + 1)) (fun t => ((act Sp.2.2.2 t ∨ t = 154 + 2 * Sp.2.2.2 5) ∨ t = 5)) := KN_st h104 h114 h115 (by omega) (by omega) (by rw [lcO_lt (by decide) (by decide), Nat.add_zero]) (by decide) (by (try have i0 := Imp_m h76 (by omega)); (try have i1 := Imp_m h75 (by omega)); (try have i2 := Imp_m h55 (by omega)); (try have i3 := Imp_m h54 (by omega)); (try have i4 := Imp_m h37 (by omega)); (try have i5 := Imp_m h43.2.2.2.1 (by omega)); (try have i6 := Imp_m h43.2.2.2.2.2.1 (by omega)); (try have i7 := Imp_m h64.2.2.2.2.2.2.1 (by omega)); omega)
      have h120 : S116.2.2.2 = (uPd (uPd Sp.2.2.2 (154 + 2 * Sp.2.2.2 5) ((tV By Nb S49.2.2.1))) (5) (Sp.2.2.2 5 + 1)) := by rw [h117]; show uPd S101.2.2.2 _ _ = _; rw [h105]
      have h121 : S116.1 = S101.1 := by rw [h117]; rfl
      have h122 := CT_k h118 ((h115 _ _ (Or.inr (by decide))).trans ((h98 _ _ (Or.inl (neTG tgz_3 ha93 (by decide)))).trans h66))
      have o123 : OUT σ0 σ111 a := OUT_st o108 h115 (by omega)
      have h124 : fCourse By Nb Sp = S116 := by unfold fCourse; (try dsimp only); first | (rw [← h21, ← h50, ← h72, ← h102, ← h117]; first | done | rfl) | (rw [← h21, ← h50, ← h72, ← h102, ← h117]; rw [if_pos (by omega)]; first | done | rfl) | (rw [← h21, ← h50, ← h72, ← h102, ← h117]; rw [if_neg (by omega)]; first | done | rfl) | (rw [← h21, ← h50, ← h72, ← h102, ← h117]; rw [if_neg (by omega), if_pos (by omega)]; first | done | rfl) | (rw [← h21, ← h50, ← h72, ← h102, ← h117]; rw [if_neg (by omega), if_neg (by omega)]; first | done | rfl) | (rw [← h21, ← h50, ← h72, ← h102, ← h117]; rw [if_neg (by omega), if_neg (by omega), if_neg (by omega)]; first | done | rfl)
      exact En_ret (v := none) rfl rfl rfl ⟨h112, h113, z65, ((h115 _ _ (Or.inr (by decide))).trans ((h98 _ _ (Or.inl (neTG tgz_3 ha93 (by decide)))).trans h66)), rfl, ⟨o123, by omega, by omega, by omega, by omega, (by rw [h124]; exact ⟨h118, fun zz => by rw [h120]; exact KN_sub h119 (fun t t0 t1 y => ACs (by omega) y)⟩)⟩⟩
  · refine En_Ps 2 (pc' := 11) (lv' := [(0, .ref 3), (1, .ref a)]) (st' := [.int ((Int32.ofInt 3)), .ref 3]) rfl ?_
    have := (by decide : ((Int32.ofInt 3)).toInt = 3)
    refine En_callV rfl rfl rfl rfl rfl rfl rfl rfl tgz_3 (by decide +kernel) rfl (c_54x σ0 hσ0 ((Int32.ofInt 3)) (geI (by decide : (Int32.ofInt 3).toInt = 3) (by omega)) (leI (by decide : (Int32.ofInt 3).toInt = 3) (by omega)) f h_f hC) (by decide) (by decide) (fun v126 σ127 h125 => ?_)
    obtain ⟨h128, h129, z131, h132, rfl, h130⟩ := h125
    have h133 := h130.2.2.2.2.2
    have h134 := Fr_trans hF0 h129 (by decide +kernel)
    obtain ⟨S135, h136⟩ : ∃ q : PS, q = err By Nb 3 Sp := ⟨_, rfl⟩
    have h137 : CT By Nb σ127 S135 := by rw [h136]; exact (CT_eq h133 (err_cg (by omega)))
    have h138 := CT_k h137 h132
    have h139 : S135.2.2.2 = Sp.2.2.2 := by rw [h136]; exact err_w
    have h140 := KN_fr hP hK h129 (by decide +kernel)
    have h141 : S135.2.2.2 = Sp.2.2.2 := h139.trans (rfl : Sp.2.2.2 = Sp.2.2.2)
    have o142 : OUT σ0 σ127 a := OUT_fr OUT_0 h129 (by decide +kernel)
    have h143 : fCourse By Nb Sp = S135 := by unfold fCourse; (try dsimp only); first | (rw [← h136]; first | done | rfl) | (rw [← h136]; rw [if_pos (by omega)]; first | done | rfl) | (rw [← h136]; rw [if_neg (by omega)]; first | done | rfl) | (rw [← h136]; rw [if_neg (by omega), if_pos (by omega)]; first | done | rfl) | (rw [← h136]; rw [if_neg (by omega), if_neg (by omega)]; first | done | rfl) | (rw [← h136]; rw [if_neg (by omega), if_neg (by omega), if_neg (by omega)]; first | done | rfl)
    exact En_ret (v := none) rfl rfl rfl ⟨h128, h134, z131, h132, rfl, ⟨o142, by omega, by omega, by omega, by omega, (by rw [h143]; exact ⟨h137, fun z => absurd z (by omega)⟩)⟩⟩

