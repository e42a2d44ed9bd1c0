/-- DoorSchool$Reader.takeWay()I -/
abbrev P_75x (σ0 : SG) (By : Int → Int) (Nb : Int) (Sp : PS) (f : Int32) : PO := fun v σ => WT σ ∧ Fr [(3, 1), (3, 2), (3, 3), (3, 4), (3, 5), (3, 6)] σ0 σ ∧ ∃ f1 : Int32, (σ 3)[5]? = some (.int f1) ∧ ∃ ret : Int32, v = some (.int ret) ∧ -ret.toInt - 1 ≤ 0 ∧ ret.toInt - 2 ≤ 0 ∧ -f1.toInt ≤ 0 ∧ f1.toInt - 3 ≤ 0 ∧ -f1.toInt + f.toInt ≤ 0 ∧ f.toInt - f1.toInt ≤ 0 ∧ Imp (f1.toInt ≤ 0) (-ret.toInt ≤ 0) ∧ (CT By Nb σ (tW By Nb Sp) ∧ Imp ((tW By Nb Sp).1 = 0) (ret.toInt = wyV By Nb Sp))
set_option maxRecDepth 10000 in
set_option maxHeartbeats 4000000 in
theorem c_75x {By : Int → Int} {Nb : Int} {Sp : PS} (σ0 : SG) (hσ0 : WT σ0) (f : Int32) (h_f : (σ0 3)[5]? = some (.int f)) (hC : CT By Nb σ0 Sp) : En 5 112 none mr_75 (P_75x σ0 By Nb Sp f) 0 [(0, .ref 3)] [] σ0 := by
  obtain ⟨hl_f, hu_f⟩ := WT_int hσ0 (g := 3) (by decide +kernel) (by decide +kernel) (l := 0) (u := 3) (by decide +kernel) h_f
  have hF0 : Fr [(3, 1), (3, 2), (3, 3), (3, 4), (3, 5), (3, 6)] σ0 σ0 := Fr_rfl
  have h1 := CT_k hC h_f
  refine En_Ps 3 (pc' := 3) (lv' := [(1, .int ((Int32.ofInt (-1)))), (0, .ref 3)]) (st' := [.ref 3]) rfl ?_
  refine En_ldcS (i := 4) rfl rfl rfl ?_
  refine En_callV rfl rfl rfl rfl rfl rfl rfl rfl tgz_3 (by decide +kernel) rfl (c_71s4x σ0 hσ0 hC) (by decide) (by decide) (fun v3 σ4 h2 => ?_)
  obtain ⟨h5, h6, z8, rfl, h7⟩ := h2
  have h9 := h7.2.2
  obtain rfl : σ0 = σ4 := Fr_nil h6
  have h10 := h9
  refine En_iEq _ rfl rfl (fun h11 => ?_) (fun h11 => ?_)
  · refine En_Ps 1 (pc' := 17) (lv' := [(1, .int ((Int32.ofInt (-1)))), (0, .ref 3)]) (st' := [.ref 3]) rfl ?_
    refine En_ldcS (i := 11) rfl rfl rfl ?_
    refine En_callV rfl rfl rfl rfl rfl rfl rfl rfl tgz_3 (by decide +kernel) rfl (c_71s11x σ0 hσ0 hC) (by decide) (by decide) (fun v13 σ14 h12 => ?_)
    obtain ⟨h15, h16, z18, rfl, h17⟩ := h12
    have h19 := h17.2.2
    obtain rfl : σ0 = σ14 := Fr_nil h16
    have h20 := h19
    refine En_iEq _ rfl rfl (fun h21 => ?_) (fun h21 => ?_)
    · refine En_Ps 1 (pc' := 31) (lv' := [(1, .int ((Int32.ofInt (-1)))), (0, .ref 3)]) (st' := [.ref 3]) rfl ?_
      refine En_ldcS (i := 7) rfl rfl rfl ?_
      refine En_callV rfl rfl rfl rfl rfl rfl rfl rfl tgz_3 (by decide +kernel) rfl (c_71s7x σ0 hσ0 hC) (by decide) (by decide) (fun v23 σ24 h22 => ?_)
      obtain ⟨h25, h26, z28, rfl, h27⟩ := h22
      have h29 := h27.2.2
      obtain rfl : σ0 = σ24 := Fr_nil h26
      have h30 := h29
      refine En_iEq _ rfl rfl (fun h31 => ?_) (fun h31 => ?_)
      · refine En_Ps 3 (pc' := 44) (lv' := [(1, .int ((Int32.ofInt (-1)))), (0, .ref 3)]) (st' := [.int ((Int32.ofInt (-1))), .int ((Int32.ofInt (-1))), .ref 3]) rfl ?_
        refine En_icEq _ (by decide : (Int32.ofInt (-1)).toInt = -1) (by decide : (Int32.ofInt (-1)).toInt = -1) rfl (fun h32 => ?_) (fun hx => by exfalso; omega)
        refine En_Ps 1 (pc' := 52) (lv' := [(1, .int ((Int32.ofInt (-1)))), (0, .ref 3)]) (st' := [.int ((Int32.ofInt 0)), .ref 3]) rfl ?_
        have := (by decide : ((Int32.ofInt 0)).toInt = 0)
        refine En_callV rfl rfl rfl rfl rfl rfl rfl rfl tgz_3 (by decide +kernel) rfl (c_59x σ0 hσ0 ((Int32.ofInt 0)) (geI (by decide : (Int32.ofInt 0).toInt = 0) (by omega)) (leI (by decide : (Int32.ofInt 0).toInt = 0) (by omega)) f h_f hC) (by decide) (by decide) (fun v34 σ35 h33 => ?_)
        obtain ⟨h36, h37, z39, h40, rfl, h38⟩ := h33
        have h41 := h38.2.2.2.2.2.2
        have h42 := Fr_trans hF0 h37 (by decide +kernel)
        have h43 : pss By Nb ((Int32.ofInt 0)).toInt Sp = tW By Nb Sp := tWc (fun zz => by (try have i0 := Imp_m h30 (by omega)); (try have i1 := Imp_m h20 (by omega)); (try have i2 := Imp_m h10 (by omega)); omega)
        obtain ⟨S44, h45⟩ : ∃ q : PS, q = tW By Nb Sp := ⟨_, rfl⟩
        have h46 : CT By Nb σ35 S44 := by rw [h45]; exact (CT_eq h41 h43)
        have h47 := CT_k h46 h40
        have h48 : S44.2.2.2 = Sp.2.2.2 := by rw [h45]; exact pss_w
        have h49 : Imp (S44.1 = 0) (Sp.1 = 0) := fun z => (pss_g (by rw [h43, ← h45]; exact z)).1
        have h50 : Imp (S44.1 = 0) (((Int32.ofInt 0)).toInt = 1) := fun z => (pss_g (by rw [h43, ← h45]; exact z)).2.1
        have h51 := Imp_m h38.2.2.2.2.2.1 (by omega)
        refine En_Ps 1 (pc' := 56) (lv' := [(1, .int ((Int32.ofInt (-1)))), (0, .ref 3)]) (st' := [.int ((Int32.ofInt (-1)))]) rfl ?_
        refine En_top (by decide : (Int32.ofInt (-1)).toInt = -1) (fun z52 h53 => ?_)
        exact En_ret (v := some (.int z52)) rfl rfl rfl ⟨h36, h42, z39, h40, z52, rfl, ⟨by omega, by omega, by omega, by omega, by omega, by omega, fun _ => by omega, ⟨CT_eq h46 (by subst h45; rfl), fun zz => wyVc (by subst h45; (try have i0 := Imp_m h50 (by omega)); (try have i1 := Imp_m h49 (by omega)); (try have i2 := Imp_m h30 (by omega)); (try have i3 := Imp_m h20 (by omega)); (try have i4 := Imp_m h10 (by omega)); (try have i5 := Imp_m h38.2.2.2.1 (by omega)); omega)⟩⟩⟩
      · refine En_Ps 5 (pc' := 44) (lv' := [(1, .int ((Int32.ofInt 2))), (0, .ref 3)]) (st' := [.int ((Int32.ofInt (-1))), .int ((Int32.ofInt 2)), .ref 3]) rfl ?_
        refine En_icEq _ (by decide : (Int32.ofInt 2).toInt = 2) (by decide : (Int32.ofInt (-1)).toInt = -1) rfl (fun hx => by exfalso; omega) (fun h54 => ?_)
        refine En_Ps 2 (pc' := 52) (lv' := [(1, .int ((Int32.ofInt 2))), (0, .ref 3)]) (st' := [.int ((Int32.ofInt 1)), .ref 3]) rfl ?_
        have := (by decide : ((Int32.ofInt 1)).toInt = 1)
        refine En_callV rfl rfl rfl rfl rfl rfl rfl rfl tgz_3 (by decide +kernel) rfl (c_59x σ0 hσ0 ((Int32.ofInt 1)) (geI (by decide : (Int32.ofInt 1).toInt = 1) (by omega)) (leI (by decide : (Int32.ofInt 1).toInt = 1) (by omega)) f h_f hC) (by decide) (by decide) (fun v56 σ57 h55 => ?_)
        obtain ⟨h58, h59, z61, h62, rfl, h60⟩ := h55
        have h63 := h60.2.2.2.2.2.2
        have h64 := Fr_trans hF0 h59 (by decide +kernel)
        have h65 : pss By Nb ((Int32.ofInt 1)).toInt Sp = tW By Nb Sp := tWc (fun zz => by (try have i0 := Imp_m h30 (by omega)); (try have i1 := Imp_m h20 (by omega)); (try have i2 := Imp_m h10 (by omega)); omega)
        obtain ⟨S66, h67⟩ : ∃ q : PS, q = tW By Nb Sp := ⟨_, rfl⟩
        have h68 : CT By Nb σ57 S66 := by rw [h67]; exact (CT_eq h63 h65)
        have h69 := CT_k h68 h62
        have h70 : S66.2.2.2 = Sp.2.2.2 := by rw [h67]; exact pss_w
        have h71 : Imp (S66.1 = 0) (Sp.1 = 0) := fun z => (pss_g (by rw [h65, ← h67]; exact z)).1
        have h72 : Imp (S66.1 = 0) (((Int32.ofInt 1)).toInt = 1) := fun z => (pss_g (by rw [h65, ← h67]; exact z)).2.1
        have h73 := Imp_m h60.2.2.2.1 (by omega)
        refine En_Ps 1 (pc' := 56) (lv' := [(1, .int ((Int32.ofInt 2))), (0, .ref 3)]) (st' := [.int ((Int32.ofInt 2))]) rfl ?_
        refine En_top (by decide : (Int32.ofInt 2).toInt = 2) (fun z74 h75 => ?_)
        exact En_ret (v := some (.int z74)) rfl rfl rfl ⟨h58, h64, z61, h62, z74, rfl, ⟨by omega, by omega, by omega, by omega, by omega, by omega, fun _ => by omega, ⟨CT_eq h68 (by subst h67; rfl), fun zz => wyVc (by subst h67; (try have i0 := Imp_m h72 (by omega)); (try have i1 := Imp_m h71 (by omega)); (try have i2 := Imp_m h30 (by omega)); (try have i3 := Imp_m h20 (by omega)); (try have i4 := Imp_m h10 (by omega)); (try have i5 := Imp_m h60.2.2.2.2.2.1 (by omega)); omega)⟩⟩⟩
    · refine En_Ps 6 (pc' := 44) (lv' := [(1, .int ((Int32.ofInt 1))), (0, .ref 3)]) (st' := [.int ((Int32.ofInt (-1))), .int ((Int32.ofInt 1)), .ref 3]) rfl ?_
      refine En_icEq _ (by decide : (Int32.ofInt 1).toInt = 1) (by decide : (Int32.ofInt (-1)).toInt = -1) rfl (fun hx => by exfalso; omega) (fun h76 => ?_)
      refine En_Ps 2 (pc' := 52) (lv' := [(1, .int ((Int32.ofInt 1))), (0, .ref 3)]) (st' := [.int ((Int32.ofInt 1)), .ref 3]) rfl ?_
      have := (by decide : ((Int32.ofInt 1)).toInt = 1)
      refine En_callV rfl rfl rfl rfl rfl rfl rfl rfl tgz_3 (by decide +kernel) rfl (c_59x σ0 hσ0 ((Int32.ofInt 1)) (geI (by decide : (Int32.ofInt 1).toInt = 1) (by omega)) (leI (by decide : (Int32.ofInt 1).toInt = 1) (by omega)) f h_f hC) (by decide) (by decide) (fun v78 σ79 h77 => ?_)
      obtain ⟨h80, h81, z83, h84, rfl, h82⟩ := h77
      have h85 := h82.2.2.2.2.2.2
      have h86 := Fr_trans hF0 h81 (by decide +kernel)
      have h87 : pss By Nb ((Int32.ofInt 1)).toInt Sp = tW By Nb Sp := tWc (fun zz => by (try have i0 := Imp_m h20 (by omega)); (try have i1 := Imp_m h10 (by omega)); omega)
      obtain ⟨S88, h89⟩ : ∃ q : PS, q = tW By Nb Sp := ⟨_, rfl⟩
      have h90 : CT By Nb σ79 S88 := by rw [h89]; exact (CT_eq h85 h87)
      have h91 := CT_k h90 h84
      have h92 : S88.2.2.2 = Sp.2.2.2 := by rw [h89]; exact pss_w
      have h93 : Imp (S88.1 = 0) (Sp.1 = 0) := fun z => (pss_g (by rw [h87, ← h89]; exact z)).1
      have h94 : Imp (S88.1 = 0) (((Int32.ofInt 1)).toInt = 1) := fun z => (pss_g (by rw [h87, ← h89]; exact z)).2.1
      have h95 := Imp_m h82.2.2.2.1 (by omega)
      refine En_Ps 1 (pc' := 56) (lv' := [(1, .int ((Int32.ofInt 1))), (0, .ref 3)]) (st' := [.int ((Int32.ofInt 1))]) rfl ?_
      refine En_top (by decide : (Int32.ofInt 1).toInt = 1) (fun z96 h97 => ?_)
      exact En_ret (v := some (.int z96)) rfl rfl rfl ⟨h80, h86, z83, h84, z96, rfl, ⟨by omega, by omega, by omega, by omega, by omega, by omega, fun _ => by omega, ⟨CT_eq h90 (by subst h89; rfl), fun zz => wyVc (by subst h89; (try have i0 := Imp_m h94 (by omega)); (try have i1 := Imp_m h93 (by omega)); (try have i2 := Imp_m h20 (by omega)); (try have i3 := Imp_m h10 (by omega)); (try have i4 := Imp_m h82.2.2.2.2.2.1 (by omega)); omega)⟩⟩⟩
  · refine En_Ps 6 (pc' := 44) (lv' := [(1, .int ((Int32.ofInt 0))), (0, .ref 3)]) (st' := [.int ((Int32.ofInt (-1))), .int ((Int32.ofInt 0)), .ref 3]) rfl ?_
    refine En_icEq _ (by decide : (Int32.ofInt 0).toInt = 0) (by decide : (Int32.ofInt (-1)).toInt = -1) rfl (fun hx => by exfalso; omega) (fun h98 => ?_)
    refine En_Ps 2 (pc' := 52) (lv' := [(1, .int ((Int32.ofInt 0))), (0, .ref 3)]) (st' := [.int ((Int32.ofInt 1)), .ref 3]) rfl ?_
    have := (by decide : ((Int32.ofInt 1)).toInt = 1)
    refine En_callV rfl rfl rfl rfl rfl rfl rfl rfl tgz_3 (by decide +kernel) rfl (c_59x σ0 hσ0 ((Int32.ofInt 1)) (geI (by decide : (Int32.ofInt 1).toInt = 1) (by omega)) (leI (by decide : (Int32.ofInt 1).toInt = 1) (by omega)) f h_f hC) (by decide) (by decide) (fun v100 σ101 h99 => ?_)
    obtain ⟨h102, h103, z105, h106, rfl, h104⟩ := h99
    have h107 := h104.2.2.2.2.2.2
    have h108 := Fr_trans hF0 h103 (by decide +kernel)
    have h109 : pss By Nb ((Int32.ofInt 1)).toInt Sp = tW By Nb Sp := tWc (fun zz => by (try have i0 := Imp_m h10 (by omega)); omega)
    obtain ⟨S110, h111⟩ : ∃ q : PS, q = tW By Nb Sp := ⟨_, rfl⟩
    have h112 : CT By Nb σ101 S110 := by rw [h111]; exact (CT_eq h107 h109)
    have h113 := CT_k h112 h106
    have h114 : S110.2.2.2 = Sp.2.2.2 := by rw [h111]; exact pss_w
    have h115 : Imp (S110.1 = 0) (Sp.1 = 0) := fun z => (pss_g (by rw [h109, ← h111]; exact z)).1
    have h116 : Imp (S110.1 = 0) (((Int32.ofInt 1)).toInt = 1) := fun z => (pss_g (by rw [h109, ← h111]; exact z)).2.1
    have h117 := Imp_m h104.2.2.2.1 (by omega)
    refine En_Ps 1 (pc' := 56) (lv' := [(1, .int ((Int32.ofInt 0))), (0, .ref 3)]) (st' := [.int ((Int32.ofInt 0))]) rfl ?_
    refine En_top (by decide : (Int32.ofInt 0).toInt = 0) (fun z118 h119 => ?_)
    exact En_ret (v := some (.int z118)) rfl rfl rfl ⟨h102, h108, z105, h106, z118, rfl, ⟨by omega, by omega, by omega, by omega, by omega, by omega, fun _ => by omega, ⟨CT_eq h112 (by subst h111; rfl), fun zz => wyVc (by subst h111; (try have i0 := Imp_m h116 (by omega)); (try have i1 := Imp_m h115 (by omega)); (try have i2 := Imp_m h10 (by omega)); (try have i3 := Imp_m h104.2.2.2.2.2.1 (by omega)); omega)⟩⟩⟩
/-- DoorSchool$Reader.readDoor(LDoorSchool$Plan;)V -/
abbrev P_63x (σ0 : SG) (By : Int → Int) (Nb : Int) (Sp : PS) (a : Nat) (f : Int32) (sg : Int32) : PO := fun v σ => WT σ ∧ Fr [(3, 1), (3, 2), (3, 3), (3, 4), (3, 5), (3, 6), (18, 3), (20, 2), (28, 1), (28, 2), (28, 3)] σ0 σ ∧ ∃ f1 : Int32, (σ 3)[5]? = some (.int f1) ∧ v = none ∧ OUT σ0 σ a ∧ -f1.toInt ≤ 0 ∧ f1.toInt - 3 ≤ 0 ∧ -f1.toInt + f.toInt ≤ 0 ∧ f.toInt - f1.toInt ≤ 0 ∧ (CT By Nb σ (fDoor By Nb Sp) ∧ ((fDoor By Nb Sp).1 = 0 → KN σ a (fDoor By Nb Sp).2.2.2 (act (fDoor By Nb Sp).2.2.2)))
set_option maxRecDepth 10000 in
set_option maxHeartbeats 4000000 in
theorem c_63x {By : Int → Int} {Nb : Int} {Sp : PS} (σ0 : SG) (hσ0 : WT σ0) (a : Nat) (ha : TG a = 18) (f : Int32) (h_f : (σ0 3)[5]? = some (.int f)) (sg : Int32) (h_sg : (σ0 a)[1]? = some (.int sg)) (hp0 : -sg.toInt ≤ 0) (hC : CT By Nb σ0 Sp) (hg : Sp.1 = 0) (hP : PLA a) (hX : FXP σ0 a) (hK : KN σ0 a Sp.2.2.2 (act Sp.2.2.2)) : En 6 133 none mr_63 (P_63x σ0 By Nb Sp a f sg) 0 [(0, .ref 3), (1, .ref a)] [] σ0 := by
  obtain ⟨hl_f, hu_f⟩ := WT_int hσ0 (g := 3) (by decide +kernel) (by decide +kernel) (l := 0) (u := 3) (by decide +kernel) h_f
  obtain ⟨hl_sg, hu_sg⟩ := WT_int hσ0 (g := 18) ha (by decide +kernel) (l := (-1)) (u := 4) (by decide +kernel) h_sg
  have hF0 : Fr [(3, 1), (3, 2), (3, 3), (3, 4), (3, 5), (3, 6), (18, 3), (20, 2), (28, 1), (28, 2), (28, 3)] σ0 σ0 := Fr_rfl
  have h1 := CT_k hC h_f
  obtain ⟨z3, h2, h4, h5⟩ := WT_peekI hσ0 ha (by decide +kernel : FT 18 3 = (0, 0, 4)) (by decide +kernel)
  have h6 : Sp.2.2.2 2 = z3.toInt := KN_v hK (Or.inl (by decide)) (by decide) (by decide) (by rw [lcO_lt (by decide) (by decide), Nat.add_zero]) rfl h2
  refine En_Ps 1 (pc' := 1) (lv' := [(0, .ref 3), (1, .ref a)]) (st' := [.ref a]) rfl ?_
  refine En_getK (j := 3) h2 rfl rfl rfl ha (by decide +kernel) ?_
  refine En_Ps 1 (pc' := 5) (lv' := [(0, .ref 3), (1, .ref a)]) (st' := [.int ((Int32.ofInt 4)), .int z3]) rfl ?_
  refine En_icLt _ rfl (by decide : (Int32.ofInt 4).toInt = 4) rfl (fun h7 => ?_) (fun h7 => ?_)
  · refine En_Ps 1 (pc' := 15) (lv' := [(0, .ref 3), (1, .ref a)]) (st' := [.ref 3]) rfl ?_
    obtain ⟨z9, h8, h10, h11⟩ := WT_peekI hσ0 tgz_3 (by decide +kernel : FT 3 3 = (0, 0, 1600)) (by decide +kernel)
    refine En_callV rfl rfl rfl rfl rfl rfl rfl rfl tgz_3 (by decide +kernel) rfl (c_72x σ0 hσ0 z9 h8 hC.1 (CT_at hC (by omega) h8)) (by decide) (by decide) (fun v13 σ14 h12 => ?_)
    obtain ⟨h15, h16, rfl, h17⟩ := h12
    have h18 := h17
    have h19 := Fr_trans hF0 h16 (by decide +kernel)
    obtain ⟨S20, h21⟩ : ∃ q : PS, q = adv By Nb Sp := ⟨_, rfl⟩
    have h22 : CT By Nb σ14 S20 := by rw [h21]; exact (CT_adv hC (by omega) h8 h16 (by decide +kernel) h18.2)
    have h23 := CT_k h22 ((h16 _ _ (inW tgz_3 (by decide +kernel))).trans h_f)
    have h24 : S20.2.2.2 = Sp.2.2.2 := by rw [h21]; exact adv_w
    have h25 : S20.1 = Sp.1 := by rw [h21]; exact adv_1
    have h26 := KN_fr hP hK h16 (by decide +kernel)
    have h27 : S20.2.2.2 = Sp.2.2.2 := h24.trans (rfl : Sp.2.2.2 = Sp.2.2.2)
    have o28 : OUT σ0 σ14 a := OUT_fr OUT_0 h16 (by decide +kernel)
    refine En_Ps 1 (pc' := 19) (lv' := [(0, .ref 3), (1, .ref a)]) (st' := [.ref 3]) rfl ?_
    refine En_callV rfl rfl rfl rfl rfl rfl rfl rfl tgz_3 (by decide +kernel) rfl (c_75x σ14 h15 f ((h16 _ _ (inW tgz_3 (by decide +kernel))).trans h_f) h22) (by decide) (by decide) (fun v30 σ31 h29 => ?_)
    obtain ⟨h32, h33, z35, h36, z37, rfl, h34⟩ := h29
    have h38 := h34.2.2.2.2.2.2.2
    have h39 := Fr_trans h19 h33 (by decide +kernel)
    obtain ⟨S40, h41⟩ : ∃ q : PS, q = tW By Nb S20 := ⟨_, rfl⟩
    have h42 : CT By Nb σ31 S40 := by rw [h41]; exact h38.1
    have h43 := CT_k h42 h36
    have h44 : Imp (S40.1 = 0) (z37.toInt = wyV By Nb S20) := fun z => Imp_m h38.2 (by rw [← h41]; exact z)
    have h45 : Imp (S40.1 = 0) (S20.1 = 0) := fun z => tW_g (by rw [← h41]; exact z)
    have h46 : S40.2.2.2 = S20.2.2.2 := by rw [h41]; exact tW_w
    have h47 := KN_fr hP h26 h33 (by decide +kernel)
    have h48 : S40.2.2.2 = Sp.2.2.2 := h46.trans h27
    have o49 : OUT σ0 σ31 a := OUT_fr o28 h33 (by decide +kernel)
    refine En_Ps 3 (pc' := 25) (lv' := [(2, .int z37), (0, .ref 3), (1, .ref a)]) (st' := [.ref 3, .ref 3]) rfl ?_
    refine En_ldcS (i := 14) rfl rfl rfl ?_
    refine En_callV rfl rfl rfl rfl rfl rfl rfl rfl tgz_3 (by decide +kernel) rfl (c_71s14x σ31 h32 h42) (by decide) (by decide) (fun v51 σ52 h50 => ?_)
    obtain ⟨h53, h54, z56, rfl, h55⟩ := h50
    have h57 := h55.2.2
    obtain rfl : σ31 = σ52 := Fr_nil h54
    have h58 := h57
    refine En_callV rfl rfl rfl rfl rfl rfl rfl rfl tgz_3 (by decide +kernel) rfl (c_59x σ31 h32 z56 (geI rfl (by omega)) (leI rfl (by omega)) z35 h36 h42) (by decide) (by decide) (fun v60 σ61 h59 => ?_)
    obtain ⟨h62, h63, z65, h66, rfl, h64⟩ := h59
    have h67 := h64.2.2.2.2.2.2
    have h68 := Fr_trans h39 h63 (by decide +kernel)
    have h69 : pss By Nb z56.toInt S40 = pss By Nb (iW By Nb 14 S40) S40 := pss_cg2 (fun zz => by (try have i0 := Imp_m h58 (by omega)); (try have i1 := Imp_m h45 (by omega)); (try have i2 := Imp_m h44 (by omega)); (try have i3 := Imp_m h34.2.2.2.2.2.2.1 (by omega)); omega)
    obtain ⟨S70, h71⟩ : ∃ q : PS, q = pss By Nb (iW By Nb 14 S40) S40 := ⟨_, rfl⟩
    have h72 : CT By Nb σ61 S70 := by rw [h71]; exact (CT_eq h67 h69)
    have h73 := CT_k h72 h66
    have h74 : S70.2.2.2 = S40.2.2.2 := by rw [h71]; exact pss_w
    have h75 : Imp (S70.1 = 0) (S40.1 = 0) := fun z => (pss_g (by rw [h69, ← h71]; exact z)).1
    have h76 : Imp (S70.1 = 0) (z56.toInt = 1) := fun z => (pss_g (by rw [h69, ← h71]; exact z)).2.1
    have h77 := KN_fr hP h47 h63 (by decide +kernel)
    have h78 : S70.2.2.2 = Sp.2.2.2 := h74.trans h48
    have o79 : OUT σ0 σ61 a := OUT_fr o49 h63 (by decide +kernel)
    refine En_Ps 3 (pc' := 37) (lv' := [(2, .int z37), (0, .ref 3), (1, .ref a)]) (st' := [.int (((Int8.ofInt 50).toInt32)), .int ((Int32.ofInt 0)), .ref 3]) rfl ?_
    have := (by decide : ((Int32.ofInt 0)).toInt = 0)
    have := (by decide : (((Int8.ofInt 50).toInt32)).toInt = 50)
    refine En_callV rfl rfl rfl rfl rfl rfl rfl rfl tgz_3 (by decide +kernel) rfl (c_73x σ61 h62 ((Int32.ofInt 0)) (((Int8.ofInt 50).toInt32)) z65 h66 h72) (by decide) (by decide) (fun v81 σ82 h80 => ?_)
    obtain ⟨h83, h84, z86, h87, z88, rfl, h85⟩ := h80
    have h89 := h85.2.2.2.2.2.2.2.2.2
    have h90 := Fr_trans h68 h84 (by decide +kernel)
    have h91 : tN By Nb ((Int32.ofInt 0)).toInt (((Int8.ofInt 50).toInt32)).toInt S70 = tN By Nb (0) (50) S70 := tN_cg2 (fun zz => by omega) (fun zz => by omega)
    obtain ⟨S92, h93⟩ : ∃ q : PS, q = tN By Nb (0) (50) S70 := ⟨_, rfl⟩
    have h94 : CT By Nb σ82 S92 := by rw [h93]; exact (CT_eq h89.1 h91)
    have h95 := CT_k h94 h87
    have h96 : Imp (S92.1 = 0) (z88.toInt = tV By Nb S70.2.2.1) := fun z => Imp_m h89.2 (by rw [h91, ← h93]; exact z)
    have h97 : Imp (S92.1 = 0) (S70.1 = 0 ∧ tK By Nb S70.2.2.1 = 2 ∧ 0 ≤ tV By Nb S70.2.2.1 ∧ tV By Nb S70.2.2.1 ≤ 50) := fun z => tN_gg (by rw [← h93]; exact z)
    have h98 : S92.2.2.2 = S70.2.2.2 := by rw [h93]; exact tN_w
    have h99 := KN_fr hP h77 h84 (by decide +kernel)
    have h100 : S92.2.2.2 = Sp.2.2.2 := h98.trans h78
    have o101 : OUT σ0 σ82 a := OUT_fr o79 h84 (by decide +kernel)
    have h102 := Imp_m h85.2.2.2.2.2.2.2.1 (by omega)
    have h103 := Imp_m h85.2.2.2.2.2.2.2.2.1 (by omega)
    refine En_Ps 2 (pc' := 42) (lv' := [(3, .int z88), (2, .int z37), (0, .ref 3), (1, .ref a)]) (st' := [.ref 3]) rfl ?_
    refine En_getK (j := 5) h87 rfl rfl rfl tgz_3 (by decide +kernel) ?_
    refine En_iNe _ rfl rfl (fun h104 => ?_) (fun h104 => ?_)
    · have h105 := Imp_m h85.2.2.2.2.2.2.1 (by omega)
      have h106 : fDoor By Nb Sp = S92 := by unfold fDoor; (try dsimp only); first | (rw [← h21, ← h41, ← h71, ← h93]; first | done | rfl) | (rw [← h21, ← h41, ← h71, ← h93]; rw [if_pos (by omega)]; first | done | rfl) | (rw [← h21, ← h41, ← h71, ← h93]; rw [if_neg (by omega)]; first | done | rfl) | (rw [← h21, ← h41, ← h71, ← h93]; rw [if_neg (by omega), if_pos (by omega)]; first | done | rfl) | (rw [← h21, ← h41, ← h71, ← h93]; rw [if_neg (by omega), if_neg (by omega)]; first | done | rfl) | (rw [← h21, ← h41, ← h71, ← h93]; rw [if_neg (by omega), if_neg (by omega), if_neg (by omega)]; first | done | rfl)
      exact En_ret (v := none) rfl rfl rfl ⟨h83, h90, z86, h87, rfl, ⟨o101, by omega, by omega, by omega, by omega, (by rw [h106]; exact ⟨h94, fun z => absurd z (by omega)⟩)⟩⟩
    · have h107 := Imp_m h34.2.2.2.2.2.2.1 (by omega)
      have h108 := Imp_m h85.2.2.2.2.2.1 (by omega)
      try have h109 := Imp_m h97 (by omega)
      try have h110 := Imp_m h96 (by omega)
      try have h111 := Imp_m h76 (by omega)
      try have h112 := Imp_m h75 (by omega)
      try have h113 := Imp_m h58 (by omega)
      try have h114 := Imp_m h45 (by omega)
      try have h115 := Imp_m h44 (by omega)
      refine En_Ps 1 (pc' := 49) (lv' := [(3, .int z88), (2, .int z37), (0, .ref 3), (1, .ref a)]) (st' := [.ref a]) rfl ?_
      refine En_getR (j := 4) (g' := 19) (u := 0) rfl rfl rfl ha (by decide +kernel) h83 (by decide +kernel) (fun a117 h116 ha117 => ?_)
      refine En_Ps 1 (pc' := 53) (lv' := [(3, .int z88), (2, .int z37), (0, .ref 3), (1, .ref a)]) (st' := [.ref a, .ref a117]) rfl ?_
      refine En_getK (j := 3) ((h84 _ _ (inW ha (by decide +kernel))).trans ((h63 _ _ (inW ha (by decide +kernel))).trans ((h33 _ _ (inW ha (by decide +kernel))).trans ((h16 _ _ (inW ha (by decide +kernel))).trans h2)))) rfl rfl rfl ha (by decide +kernel) ?_
      refine En_aald (g' := 28) (u := 0) rfl rfl ha117 (by decide +kernel) h83 (by omega) (lnI (by decide +kernel : LN _ = 4) (by omega)) (FTsgl (by decide +kernel)) (fun a119 h118 ha119 => ?_)
      have h120 := DRc (d := z3.toInt) (FXP_fr hP hX h90 (by decide +kernel)) h116 h118 (by omega) (by omega)
      have h121 := lc_d (d := z3.toInt) (by omega) (by omega)
      obtain ⟨a124, h123, ha124⟩ := WT_peekR (g := 28) (j := 0) (g' := 20) (u := 0) h83 ha119 (by decide +kernel) (by decide +kernel)
      have h122 := DLc (d := z3.toInt) (FXP_fr hP hX h90 (by decide +kernel)) h120 h123 (by omega) (by omega)
      refine En_Ps 2 (pc' := 59) (lv' := [(3, .int z88), (2, .int z37), (0, .ref 3), (1, .ref a)]) (st' := [.int z88, .int z37, .ref a119]) rfl ?_
      refine En_callV rfl rfl rfl rfl rfl rfl rfl rfl ha119 (by decide +kernel) rfl (c_12x σ82 h83 a119 ha119 z37 z88 (geI rfl (by omega)) (leI rfl (by omega)) (geI rfl (by omega)) (leI rfl (by omega)) a124 ha124 h123) (by decide) (by decide) (fun v126 σ127 h125 => ?_)
      obtain ⟨h128, h129, rfl, h130⟩ := h125
      have h131 := h130
      have h132 := Fr_trans h90 h129 (by decide +kernel)
      obtain ⟨S133, h134⟩ : ∃ q : PS, q = wst (wst (wst (wst S92 (10 + 4 * Sp.2.2.2 2) (wyV By Nb S20)) (10 + 4 * Sp.2.2.2 2 + 1) (tV By Nb S70.2.2.1)) (10 + 4 * Sp.2.2.2 2 + 2) 0) (10 + 4 * Sp.2.2.2 2 + 3) (-1) := ⟨_, rfl⟩
      have h135 : CT By Nb σ127 S133 := by rw [h134]; exact CT_wst (CT_wst (CT_wst (CT_wst (CT_fr h94 h129 (by decide +kernel)))))
      have h138 : z3.toInt = Sp.2.2.2 2 := by omega
      have h136 : KN σ127 a (uPd (uPd (uPd (uPd Sp.2.2.2 (10 + 4 * Sp.2.2.2 2) (wyV By Nb S20)) (10 + 4 * Sp.2.2.2 2 + 1) (tV By Nb S70.2.2.1)) (10 + 4 * Sp.2.2.2 2 + 2) 0) (10 + 4 * Sp.2.2.2 2 + 3) (-1)) (fun t => ((((act Sp.2.2.2 t ∨ t = 10 + 4 * Sp.2.2.2 2) ∨ t = 10 + 4 * Sp.2.2.2 2 + 1) ∨ t = 10 + 4 * Sp.2.2.2 2 + 2) ∨ t = 10 + 4 * Sp.2.2.2 2 + 3)) := KN_w (KN_bgn (d := Sp.2.2.2 2) h99 h131 (by omega) (by omega) (by rw [← h138]; exact h120) (by rw [← h138]; exact h122)) (uPd4_cg (by omega) (by omega))
      have h137 : S133.2.2.2 = (uPd (uPd (uPd (uPd Sp.2.2.2 (10 + 4 * Sp.2.2.2 2) (wyV By Nb S20)) (10 + 4 * Sp.2.2.2 2 + 1) (tV By Nb S70.2.2.1)) (10 + 4 * Sp.2.2.2 2 + 2) 0) (10 + 4 * Sp.2.2.2 2 + 3) (-1)) := by rw [h134]; show uPd (uPd (uPd (uPd S92.2.2.2 _ _) _ _) _ _) _ _ = _; rw [h100]
      have h139 : S133.1 = S92.1 := by rw [h134]; rfl
      have o140 : OUT σ0 σ127 a := OUT_bgn o101 h131 (by omega) (by omega)
      refine En_Ps 2 (pc' := 64) (lv' := [(3, .int z88), (2, .int z37), (0, .ref 3), (1, .ref a)]) (st' := [.ref a, .ref a]) rfl ?_
      refine En_getK (j := 3) ((h129 _ _ (inW ha (by decide +kernel))).trans ((h84 _ _ (inW ha (by decide +kernel))).trans ((h63 _ _ (inW ha (by decide +kernel))).trans ((h33 _ _ (inW ha (by decide +kernel))).trans ((h16 _ _ (inW ha (by decide +kernel))).trans h2))))) rfl rfl rfl ha (by decide +kernel) ?_
      refine En_Ps 2 (pc' := 69) (lv' := [(3, .int z88), (2, .int z37), (0, .ref 3), (1, .ref a)]) (st' := [.int ((z3 + ((Int32.ofInt 1)))), .ref a]) rfl ?_
      refine En_top (addI rfl (by decide : (Int32.ofInt 1).toInt = 1) (by omega) (by omega)) (fun z141 h142 => ?_)
      refine En_put (j := 3) rfl rfl rfl ha (by decide +kernel) rfl (vI (l := 0) (u := 4) (by decide +kernel) rfl (by omega) (by omega)) h128 h132 (by decide +kernel) (fun σ143 h144 h145 h146 h147 => ?_)
      obtain ⟨S148, h149⟩ : ∃ q : PS, q = wst S133 (2) (Sp.2.2.2 2 + 1) := ⟨_, rfl⟩
      have h150 : CT By Nb σ143 S148 := by rw [h149]; exact CT_wst (CT_ne h135 h147 (by have := hP; unfold PLA at this; omega))
      have h151 : KN σ143 a (uPd (uPd (uPd (uPd (uPd Sp.2.2.2 (10 + 4 * Sp.2.2.2 2) (wyV By Nb S20)) (10 + 4 * Sp.2.2.2 2 + 1) (tV By Nb S70.2.2.1)) (10 + 4 * Sp.2.2.2 2 + 2) 0) (10 + 4 * Sp.2.2.2 2 + 3) (-1)) (2) (Sp.2.2.2 2 + 1)) (fun t => (((((act Sp.2.2.2 t ∨ t = 10 + 4 * Sp.2.2.2 2) ∨ t = 10 + 4 * Sp.2.2.2 2 + 1) ∨ t = 10 + 4 * Sp.2.2.2 2 + 2) ∨ t = 10 + 4 * Sp.2.2.2 2 + 3) ∨ t = 2)) := KN_st h136 h146 h147 (by omega) (by omega) (by rw [lcO_lt (by decide) (by decide), Nat.add_zero]) (by decide) (by (try have i0 := Imp_m h97 (by omega)); (try have i1 := Imp_m h96 (by omega)); (try have i2 := Imp_m h76 (by omega)); (try have i3 := Imp_m h75 (by omega)); (try have i4 := Imp_m h58 (by omega)); (try have i5 := Imp_m h45 (by omega)); (try have i6 := Imp_m h44 (by omega)); (try have i7 := Imp_m h64.2.2.2.1 (by omega)); (try have i8 := Imp_m h64.2.2.2.2.2.1 (by omega)); (try have i9 := Imp_m h85.2.2.2.2.2.2.1 (by omega)); omega)
      have h152 : S148.2.2.2 = (uPd (uPd (uPd (uPd (uPd Sp.2.2.2 (10 + 4 * Sp.2.2.2 2) (wyV By Nb S20)) (10 + 4 * Sp.2.2.2 2 + 1) (tV By Nb S70.2.2.1)) (10 + 4 * Sp.2.2.2 2 + 2) 0) (10 + 4 * Sp.2.2.2 2 + 3) (-1)) (2) (Sp.2.2.2 2 + 1)) := by rw [h149]; show uPd S133.2.2.2 _ _ = _; rw [h137]
      have h153 : S148.1 = S133.1 := by rw [h149]; rfl
      have h154 := CT_k h150 ((h147 _ _ (Or.inr (by decide))).trans ((h129 _ _ (inW tgz_3 (by decide +kernel))).trans h87))
      have o155 : OUT σ0 σ143 a := OUT_st o140 h147 (by omega)
      have h156 : fDoor By Nb Sp = S148 := by unfold fDoor; (try dsimp only); first | (rw [← h21, ← h41, ← h71, ← h93, ← h134, ← h149]; first | done | rfl) | (rw [← h21, ← h41, ← h71, ← h93, ← h134, ← h149]; rw [if_pos (by omega)]; first | done | rfl) | (rw [← h21, ← h41, ← h71, ← h93, ← h134, ← h149]; rw [if_neg (by omega)]; first | done | rfl) | (rw [← h21, ← h41, ← h71, ← h93, ← h134, ← h149]; rw [if_neg (by omega), if_pos (by omega)]; first | done | rfl) | (rw [← h21, ← h41, ← h71, ← h93, ← h134, ← h149]; rw [if_neg (by omega), if_neg (by omega)]; first | done | rfl) | (rw [← h21, ← h41, ← h71, ← h93, ← h134, ← h149]; rw [if_neg (by omega), if_neg (by omega), if_neg (by omega)]; first | done | rfl)
      exact En_ret (v := none) rfl rfl rfl ⟨h144, h145, z86, ((h147 _ _ (Or.inr (by decide))).trans ((h129 _ _ (inW tgz_3 (by decide +kernel))).trans h87)), rfl, ⟨o155, by omega, by omega, by omega, by omega, (by rw [h156]; exact ⟨h150, fun zz => by rw [h152]; exact KN_sub h151 (fun t t0 t1 y => ADr (act_dr (by omega) (by omega) y))⟩)⟩⟩
  · refine En_Ps 2 (pc' := 10) (lv' := [(0, .ref 3), (1, .ref a)]) (st' := [.int ((Int32.ofInt 3)), .ref 3]) rfl ?_
    have := (by decide : ((Int32.ofInt 3)).toInt = 3)
    refine En_callV rfl rfl rfl rfl rfl rfl rfl rfl tgz_3 (by decide +kernel) rfl (c_54x σ0 hσ0 ((Int32.ofInt 3)) (geI (by decide : (Int32.ofInt 3).toInt = 3) (by omega)) (leI (by decide : (Int32.ofInt 3).toInt = 3) (by omega)) f h_f hC) (by decide) (by decide) (fun v158 σ159 h157 => ?_)
    obtain ⟨h160, h161, z163, h164, rfl, h162⟩ := h157
    have h165 := h162.2.2.2.2.2
    have h166 := Fr_trans hF0 h161 (by decide +kernel)
    obtain ⟨S167, h168⟩ : ∃ q : PS, q = err By Nb 3 Sp := ⟨_, rfl⟩
    have h169 : CT By Nb σ159 S167 := by rw [h168]; exact (CT_eq h165 (err_cg (by omega)))
    have h170 := CT_k h169 h164
    have h171 : S167.2.2.2 = Sp.2.2.2 := by rw [h168]; exact err_w
    have h172 := KN_fr hP hK h161 (by decide +kernel)
    have h173 : S167.2.2.2 = Sp.2.2.2 := h171.trans (rfl : Sp.2.2.2 = Sp.2.2.2)
    have o174 : OUT σ0 σ159 a := OUT_fr OUT_0 h161 (by decide +kernel)
    have h175 : fDoor By Nb Sp = S167 := by unfold fDoor; (try dsimp only); first | (rw [← h168]; first | done | rfl) | (rw [← h168]; rw [if_pos (by omega)]; first | done | rfl) | (rw [← h168]; rw [if_neg (by omega)]; first | done | rfl) | (rw [← h168]; rw [if_neg (by omega), if_pos (by omega)]; first | done | rfl) | (rw [← h168]; rw [if_neg (by omega), if_neg (by omega)]; first | done | rfl) | (rw [← h168]; rw [if_neg (by omega), if_neg (by omega), if_neg (by omega)]; first | done | rfl)
    exact En_ret (v := none) rfl rfl rfl ⟨h160, h166, z163, h164, rfl, ⟨o174, by omega, by omega, by omega, by omega, (by rw [h175]; exact ⟨h169, fun z => absurd z (by omega)⟩)⟩⟩
/-- DoorSchool$Reader.readSaid(LDoorSchool$Plan;LDoorSchool$Lessons;)V -/
abbrev P_69x (σ0 : SG) (By : Int → Int) (Nb : Int) (Sp : PS) (ix : Int) (jx : Int) (a : Nat) (b : Nat) (f : Int32) (sg : Int32) : PO := fun v σ => WT σ ∧ Fr [(3, 1), (3, 2), (3, 3), (3, 4), (3, 5), (3, 6), (20, 2), (21, 0), (22, 0)] σ0 σ ∧ ∃ f1 : Int32, (σ 3)[5]? = some (.int f1) ∧ v = none ∧ OUT σ0 σ a ∧ -f1.toInt ≤ 0 ∧ f1.toInt - 3 ≤ 0 ∧ -f1.toInt + f.toInt ≤ 0 ∧ f.toInt - f1.toInt ≤ 0 ∧ (CT By Nb σ (fSaid By Nb ix jx Sp) ∧ ((fSaid By Nb ix jx Sp).1 = 0 → KN σ a (fSaid By Nb ix jx Sp).2.2.2 (fun t => ((act Sp.2.2.2 t ∨ t = ix) ∨ t = ix + 1) ∨ t = jx)))
set_option maxRecDepth 10000 in
set_option maxHeartbeats 4000000 in
theorem c_69x {By : Int → Int} {Nb : Int} {Sp : PS} {ix : Int} {jx : Int} (σ0 : SG) (hσ0 : WT σ0) (a : Nat) (ha : TG a = 18) (b : Nat) (hb : TG b = 20) (f : Int32) (h_f : (σ0 3)[5]? = some (.int f)) (sg : Int32) (h_sg : (σ0 a)[1]? = some (.int sg)) (hp0 : -sg.toInt ≤ 0) (hC : CT By Nb σ0 Sp) (hg : Sp.1 = 0) (hP : PLA a) (hX : FXP σ0 a) (hK : KN σ0 a Sp.2.2.2 (act Sp.2.2.2)) (hL : LSN σ0 a b Sp.2.2.2 ix jx) : En 5 112 none mr_69 (P_69x σ0 By Nb Sp ix jx a b f sg) 0 [(0, .ref 3), (1, .ref a), (2, .ref b)] [] σ0 := by
  obtain ⟨hl_f, hu_f⟩ := WT_int hσ0 (g := 3) (by decide +kernel) (by decide +kernel) (l := 0) (u := 3) (by decide +kernel) h_f
  obtain ⟨hl_sg, hu_sg⟩ := WT_int hσ0 (g := 18) ha (by decide +kernel) (l := (-1)) (u := 4) (by decide +kernel) h_sg
  have hF0 : Fr [(3, 1), (3, 2), (3, 3), (3, 4), (3, 5), (3, 6), (20, 2), (21, 0), (22, 0)] σ0 σ0 := Fr_rfl
  have h1 := CT_k hC h_f
  have h2 : Sp.2.2.2 0 = sg.toInt := KN_v hK (Or.inl (by decide)) (by decide) (by decide) (by rw [lcO_lt (by decide) (by decide), Nat.add_zero]) rfl h_sg
  have h3 : pI (Sp.2.2.2 0) = pI (sg.toInt) := by rw [h2]
  obtain ⟨L1, L2, L3, L4, L5, L6, L7, L8, L9, L10, L11, L12, L13, L14, L15⟩ := id hL
  obtain ⟨a5, h4, ha5⟩ := WT_peekR (g := 20) (j := 0) (g' := 21) (u := 0) hσ0 hb (by decide +kernel) (by decide +kernel)
  obtain ⟨a7, h6, ha7⟩ := WT_peekR (g := 20) (j := 1) (g' := 22) (u := 0) hσ0 hb (by decide +kernel) (by decide +kernel)
  obtain ⟨z9, h8, h10, h11⟩ := WT_peekI hσ0 hb (by decide +kernel : FT 20 2 = (0, 0, 13)) (by decide +kernel)
  have h12 : a5 = b + 1 := ref_uniq h4 L12
  have h13 : a7 = b + 2 := ref_uniq h6 L13
  have h14 : Sp.2.2.2 jx = z9.toInt := KN_v hK L11 L9 L10 L1 (by rw [L2]; rfl) h8
  have := lc_0 L9 L10
  have := lc_0 (i := ix + 1) (by omega) L8
  have := lc_0 (i := ix) (by omega) (by omega)
  refine En_Ps 3 (pc' := 3) (lv' := [(0, .ref 3), (1, .ref a), (2, .ref b)]) (st' := [.ref a, .int ((Int32.ofInt 0)), .ref 3]) rfl ?_
  refine En_callV rfl rfl rfl rfl rfl rfl rfl rfl ha (by decide +kernel) rfl (c_51x σ0 hσ0 a ha sg h_sg (by omega)) (by decide) (by decide) (fun v16 σ17 h15 => ?_)
  obtain ⟨h18, h19, z21, rfl, h20⟩ := h15
  have h22 := h20.2.2
  obtain rfl : σ0 = σ17 := Fr_nil h19
  have h23 := h22
  have h24 : pI (Sp.2.2.2 0) = z21.toInt := by rw [(rfl : Sp.2.2.2 = Sp.2.2.2)]; omega
  refine En_Ps 2 (pc' := 8) (lv' := [(0, .ref 3), (1, .ref a), (2, .ref b)]) (st' := [.int ((z21 - ((Int32.ofInt 1)))), .int ((Int32.ofInt 0)), .ref 3]) rfl ?_
  refine En_top (subI rfl (by decide : (Int32.ofInt 1).toInt = 1) (by omega) (by omega)) (fun z25 h26 => ?_)
  have := (by decide : ((Int32.ofInt 0)).toInt = 0)
  refine En_callV rfl rfl rfl rfl rfl rfl rfl rfl tgz_3 (by decide +kernel) rfl (c_73x σ0 hσ0 ((Int32.ofInt 0)) z25 f h_f hC) (by decide) (by decide) (fun v28 σ29 h27 => ?_)
  obtain ⟨h30, h31, z33, h34, z35, rfl, h32⟩ := h27
  have h36 := h32.2.2.2.2.2.2.2.2.2
  have h37 := Fr_trans hF0 h31 (by decide +kernel)
  have h38 : tN By Nb ((Int32.ofInt 0)).toInt z25.toInt Sp = tN By Nb (0) (pI (Sp.2.2.2 0) - 1) Sp := tN_cg2 (fun zz => by omega) (fun zz => by omega)
  obtain ⟨S39, h40⟩ : ∃ q : PS, q = tN By Nb (0) (pI (Sp.2.2.2 0) - 1) Sp := ⟨_, rfl⟩
  have h41 : CT By Nb σ29 S39 := by rw [h40]; exact (CT_eq h36.1 h38)
  have h42 := CT_k h41 h34
  have h43 : Imp (S39.1 = 0) (z35.toInt = tV By Nb Sp.2.2.1) := fun z => Imp_m h36.2 (by rw [h38, ← h40]; exact z)
  have h44 : Imp (S39.1 = 0) (Sp.1 = 0 ∧ tK By Nb Sp.2.2.1 = 2 ∧ 0 ≤ tV By Nb Sp.2.2.1 ∧ tV By Nb Sp.2.2.1 ≤ pI (Sp.2.2.2 0) - 1) := fun z => tN_gg (by rw [← h40]; exact z)
  have h45 : S39.2.2.2 = Sp.2.2.2 := by rw [h40]; exact tN_w
  have h46 := KN_fr hP hK h31 (by decide +kernel)
  have h47 : S39.2.2.2 = Sp.2.2.2 := h45.trans (rfl : Sp.2.2.2 = Sp.2.2.2)
  have o48 : OUT σ0 σ29 a := OUT_fr OUT_0 h31 (by decide +kernel)
  have h49 := Imp_m h32.2.2.2.2.2.2.2.1 (by omega)
  have h50 := Imp_m h32.2.2.2.2.2.2.2.2.1 (by omega)
  refine En_Ps 1 (pc' := 12) (lv' := [(3, .int z35), (0, .ref 3), (1, .ref a), (2, .ref b)]) (st' := []) rfl ?_
  refine En_Ps 1 (pc' := 13) (lv' := [(3, .int z35), (0, .ref 3), (1, .ref a), (2, .ref b)]) (st' := [.ref 3]) rfl ?_
  refine En_ldcS (i := 8) rfl rfl rfl ?_
  refine En_callV rfl rfl rfl rfl rfl rfl rfl rfl tgz_3 (by decide +kernel) rfl (c_71s8x σ29 h30 h41) (by decide) (by decide) (fun v52 σ53 h51 => ?_)
  obtain ⟨h54, h55, z57, rfl, h56⟩ := h51
  have h58 := h56.2.2
  obtain rfl : σ29 = σ53 := Fr_nil h55
  have h59 := h58
  refine En_iEq _ rfl rfl (fun h60 => ?_) (fun h60 => ?_)
  · refine En_Ps 5 (pc' := 32) (lv' := [(4, .int ((Int32.ofInt 0))), (3, .int z35), (0, .ref 3), (1, .ref a), (2, .ref b)]) (st' := [.int ((Int32.ofInt 1)), .int ((Int32.ofInt 0)), .ref 3]) rfl ?_
    refine En_icEq _ (by decide : (Int32.ofInt 0).toInt = 0) (by decide : (Int32.ofInt 1).toInt = 1) rfl (fun hx => by exfalso; have := Imp_m h32.2.2.2.2.2.1 (by omega); have := Imp_m h32.2.2.2.2.2.2.1 (by omega); omega) (fun h61 => ?_)
    refine En_Ps 1 (pc' := 36) (lv' := [(4, .int ((Int32.ofInt 0))), (3, .int z35), (0, .ref 3), (1, .ref a), (2, .ref b)]) (st' := [.ref 3, .ref 3]) rfl ?_
    refine En_ldcS (i := 12) rfl rfl rfl ?_
    refine En_callV rfl rfl rfl rfl rfl rfl rfl rfl tgz_3 (by decide +kernel) rfl (c_71s12x σ29 h30 h41) (by decide) (by decide) (fun v63 σ64 h62 => ?_)
    obtain ⟨h65, h66, z68, rfl, h67⟩ := h62
    have h69 := h67.2.2
    obtain rfl : σ29 = σ64 := Fr_nil h66
    have h70 := h69
    refine En_iEq _ rfl rfl (fun h71 => ?_) (fun h71 => ?_)
    · refine En_Ps 1 (pc' := 49) (lv' := [(4, .int ((Int32.ofInt 0))), (3, .int z35), (0, .ref 3), (1, .ref a), (2, .ref b)]) (st' := [.int ((Int32.ofInt 0)), .ref 3]) rfl ?_
      have := (by decide : ((Int32.ofInt 0)).toInt = 0)
      refine En_callV rfl rfl rfl rfl rfl rfl rfl rfl tgz_3 (by decide +kernel) rfl (c_59x σ29 h30 ((Int32.ofInt 0)) (geI (by decide : (Int32.ofInt 0).toInt = 0) (by omega)) (leI (by decide : (Int32.ofInt 0).toInt = 0) (by omega)) z33 h34 h41) (by decide) (by decide) (fun v73 σ74 h72 => ?_)
      obtain ⟨h75, h76, z78, h79, rfl, h77⟩ := h72
      have h80 := h77.2.2.2.2.2.2
      have h81 := Fr_trans h37 h76 (by decide +kernel)
      have h82 : pss By Nb ((Int32.ofInt 0)).toInt S39 = dD By Nb S39 := dDc (fun zz => by (try have i0 := Imp_m h70 (by omega)); (try have i1 := Imp_m h59 (by omega)); (try have i2 := Imp_m h44 (by omega)); (try have i3 := Imp_m h43 (by omega)); (try have i4 := Imp_m h32.2.2.2.2.2.1 (by omega)); (try have i5 := Imp_m h32.2.2.2.2.2.2.1 (by omega)); omega)
      obtain ⟨S83, h84⟩ : ∃ q : PS, q = dD By Nb S39 := ⟨_, rfl⟩
      have h85 : CT By Nb σ74 S83 := by rw [h84]; exact (CT_eq h80 h82)
      have h86 := CT_k h85 h79
      have h87 : S83.2.2.2 = S39.2.2.2 := by rw [h84]; exact pss_w
      have h88 : Imp (S83.1 = 0) (S39.1 = 0) := fun z => (pss_g (by rw [h82, ← h84]; exact z)).1
      have h89 : Imp (S83.1 = 0) (((Int32.ofInt 0)).toInt = 1) := fun z => (pss_g (by rw [h82, ← h84]; exact z)).2.1
      have h90 := KN_fr hP h46 h76 (by decide +kernel)
      have h91 : S83.2.2.2 = Sp.2.2.2 := h87.trans h47
      have o92 : OUT σ0 σ74 a := OUT_fr o48 h76 (by decide +kernel)
      have h93 := Imp_m h77.2.2.2.2.2.1 (by omega)
      refine En_Ps 1 (pc' := 53) (lv' := [(4, .int ((Int32.ofInt 0))), (3, .int z35), (0, .ref 3), (1, .ref a), (2, .ref b)]) (st' := [.ref 3]) rfl ?_
      refine En_getK (j := 5) h79 rfl rfl rfl tgz_3 (by decide +kernel) ?_
      refine En_iNe _ rfl rfl (fun h94 => ?_) (fun hx => by exfalso; have := Imp_m h32.2.2.2.2.2.1 (by omega); have := Imp_m h32.2.2.2.2.2.2.1 (by omega); omega)
      have h95 : fSaid By Nb ix jx Sp = S83 := by unfold fSaid; (try dsimp only); first | (rw [← h40, ← h84]; first | done | rfl) | (rw [← h40, ← h84]; rw [if_pos (by omega)]; first | done | rfl) | (rw [← h40, ← h84]; rw [if_neg (by omega)]; first | done | rfl) | (rw [← h40, ← h84]; rw [if_neg (by omega), if_pos (by omega)]; first | done | rfl) | (rw [← h40, ← h84]; rw [if_neg (by omega), if_neg (by omega)]; first | done | rfl) | (rw [← h40, ← h84]; rw [if_neg (by omega), if_neg (by omega), if_neg (by omega)]; first | done | rfl)
      exact En_ret (v := none) rfl rfl rfl ⟨h75, h81, z78, h79, rfl, ⟨o92, by omega, by omega, by omega, by omega, (by rw [h95]; exact ⟨h85, fun z => absurd z (by omega)⟩)⟩⟩
    · refine En_Ps 2 (pc' := 49) (lv' := [(4, .int ((Int32.ofInt 0))), (3, .int z35), (0, .ref 3), (1, .ref a), (2, .ref b)]) (st' := [.int ((Int32.ofInt 1)), .ref 3]) rfl ?_
      have := (by decide : ((Int32.ofInt 1)).toInt = 1)
      refine En_callV rfl rfl rfl rfl rfl rfl rfl rfl tgz_3 (by decide +kernel) rfl (c_59x σ29 h30 ((Int32.ofInt 1)) (geI (by decide : (Int32.ofInt 1).toInt = 1) (by omega)) (leI (by decide : (Int32.ofInt 1).toInt = 1) (by omega)) z33 h34 h41) (by decide) (by decide) (fun v97 σ98 h96 => ?_)
      obtain ⟨h99, h100, z102, h103, rfl, h101⟩ := h96
      have h104 := h101.2.2.2.2.2.2
      have h105 := Fr_trans h37 h100 (by decide +kernel)
      have h106 : pss By Nb ((Int32.ofInt 1)).toInt S39 = dD By Nb S39 := dDc (fun zz => by (try have i0 := Imp_m h70 (by omega)); (try have i1 := Imp_m h59 (by omega)); (try have i2 := Imp_m h44 (by omega)); (try have i3 := Imp_m h43 (by omega)); (try have i4 := Imp_m h32.2.2.2.2.2.1 (by omega)); (try have i5 := Imp_m h32.2.2.2.2.2.2.1 (by omega)); omega)
      obtain ⟨S107, h108⟩ : ∃ q : PS, q = dD By Nb S39 := ⟨_, rfl⟩
      have h109 : CT By Nb σ98 S107 := by rw [h108]; exact (CT_eq h104 h106)
      have h110 := CT_k h109 h103
      have h111 : S107.2.2.2 = S39.2.2.2 := by rw [h108]; exact pss_w
      have h112 : Imp (S107.1 = 0) (S39.1 = 0) := fun z => (pss_g (by rw [h106, ← h108]; exact z)).1
      have h113 : Imp (S107.1 = 0) (((Int32.ofInt 1)).toInt = 1) := fun z => (pss_g (by rw [h106, ← h108]; exact z)).2.1
      have h114 := KN_fr hP h46 h100 (by decide +kernel)
      have h115 : S107.2.2.2 = Sp.2.2.2 := h111.trans h47
      have o116 : OUT σ0 σ98 a := OUT_fr o48 h100 (by decide +kernel)
      have h117 := Imp_m h101.2.2.2.1 (by omega)
      refine En_Ps 1 (pc' := 53) (lv' := [(4, .int ((Int32.ofInt 0))), (3, .int z35), (0, .ref 3), (1, .ref a), (2, .ref b)]) (st' := [.ref 3]) rfl ?_
      refine En_getK (j := 5) h103 rfl rfl rfl tgz_3 (by decide +kernel) ?_
      refine En_iNe _ rfl rfl (fun h118 => ?_) (fun h118 => ?_)
      · have h119 := Imp_m h32.2.2.2.2.2.2.1 (by omega)
        have h120 : fSaid By Nb ix jx Sp = S107 := by unfold fSaid; (try dsimp only); first | (rw [← h40, ← h108]; first | done | rfl) | (rw [← h40, ← h108]; rw [if_pos (by omega)]; first | done | rfl) | (rw [← h40, ← h108]; rw [if_neg (by omega)]; first | done | rfl) | (rw [← h40, ← h108]; rw [if_neg (by omega), if_pos (by omega)]; first | done | rfl) | (rw [← h40, ← h108]; rw [if_neg (by omega), if_neg (by omega)]; first | done | rfl) | (rw [← h40, ← h108]; rw [if_neg (by omega), if_neg (by omega), if_neg (by omega)]; first | done | rfl)
        exact En_ret (v := none) rfl rfl rfl ⟨h99, h105, z102, h103, rfl, ⟨o116, by omega, by omega, by omega, by omega, (by rw [h120]; exact ⟨h109, fun z => absurd z (by omega)⟩)⟩⟩
      · have h121 := Imp_m h32.2.2.2.2.2.1 (by omega)
        try have h122 := Imp_m h113 (by omega)
        try have h123 := Imp_m h112 (by omega)
        try have h124 := Imp_m h70 (by omega)
        try have h125 := Imp_m h59 (by omega)
        try have h126 := Imp_m h44 (by omega)
        try have h127 := Imp_m h43 (by omega)
        refine En_Ps 3 (pc' := 63) (lv' := [(4, .int ((Int32.ofInt 0))), (3, .int z35), (0, .ref 3), (1, .ref a), (2, .ref b)]) (st' := [.int ((Int32.ofInt 0)), .int z35, .ref b]) rfl ?_
        have := (by decide : ((Int32.ofInt 0)).toInt = 0)
        refine En_callV rfl rfl rfl rfl rfl rfl rfl rfl hb (by decide +kernel) rfl (c_31x σ98 h99 b hb z35 ((Int32.ofInt 0)) (geI rfl (by omega)) (leI rfl (by omega)) (geI (by decide : (Int32.ofInt 0).toInt = 0) (by omega)) (leI (by decide : (Int32.ofInt 0).toInt = 0) (by omega)) a5 ha5 ((h100 _ _ (inW hb (by decide +kernel))).trans ((h31 _ _ (inW hb (by decide +kernel))).trans h4)) a7 ha7 ((h100 _ _ (inW hb (by decide +kernel))).trans ((h31 _ _ (inW hb (by decide +kernel))).trans h6)) z9 ((h100 _ _ (inW hb (by decide +kernel))).trans ((h31 _ _ (inW hb (by decide +kernel))).trans h8)) (by omega)) (by decide) (by decide) (fun v129 σ130 h128 => ?_)
        obtain ⟨h131, h132, z134, h135, rfl, h133⟩ := h128
        have h136 := h133.2.2.2.2
        have h137 := Fr_trans h105 h132 (by decide +kernel)
        obtain ⟨S138, h139⟩ : ∃ q : PS, q = wst (wst (wst S107 ix (tV By Nb Sp.2.2.1)) (ix + 1) (iW By Nb 8 S39)) jx (S107.2.2.2 jx + 1) := ⟨_, rfl⟩
        have h140 : CT By Nb σ130 S138 := by rw [h139]; exact CT_wst (CT_wst (CT_wst (CT_fr h109 h132 (by decide +kernel))))
        have h141 : KN σ130 a (uPd (uPd (uPd Sp.2.2.2 ix (tV By Nb Sp.2.2.1)) (ix + 1) (iW By Nb 8 S39)) jx (Sp.2.2.2 jx + 1)) (fun t => (((act Sp.2.2.2 t ∨ t = ix) ∨ t = ix + 1) ∨ t = jx)) := KN_w (KN_add (i := ix) (i' := ix + 1) (j := jx) h114 h136 L7 rfl L8 L9 L10 L1 L2 (by rw [h12]; exact L3) (by rw [L4]; exact h14) (by rw [h13]; exact L5) (by rw [L6]; exact h14) (by omega)) (uPd3_cg (by omega) (by omega) (by omega))
        have h142 : S138.2.2.2 = (uPd (uPd (uPd Sp.2.2.2 ix (tV By Nb Sp.2.2.1)) (ix + 1) (iW By Nb 8 S39)) jx (Sp.2.2.2 jx + 1)) := by rw [h139]; show uPd (uPd (uPd S107.2.2.2 _ _) _ _) _ (S107.2.2.2 jx + 1) = _; rw [h115]
        have h143 : S138.1 = S107.1 := by rw [h139]; rfl
        have o144 : OUT σ0 σ130 a := OUT_add o116 h136 (by omega) (by omega) (by omega)
        have h145 : fSaid By Nb ix jx Sp = S138 := by unfold fSaid; (try dsimp only); first | (rw [← h40, ← h108, ← h139]; first | done | rfl) | (rw [← h40, ← h108, ← h139]; rw [if_pos (by omega)]; first | done | rfl) | (rw [← h40, ← h108, ← h139]; rw [if_neg (by omega)]; first | done | rfl) | (rw [← h40, ← h108, ← h139]; rw [if_neg (by omega), if_pos (by omega)]; first | done | rfl) | (rw [← h40, ← h108, ← h139]; rw [if_neg (by omega), if_neg (by omega)]; first | done | rfl) | (rw [← h40, ← h108, ← h139]; rw [if_neg (by omega), if_neg (by omega), if_neg (by omega)]; first | done | rfl)
        exact En_ret (v := none) rfl rfl rfl ⟨h131, h137, z102, ((h132 _ _ (inW tgz_3 (by decide +kernel))).trans h103), rfl, ⟨o144, by omega, by omega, by omega, by omega, (by rw [h145]; exact ⟨h140, fun zz => by rw [h142]; exact h141⟩)⟩⟩
  · refine En_Ps 6 (pc' := 32) (lv' := [(4, .int ((Int32.ofInt 1))), (3, .int z35), (0, .ref 3), (1, .ref a), (2, .ref b)]) (st' := [.int ((Int32.ofInt 1)), .int ((Int32.ofInt 1)), .ref 3]) rfl ?_
    refine En_icEq _ (by decide : (Int32.ofInt 1).toInt = 1) (by decide : (Int32.ofInt 1).toInt = 1) rfl (fun h146 => ?_) (fun hx => by exfalso; have := Imp_m h32.2.2.2.2.2.1 (by omega); have := Imp_m h32.2.2.2.2.2.2.1 (by omega); omega)
    refine En_Ps 2 (pc' := 49) (lv' := [(4, .int ((Int32.ofInt 1))), (3, .int z35), (0, .ref 3), (1, .ref a), (2, .ref b)]) (st' := [.int ((Int32.ofInt 1)), .ref 3]) rfl ?_
    have := (by decide : ((Int32.ofInt 1)).toInt = 1)
    refine En_callV rfl rfl rfl rfl rfl rfl rfl rfl tgz_3 (by decide +kernel) rfl (c_59x σ29 h30 ((Int32.ofInt 1)) (geI (by decide : (Int32.ofInt 1).toInt = 1) (by omega)) (leI (by decide : (Int32.ofInt 1).toInt = 1) (by omega)) z33 h34 h41) (by decide) (by decide) (fun v148 σ149 h147 => ?_)
    obtain ⟨h150, h151, z153, h154, rfl, h152⟩ := h147
    have h155 := h152.2.2.2.2.2.2
    have h156 := Fr_trans h37 h151 (by decide +kernel)
    have h157 : pss By Nb ((Int32.ofInt 1)).toInt S39 = dD By Nb S39 := dDc (fun zz => by (try have i0 := Imp_m h59 (by omega)); (try have i1 := Imp_m h44 (by omega)); (try have i2 := Imp_m h43 (by omega)); (try have i3 := Imp_m h32.2.2.2.2.2.1 (by omega)); (try have i4 := Imp_m h32.2.2.2.2.2.2.1 (by omega)); omega)
    obtain ⟨S158, h159⟩ : ∃ q : PS, q = dD By Nb S39 := ⟨_, rfl⟩
    have h160 : CT By Nb σ149 S158 := by rw [h159]; exact (CT_eq h155 h157)
    have h161 := CT_k h160 h154
    have h162 : S158.2.2.2 = S39.2.2.2 := by rw [h159]; exact pss_w
    have h163 : Imp (S158.1 = 0) (S39.1 = 0) := fun z => (pss_g (by rw [h157, ← h159]; exact z)).1
    have h164 : Imp (S158.1 = 0) (((Int32.ofInt 1)).toInt = 1) := fun z => (pss_g (by rw [h157, ← h159]; exact z)).2.1
    have h165 := KN_fr hP h46 h151 (by decide +kernel)
    have h166 : S158.2.2.2 = Sp.2.2.2 := h162.trans h47
    have o167 : OUT σ0 σ149 a := OUT_fr o48 h151 (by decide +kernel)
    have h168 := Imp_m h152.2.2.2.1 (by omega)
    refine En_Ps 1 (pc' := 53) (lv' := [(4, .int ((Int32.ofInt 1))), (3, .int z35), (0, .ref 3), (1, .ref a), (2, .ref b)]) (st' := [.ref 3]) rfl ?_
    refine En_getK (j := 5) h154 rfl rfl rfl tgz_3 (by decide +kernel) ?_
    refine En_iNe _ rfl rfl (fun h169 => ?_) (fun h169 => ?_)
    · have h170 := Imp_m h32.2.2.2.2.2.2.1 (by omega)
      have h171 : fSaid By Nb ix jx Sp = S158 := by unfold fSaid; (try dsimp only); first | (rw [← h40, ← h159]; first | done | rfl) | (rw [← h40, ← h159]; rw [if_pos (by omega)]; first | done | rfl) | (rw [← h40, ← h159]; rw [if_neg (by omega)]; first | done | rfl) | (rw [← h40, ← h159]; rw [if_neg (by omega), if_pos (by omega)]; first | done | rfl) | (rw [← h40, ← h159]; rw [if_neg (by omega), if_neg (by omega)]; first | done | rfl) | (rw [← h40, ← h159]; rw [if_neg (by omega), if_neg (by omega), if_neg (by omega)]; first | done | rfl)
      exact En_ret (v := none) rfl rfl rfl ⟨h150, h156, z153, h154, rfl, ⟨o167, by omega, by omega, by omega, by omega, (by rw [h171]; exact ⟨h160, fun z => absurd z (by omega)⟩)⟩⟩
    · have h172 := Imp_m h32.2.2.2.2.2.1 (by omega)
      try have h173 := Imp_m h164 (by omega)
      try have h174 := Imp_m h163 (by omega)
      try have h175 := Imp_m h59 (by omega)
      try have h176 := Imp_m h44 (by omega)
      try have h177 := Imp_m h43 (by omega)
      refine En_Ps 3 (pc' := 63) (lv' := [(4, .int ((Int32.ofInt 1))), (3, .int z35), (0, .ref 3), (1, .ref a), (2, .ref b)]) (st' := [.int ((Int32.ofInt 1)), .int z35, .ref b]) rfl ?_
      have := (by decide : ((Int32.ofInt 1)).toInt = 1)
      refine En_callV rfl rfl rfl rfl rfl rfl rfl rfl hb (by decide +kernel) rfl (c_31x σ149 h150 b hb z35 ((Int32.ofInt 1)) (geI rfl (by omega)) (leI rfl (by omega)) (geI (by decide : (Int32.ofInt 1).toInt = 1) (by omega)) (leI (by decide : (Int32.ofInt 1).toInt = 1) (by omega)) a5 ha5 ((h151 _ _ (inW hb (by decide +kernel))).trans ((h31 _ _ (inW hb (by decide +kernel))).trans h4)) a7 ha7 ((h151 _ _ (inW hb (by decide +kernel))).trans ((h31 _ _ (inW hb (by decide +kernel))).trans h6)) z9 ((h151 _ _ (inW hb (by decide +kernel))).trans ((h31 _ _ (inW hb (by decide +kernel))).trans h8)) (by omega)) (by decide) (by decide) (fun v179 σ180 h178 => ?_)
      obtain ⟨h181, h182, z184, h185, rfl, h183⟩ := h178
      have h186 := h183.2.2.2.2
      have h187 := Fr_trans h156 h182 (by decide +kernel)
      obtain ⟨S188, h189⟩ : ∃ q : PS, q = wst (wst (wst S158 ix (tV By Nb Sp.2.2.1)) (ix + 1) (iW By Nb 8 S39)) jx (S158.2.2.2 jx + 1) := ⟨_, rfl⟩
      have h190 : CT By Nb σ180 S188 := by rw [h189]; exact CT_wst (CT_wst (CT_wst (CT_fr h160 h182 (by decide +kernel))))
      have h191 : KN σ180 a (uPd (uPd (uPd Sp.2.2.2 ix (tV By Nb Sp.2.2.1)) (ix + 1) (iW By Nb 8 S39)) jx (Sp.2.2.2 jx + 1)) (fun t => (((act Sp.2.2.2 t ∨ t = ix) ∨ t = ix + 1) ∨ t = jx)) := KN_w (KN_add (i := ix) (i' := ix + 1) (j := jx) h165 h186 L7 rfl L8 L9 L10 L1 L2 (by rw [h12]; exact L3) (by rw [L4]; exact h14) (by rw [h13]; exact L5) (by rw [L6]; exact h14) (by omega)) (uPd3_cg (by omega) (by omega) (by omega))
      have h192 : S188.2.2.2 = (uPd (uPd (uPd Sp.2.2.2 ix (tV By Nb Sp.2.2.1)) (ix + 1) (iW By Nb 8 S39)) jx (Sp.2.2.2 jx + 1)) := by rw [h189]; show uPd (uPd (uPd S158.2.2.2 _ _) _ _) _ (S158.2.2.2 jx + 1) = _; rw [h166]
      have h193 : S188.1 = S158.1 := by rw [h189]; rfl
      have o194 : OUT σ0 σ180 a := OUT_add o167 h186 (by omega) (by omega) (by omega)
      have h195 : fSaid By Nb ix jx Sp = S188 := by unfold fSaid; (try dsimp only); first | (rw [← h40, ← h159, ← h189]; first | done | rfl) | (rw [← h40, ← h159, ← h189]; rw [if_pos (by omega)]; first | done | rfl) | (rw [← h40, ← h159, ← h189]; rw [if_neg (by omega)]; first | done | rfl) | (rw [← h40, ← h159, ← h189]; rw [if_neg (by omega), if_pos (by omega)]; first | done | rfl) | (rw [← h40, ← h159, ← h189]; rw [if_neg (by omega), if_neg (by omega)]; first | done | rfl) | (rw [← h40, ← h159, ← h189]; rw [if_neg (by omega), if_neg (by omega), if_neg (by omega)]; first | done | rfl)
      exact En_ret (v := none) rfl rfl rfl ⟨h181, h187, z153, ((h182 _ _ (inW tgz_3 (by decide +kernel))).trans h154), rfl, ⟨o194, by omega, by omega, by omega, by omega, (by rw [h195]; exact ⟨h190, fun zz => by rw [h192]; exact h191⟩)⟩⟩
/-- DoorSchool$Reader.readLesson(LDoorSchool$Plan;)V -/
abbrev P_67x (σ0 : SG) (By : Int → Int) (Nb : Int) (Sp : PS) (a : Nat) (f : Int32) (sg : Int32) : PO := fun v σ => WT σ ∧ Fr [(3, 1), (3, 2), (3, 3), (3, 4), (3, 5), (3, 6), (20, 2), (21, 0), (22, 0)] σ0 σ ∧ ∃ f1 : Int32, (σ 3)[5]? = some (.int f1) ∧ v = none ∧ OUT σ0 σ a ∧ -f1.toInt ≤ 0 ∧ f1.toInt - 3 ≤ 0 ∧ -f1.toInt + f.toInt ≤ 0 ∧ f.toInt - f1.toInt ≤ 0 ∧ (CT By Nb σ (fLesson By Nb Sp) ∧ ((fLesson By Nb Sp).1 = 0 → KN σ a (fLesson By Nb Sp).2.2.2 (act (fLesson By Nb Sp).2.2.2)))
set_option maxRecDepth 10000 in
set_option maxHeartbeats 4000000 in
theorem c_67x {By : Int → Int} {Nb : Int} {Sp : PS} (σ0 : SG) (hσ0 : WT σ0) (a : Nat) (ha : TG a = 18) (f : Int32) (h_f : (σ0 3)[5]? = some (.int f)) (sg : Int32) (h_sg : (σ0 a)[1]? = some (.int sg)) (hp0 : -sg.toInt ≤ 0) (hC : CT By Nb σ0 Sp) (hg : Sp.1 = 0) (hP : PLA a) (hX : FXP σ0 a) (hK : KN σ0 a Sp.2.2.2 (act Sp.2.2.2)) : En 6 136 none mr_67 (P_67x σ0 By Nb Sp a f sg) 0 [(0, .ref 3), (1, .ref a)] [] σ0 := by
  obtain ⟨hl_f, hu_f⟩ := WT_int hσ0 (g := 3) (by decide +kernel) (by decide +kernel) (l := 0) (u := 3) (by decide +kernel) h_f
  obtain ⟨hl_sg, hu_sg⟩ := WT_int hσ0 (g := 18) ha (by decide +kernel) (l := (-1)) (u := 4) (by decide +kernel) h_sg
  have hF0 : Fr [(3, 1), (3, 2), (3, 3), (3, 4), (3, 5), (3, 6), (20, 2), (21, 0), (22, 0)] σ0 σ0 := Fr_rfl
  have h1 := CT_k hC h_f
  obtain ⟨z3, h2, h4, h5⟩ := WT_peekI hσ0 ha (by decide +kernel : FT 18 3 = (0, 0, 4)) (by decide +kernel)
  have h6 : Sp.2.2.2 2 = z3.toInt := KN_v hK (Or.inl (by decide)) (by decide) (by decide) (by rw [lcO_lt (by decide) (by decide), Nat.add_zero]) rfl h2
  refine En_Ps 1 (pc' := 1) (lv' := [(0, .ref 3), (1, .ref a)]) (st' := [.ref 3]) rfl ?_
  obtain ⟨z8, h7, h9, h10⟩ := WT_peekI hσ0 tgz_3 (by decide +kernel : FT 3 3 = (0, 0, 1600)) (by decide +kernel)
  refine En_callV rfl rfl rfl rfl rfl rfl rfl rfl tgz_3 (by decide +kernel) rfl (c_72x σ0 hσ0 z8 h7 hC.1 (CT_at hC (by omega) h7)) (by decide) (by decide) (fun v12 σ13 h11 => ?_)
  obtain ⟨h14, h15, rfl, h16⟩ := h11
  have h17 := h16
  have h18 := Fr_trans hF0 h15 (by decide +kernel)
  obtain ⟨S19, h20⟩ : ∃ q : PS, q = adv By Nb Sp := ⟨_, rfl⟩
  have h21 : CT By Nb σ13 S19 := by rw [h20]; exact (CT_adv hC (by omega) h7 h15 (by decide +kernel) h17.2)
  have h22 := CT_k h21 ((h15 _ _ (inW tgz_3 (by decide +kernel))).trans h_f)
  have h23 : S19.2.2.2 = Sp.2.2.2 := by rw [h20]; exact adv_w
  have h24 : S19.1 = Sp.1 := by rw [h20]; exact adv_1
  have h25 := KN_fr hP hK h15 (by decide +kernel)
  have h26 : S19.2.2.2 = Sp.2.2.2 := h23.trans (rfl : Sp.2.2.2 = Sp.2.2.2)
  have o27 : OUT σ0 σ13 a := OUT_fr OUT_0 h15 (by decide +kernel)
  refine En_Ps 3 (pc' := 7) (lv' := [(0, .ref 3), (1, .ref a)]) (st' := [.ref a, .int ((Int32.ofInt 0)), .ref 3]) rfl ?_
  refine En_getK (j := 3) ((h15 _ _ (inW ha (by decide +kernel))).trans h2) rfl rfl rfl ha (by decide +kernel) ?_
  refine En_Ps 2 (pc' := 12) (lv' := [(0, .ref 3), (1, .ref a)]) (st' := [.int ((z3 - ((Int32.ofInt 1)))), .int ((Int32.ofInt 0)), .ref 3]) rfl ?_
  refine En_top (subI rfl (by decide : (Int32.ofInt 1).toInt = 1) (by omega) (by omega)) (fun z28 h29 => ?_)
  have := (by decide : ((Int32.ofInt 0)).toInt = 0)
  refine En_callV rfl rfl rfl rfl rfl rfl rfl rfl tgz_3 (by decide +kernel) rfl (c_58x σ13 h14 ((Int32.ofInt 0)) z28 f ((h15 _ _ (inW tgz_3 (by decide +kernel))).trans h_f) h21) (by decide) (by decide) (fun v31 σ32 h30 => ?_)
  obtain ⟨h33, h34, z36, h37, z38, rfl, h35⟩ := h30
  have h39 := h35.2.2.2.2.2.2.2.2.2
  have h40 := Fr_trans h18 h34 (by decide +kernel)
  have h41 : nH By Nb ((Int32.ofInt 0)).toInt z28.toInt S19 = nH By Nb (0) (Sp.2.2.2 2 - 1) S19 := nH_cg2 (fun zz => by omega) (fun zz => by omega)
  obtain ⟨S42, h43⟩ : ∃ q : PS, q = nH By Nb (0) (Sp.2.2.2 2 - 1) S19 := ⟨_, rfl⟩
  have h44 : CT By Nb σ32 S42 := by rw [h43]; exact (CT_eq h39.1 h41)
  have h45 := CT_k h44 h37
  have h46 : Imp (S42.1 = 0) (z38.toInt = tV By Nb S19.2.2.1) := fun z => Imp_m h39.2 (by rw [h41, ← h43]; exact z)
  have h47 : Imp (S42.1 = 0) (S19.1 = 0 ∧ tK By Nb S19.2.2.1 = 2 ∧ 0 ≤ tV By Nb S19.2.2.1 ∧ tV By Nb S19.2.2.1 ≤ Sp.2.2.2 2 - 1) := fun z => nH_gg (by rw [← h43]; exact z)
  have h48 : S42.2.2.2 = S19.2.2.2 := by rw [h43]; exact nH_w
  have h49 := KN_fr hP h25 h34 (by decide +kernel)
  have h50 : S42.2.2.2 = Sp.2.2.2 := h48.trans h26
  have o51 : OUT σ0 σ32 a := OUT_fr o27 h34 (by decide +kernel)
  have h52 := Imp_m h35.2.2.2.2.2.2.2.1 (by omega)
  have h53 := Imp_m h35.2.2.2.2.2.2.2.2.1 (by omega)
  refine En_Ps 2 (pc' := 17) (lv' := [(2, .int z38), (0, .ref 3), (1, .ref a)]) (st' := [.ref 3]) rfl ?_
  refine En_getK (j := 5) h37 rfl rfl rfl tgz_3 (by decide +kernel) ?_
  refine En_iEq _ rfl rfl (fun h54 => ?_) (fun h54 => ?_)
  · have h55 := Imp_m h35.2.2.2.2.2.1 (by omega)
    try have h56 := Imp_m h47 (by omega)
    try have h57 := Imp_m h46 (by omega)
    refine En_Ps 1 (pc' := 25) (lv' := [(2, .int z38), (0, .ref 3), (1, .ref a)]) (st' := [.ref a]) rfl ?_
    refine En_getR (j := 4) (g' := 19) (u := 0) rfl rfl rfl ha (by decide +kernel) h33 (by decide +kernel) (fun a59 h58 ha59 => ?_)
    refine En_Ps 1 (pc' := 29) (lv' := [(2, .int z38), (0, .ref 3), (1, .ref a)]) (st' := [.int z38, .ref a59]) rfl ?_
    refine En_aald (g' := 28) (u := 0) rfl rfl ha59 (by decide +kernel) h33 (by omega) (lnI (by decide +kernel : LN _ = 4) (by omega)) (FTsgl (by decide +kernel)) (fun a61 h60 ha61 => ?_)
    have h62 := DRc (d := z38.toInt) (FXP_fr hP hX h40 (by decide +kernel)) h58 h60 (by omega) (by omega)
    have h63 := lc_d (d := z38.toInt) (by omega) (by omega)
    refine En_getR (j := 0) (g' := 20) (u := 0) rfl rfl rfl ha61 (by decide +kernel) h33 (by decide +kernel) (fun a65 h64 ha65 => ?_)
    have h66 := DLc (d := z38.toInt) (FXP_fr hP hX h40 (by decide +kernel)) h62 h64 (by omega) (by omega)
    refine En_Ps 2 (pc' := 35) (lv' := [(3, .ref a65), (2, .int z38), (0, .ref 3), (1, .ref a)]) (st' := [.ref a65]) rfl ?_
    refine En_getI (j := 2) (l := 0) (u := 13) rfl rfl rfl ha65 (by decide +kernel) h33 (by decide +kernel) (fun z68 h67 h69 h70 => ?_)
    have h71 : Sp.2.2.2 (12 + 4 * z38.toInt) = z68.toInt := KN_v h49 (Or.inr (Or.inl ⟨by omega, by omega, by omega⟩)) (by omega) (by omega) (by omega) (by omega) h67
    have h72 : z38.toInt = (tV By Nb S19.2.2.1) := by omega
    rw [h72] at h71
    refine En_Ps 1 (pc' := 40) (lv' := [(3, .ref a65), (2, .int z38), (0, .ref 3), (1, .ref a)]) (st' := [.int (((Int8.ofInt 12).toInt32)), .int z68]) rfl ?_
    refine En_icLt _ rfl (by decide : ((Int8.ofInt 12).toInt32).toInt = 12) rfl (fun h73 => ?_) (fun h73 => ?_)
    · refine En_Ps 1 (pc' := 50) (lv' := [(3, .ref a65), (2, .int z38), (0, .ref 3), (1, .ref a)]) (st' := [.ref 3]) rfl ?_
      obtain ⟨z75, h74, h76, h77⟩ := WT_peekI h33 tgz_3 (by decide +kernel : FT 3 3 = (0, 0, 1600)) (by decide +kernel)
      refine En_callV rfl rfl rfl rfl rfl rfl rfl rfl tgz_3 (by decide +kernel) rfl (c_72x σ32 h33 z75 h74 h44.1 (CT_at h44 (by omega) h74)) (by decide) (by decide) (fun v79 σ80 h78 => ?_)
      obtain ⟨h81, h82, rfl, h83⟩ := h78
      have h84 := h83
      have h85 := Fr_trans h40 h82 (by decide +kernel)
      obtain ⟨S86, h87⟩ : ∃ q : PS, q = adv By Nb S42 := ⟨_, rfl⟩
      have h88 : CT By Nb σ80 S86 := by rw [h87]; exact (CT_adv h44 (by omega) h74 h82 (by decide +kernel) h84.2)
      have h89 := CT_k h88 ((h82 _ _ (inW tgz_3 (by decide +kernel))).trans h37)
      have h90 : S86.2.2.2 = S42.2.2.2 := by rw [h87]; exact adv_w
      have h91 : S86.1 = S42.1 := by rw [h87]; exact adv_1
      have h92 := KN_fr hP h49 h82 (by decide +kernel)
      have h93 : S86.2.2.2 = Sp.2.2.2 := h90.trans h50
      have o94 : OUT σ0 σ80 a := OUT_fr o51 h82 (by decide +kernel)
      refine En_Ps 3 (pc' := 56) (lv' := [(3, .ref a65), (2, .int z38), (0, .ref 3), (1, .ref a)]) (st' := [.ref a65, .ref a, .ref 3]) rfl ?_
      refine En_callV rfl rfl rfl rfl rfl rfl rfl rfl tgz_3 (by decide +kernel) rfl (c_69x σ80 h81 a ha a65 ha65 z36 ((h82 _ _ (inW tgz_3 (by decide +kernel))).trans h37) sg ((h82 _ _ (inW ha (by decide +kernel))).trans ((h34 _ _ (inW ha (by decide +kernel))).trans ((h15 _ _ (inW ha (by decide +kernel))).trans h_sg))) (by omega) h88 (by omega) hP (FXP_fr hP hX h85 (by decide +kernel)) (by rw [h93]; exact h92) (show LSN σ80 a a65 S86.2.2.2 (26 + 24 * (tV By Nb S19.2.2.1) + 2 * Sp.2.2.2 (12 + 4 * (tV By Nb S19.2.2.1))) (12 + 4 * (tV By Nb S19.2.2.1)) from by rw [h93]; exact LSN_d (FXP_fr hP hX h85 (by decide +kernel)) (by omega) (by omega) (by omega) (by rw [← h72]; exact h66) rfl (by omega) (by omega))) (by decide) (by decide) (fun v96 σ97 h95 => ?_)
      obtain ⟨h98, h99, z101, h102, rfl, h100⟩ := h95
      have h103 := h100.2.2.2.2.2
      have h104 := Fr_trans h85 h99 (by decide +kernel)
      obtain ⟨S105, h106⟩ : ∃ q : PS, q = fSaid By Nb (26 + 24 * (tV By Nb S19.2.2.1) + 2 * Sp.2.2.2 (12 + 4 * (tV By Nb S19.2.2.1))) (12 + 4 * (tV By Nb S19.2.2.1)) S86 := ⟨_, rfl⟩
      have h107 : CT By Nb σ97 S105 := by rw [h106]; exact h103.1
      have h108 := CT_k h107 h102
      have o109 : OUT σ0 σ97 a := OUT_tr o94 h100.1
      have h110 : fLesson By Nb Sp = S105 := by unfold fLesson; (try dsimp only); first | (rw [← h20, ← h43, ← h87, ← h106]; first | done | rfl) | (rw [← h20, ← h43, ← h87, ← h106]; rw [if_pos (by omega)]; first | done | rfl) | (rw [← h20, ← h43, ← h87, ← h106]; rw [if_neg (by omega)]; first | done | rfl) | (rw [← h20, ← h43, ← h87, ← h106]; rw [if_neg (by omega), if_pos (by omega)]; first | done | rfl) | (rw [← h20, ← h43, ← h87, ← h106]; rw [if_neg (by omega), if_neg (by omega)]; first | done | rfl) | (rw [← h20, ← h43, ← h87, ← h106]; rw [if_neg (by omega), if_neg (by omega), if_neg (by omega)]; first | done | rfl)
      exact En_ret (v := none) rfl rfl rfl ⟨h98, h104, z101, h102, rfl, ⟨o109, by omega, by omega, by omega, by omega, (by rw [h110]; exact ⟨h107, fun zz => by exact (by rw [h106] at zz ⊢; exact KN_les (d := (tV By Nb S19.2.2.1)) zz (h103.2 zz) (by omega) (by omega) rfl rfl (by rw [h93]) (by omega))⟩)⟩⟩
    · refine En_Ps 2 (pc' := 45) (lv' := [(3, .ref a65), (2, .int z38), (0, .ref 3), (1, .ref a)]) (st' := [.int ((Int32.ofInt 3)), .ref 3]) rfl ?_
      have := (by decide : ((Int32.ofInt 3)).toInt = 3)
      refine En_callV rfl rfl rfl rfl rfl rfl rfl rfl tgz_3 (by decide +kernel) rfl (c_54x σ32 h33 ((Int32.ofInt 3)) (geI (by decide : (Int32.ofInt 3).toInt = 3) (by omega)) (leI (by decide : (Int32.ofInt 3).toInt = 3) (by omega)) z36 h37 h44) (by decide) (by decide) (fun v112 σ113 h111 => ?_)
      obtain ⟨h114, h115, z117, h118, rfl, h116⟩ := h111
      have h119 := h116.2.2.2.2.2
      have h120 := Fr_trans h40 h115 (by decide +kernel)
      obtain ⟨S121, h122⟩ : ∃ q : PS, q = err By Nb 3 S42 := ⟨_, rfl⟩
      have h123 : CT By Nb σ113 S121 := by rw [h122]; exact (CT_eq h119 (err_cg (by omega)))
      have h124 := CT_k h123 h118
      have h125 : S121.2.2.2 = S42.2.2.2 := by rw [h122]; exact err_w
      have h126 := KN_fr hP h49 h115 (by decide +kernel)
      have h127 : S121.2.2.2 = Sp.2.2.2 := h125.trans h50
      have o128 : OUT σ0 σ113 a := OUT_fr o51 h115 (by decide +kernel)
      have h129 := Imp_m h116.2.2.2.1 (by omega)
      have h130 : fLesson By Nb Sp = S121 := by unfold fLesson; (try dsimp only); first | (rw [← h20, ← h43, ← h122]; first | done | rfl) | (rw [← h20, ← h43, ← h122]; rw [if_pos (by omega)]; first | done | rfl) | (rw [← h20, ← h43, ← h122]; rw [if_neg (by omega)]; first | done | rfl) | (rw [← h20, ← h43, ← h122]; rw [if_neg (by omega), if_pos (by omega)]; first | done | rfl) | (rw [← h20, ← h43, ← h122]; rw [if_neg (by omega), if_neg (by omega)]; first | done | rfl) | (rw [← h20, ← h43, ← h122]; rw [if_neg (by omega), if_neg (by omega), if_neg (by omega)]; first | done | rfl)
      exact En_ret (v := none) rfl rfl rfl ⟨h114, h120, z117, h118, rfl, ⟨o128, by omega, by omega, by omega, by omega, (by rw [h130]; exact ⟨h123, fun z => absurd z (by omega)⟩)⟩⟩
  · have h131 := Imp_m h35.2.2.2.2.2.2.1 (by omega)
    have h132 : fLesson By Nb Sp = S42 := by unfold fLesson; (try dsimp only); first | (rw [← h20, ← h43]; first | done | rfl) | (rw [← h20, ← h43]; rw [if_pos (by omega)]; first | done | rfl) | (rw [← h20, ← h43]; rw [if_neg (by omega)]; first | done | rfl) | (rw [← h20, ← h43]; rw [if_neg (by omega), if_pos (by omega)]; first | done | rfl) | (rw [← h20, ← h43]; rw [if_neg (by omega), if_neg (by omega)]; first | done | rfl) | (rw [← h20, ← h43]; rw [if_neg (by omega), if_neg (by omega), if_neg (by omega)]; first | done | rfl)
    exact En_ret (v := none) rfl rfl rfl ⟨h33, h40, z36, h37, rfl, ⟨o51, by omega, by omega, by omega, by omega, (by rw [h132]; exact ⟨h44, fun z => absurd z (by omega)⟩)⟩⟩
/-- DoorSchool$Reader.readExam(LDoorSchool$Plan;)V -/
abbrev P_64x (σ0 : SG) (By : Int → Int) (Nb : Int) (Sp : PS) (a : Nat) (f : Int32) (sg : Int32) : PO := fun v σ => WT σ ∧ Fr [(3, 1), (3, 2), (3, 3), (3, 4), (3, 5), (3, 6), (20, 2), (21, 0), (22, 0)] σ0 σ ∧ ∃ f1 : Int32, (σ 3)[5]? = some (.int f1) ∧ v = none ∧ OUT σ0 σ a ∧ -f1.toInt ≤ 0 ∧ f1.toInt - 3 ≤ 0 ∧ -f1.toInt + f.toInt ≤ 0 ∧ f.toInt - f1.toInt ≤ 0 ∧ (CT By Nb σ (fExam By Nb Sp) ∧ ((fExam By Nb Sp).1 = 0 → KN σ a (fExam By Nb Sp).2.2.2 (act (fExam By Nb Sp).2.2.2)))
set_option maxRecDepth 10000 in
set_option maxHeartbeats 4000000 in
theorem c_64x {By : Int → Int} {Nb : Int} {Sp : PS} (σ0 : SG) (hσ0 : WT σ0) (a : Nat) (ha : TG a = 18) (f : Int32) (h_f : (σ0 3)[5]? = some (.int f)) (sg : Int32) (h_sg : (σ0 a)[1]? = some (.int sg)) (hp0 : -sg.toInt ≤ 0) (hC : CT By Nb σ0 Sp) (hg : Sp.1 = 0) (hP : PLA a) (hX : FXP σ0 a) (hK : KN σ0 a Sp.2.2.2 (act Sp.2.2.2)) : En 6 136 none mr_64 (P_64x σ0 By Nb Sp a f sg) 0 [(0, .ref 3), (1, .ref a)] [] σ0 := by
  obtain ⟨hl_f, hu_f⟩ := WT_int hσ0 (g := 3) (by decide +kernel) (by decide +kernel) (l := 0) (u := 3) (by decide +kernel) h_f
  obtain ⟨hl_sg, hu_sg⟩ := WT_int hσ0 (g := 18) ha (by decide +kernel) (l := (-1)) (u := 4) (by decide +kernel) h_sg
  have hF0 : Fr [(3, 1), (3, 2), (3, 3), (3, 4), (3, 5), (3, 6), (20, 2), (21, 0), (22, 0)] σ0 σ0 := Fr_rfl
  have h1 := CT_k hC h_f
  refine En_Ps 1 (pc' := 1) (lv' := [(0, .ref 3), (1, .ref a)]) (st' := [.ref a]) rfl ?_
  refine En_getR (j := 5) (g' := 20) (u := 0) rfl rfl rfl ha (by decide +kernel) hσ0 (by decide +kernel) (fun a3 h2 ha3 => ?_)
  refine En_getI (j := 2) (l := 0) (u := 13) rfl rfl rfl ha3 (by decide +kernel) hσ0 (by decide +kernel) (fun z5 h4 h6 h7 => ?_)
  have h8 : a3 = a + 2 := ref_uniq h2 hX.2.1
  have h9 : Sp.2.2.2 3 = z5.toInt := KN_v hK (Or.inl (by decide)) (by decide) (by decide) (by rw [lcO_3]; exact h8) (by decide) h4
  refine En_Ps 1 (pc' := 9) (lv' := [(0, .ref 3), (1, .ref a)]) (st' := [.int (((Int8.ofInt 12).toInt32)), .int z5]) rfl ?_
  refine En_icLt _ rfl (by decide : ((Int8.ofInt 12).toInt32).toInt = 12) rfl (fun h10 => ?_) (fun h10 => ?_)
  · refine En_Ps 1 (pc' := 19) (lv' := [(0, .ref 3), (1, .ref a)]) (st' := [.ref 3]) rfl ?_
    obtain ⟨z12, h11, h13, h14⟩ := WT_peekI hσ0 tgz_3 (by decide +kernel : FT 3 3 = (0, 0, 1600)) (by decide +kernel)
    refine En_callV rfl rfl rfl rfl rfl rfl rfl rfl tgz_3 (by decide +kernel) rfl (c_72x σ0 hσ0 z12 h11 hC.1 (CT_at hC (by omega) h11)) (by decide) (by decide) (fun v16 σ17 h15 => ?_)
    obtain ⟨h18, h19, rfl, h20⟩ := h15
    have h21 := h20
    have h22 := Fr_trans hF0 h19 (by decide +kernel)
    obtain ⟨S23, h24⟩ : ∃ q : PS, q = adv By Nb Sp := ⟨_, rfl⟩
    have h25 : CT By Nb σ17 S23 := by rw [h24]; exact (CT_adv hC (by omega) h11 h19 (by decide +kernel) h21.2)
    have h26 := CT_k h25 ((h19 _ _ (inW tgz_3 (by decide +kernel))).trans h_f)
    have h27 : S23.2.2.2 = Sp.2.2.2 := by rw [h24]; exact adv_w
    have h28 : S23.1 = Sp.1 := by rw [h24]; exact adv_1
    have h29 := KN_fr hP hK h19 (by decide +kernel)
    have h30 : S23.2.2.2 = Sp.2.2.2 := h27.trans (rfl : Sp.2.2.2 = Sp.2.2.2)
    have o31 : OUT σ0 σ17 a := OUT_fr OUT_0 h19 (by decide +kernel)
    refine En_Ps 3 (pc' := 25) (lv' := [(0, .ref 3), (1, .ref a)]) (st' := [.ref a, .ref a, .ref 3]) rfl ?_
    refine En_getK (j := 5) ((h19 _ _ (inW ha (by decide +kernel))).trans h2) rfl rfl rfl ha (by decide +kernel) ?_
    refine En_callV rfl rfl rfl rfl rfl rfl rfl rfl tgz_3 (by decide +kernel) rfl (c_69x σ17 h18 a ha a3 ha3 f ((h19 _ _ (inW tgz_3 (by decide +kernel))).trans h_f) sg ((h19 _ _ (inW ha (by decide +kernel))).trans h_sg) (by omega) h25 (by omega) hP (FXP_fr hP hX h22 (by decide +kernel)) (by rw [h30]; exact h29) (show LSN σ17 a a3 S23.2.2.2 (122 + 2 * Sp.2.2.2 3) 3 from by rw [h30]; exact LSN_e (FXP_fr hP hX h22 (by decide +kernel)) h8 rfl (by omega) (by omega))) (by decide) (by decide) (fun v33 σ34 h32 => ?_)
    obtain ⟨h35, h36, z38, h39, rfl, h37⟩ := h32
    have h40 := h37.2.2.2.2.2
    have h41 := Fr_trans h22 h36 (by decide +kernel)
    obtain ⟨S42, h43⟩ : ∃ q : PS, q = fSaid By Nb (122 + 2 * Sp.2.2.2 3) (3) S23 := ⟨_, rfl⟩
    have h44 : CT By Nb σ34 S42 := by rw [h43]; exact h40.1
    have h45 := CT_k h44 h39
    have o46 : OUT σ0 σ34 a := OUT_tr o31 h37.1
    have h47 : fExam By Nb Sp = S42 := by unfold fExam; (try dsimp only); first | (rw [← h24, ← h43]; first | done | rfl) | (rw [← h24, ← h43]; rw [if_pos (by omega)]; first | done | rfl) | (rw [← h24, ← h43]; rw [if_neg (by omega)]; first | done | rfl) | (rw [← h24, ← h43]; rw [if_neg (by omega), if_pos (by omega)]; first | done | rfl) | (rw [← h24, ← h43]; rw [if_neg (by omega), if_neg (by omega)]; first | done | rfl) | (rw [← h24, ← h43]; rw [if_neg (by omega), if_neg (by omega), if_neg (by omega)]; first | done | rfl)
    exact En_ret (v := none) rfl rfl rfl ⟨h35, h41, z38, h39, rfl, ⟨o46, by omega, by omega, by omega, by omega, (by rw [h47]; exact ⟨h44, fun zz => by exact (by rw [h43] at zz ⊢; exact KN_exm zz (h40.2 zz) rfl (by rw [h30]) (by omega))⟩)⟩⟩
  · refine En_Ps 2 (pc' := 14) (lv' := [(0, .ref 3), (1, .ref a)]) (st' := [.int ((Int32.ofInt 3)), .ref 3]) rfl ?_
    have := (by decide : ((Int32.ofInt 3)).toInt = 3)
    refine En_callV rfl rfl rfl rfl rfl rfl rfl rfl tgz_3 (by decide +kernel) rfl (c_54x σ0 hσ0 ((Int32.ofInt 3)) (geI (by decide : (Int32.ofInt 3).toInt = 3) (by omega)) (leI (by decide : (Int32.ofInt 3).toInt = 3) (by omega)) f h_f hC) (by decide) (by decide) (fun v49 σ50 h48 => ?_)
    obtain ⟨h51, h52, z54, h55, rfl, h53⟩ := h48
    have h56 := h53.2.2.2.2.2
    have h57 := Fr_trans hF0 h52 (by decide +kernel)
    obtain ⟨S58, h59⟩ : ∃ q : PS, q = err By Nb 3 Sp := ⟨_, rfl⟩
    have h60 : CT By Nb σ50 S58 := by rw [h59]; exact (CT_eq h56 (err_cg (by omega)))
    have h61 := CT_k h60 h55
    have h62 : S58.2.2.2 = Sp.2.2.2 := by rw [h59]; exact err_w
    have h63 := KN_fr hP hK h52 (by decide +kernel)
    have h64 : S58.2.2.2 = Sp.2.2.2 := h62.trans (rfl : Sp.2.2.2 = Sp.2.2.2)
    have o65 : OUT σ0 σ50 a := OUT_fr OUT_0 h52 (by decide +kernel)
    have h66 : fExam By Nb Sp = S58 := by unfold fExam; (try dsimp only); first | (rw [← h59]; first | done | rfl) | (rw [← h59]; rw [if_pos (by omega)]; first | done | rfl) | (rw [← h59]; rw [if_neg (by omega)]; first | done | rfl) | (rw [← h59]; rw [if_neg (by omega), if_pos (by omega)]; first | done | rfl) | (rw [← h59]; rw [if_neg (by omega), if_neg (by omega)]; first | done | rfl) | (rw [← h59]; rw [if_neg (by omega), if_neg (by omega), if_neg (by omega)]; first | done | rfl)
    exact En_ret (v := none) rfl rfl rfl ⟨h51, h57, z54, h55, rfl, ⟨o65, by omega, by omega, by omega, by omega, (by rw [h66]; exact ⟨h60, fun z => absurd z (by omega)⟩)⟩⟩

