/-- DoorSchool$Reader.pass(Z)V -/
abbrev P_59x (σ0 : SG) (By : Int → Int) (Nb : Int) (Sp : PS) (a : Int32) (f : Int32) : PO := fun v σ => WT σ ∧ Fr [(3, 1), (3, 2), (3, 3), (3, 4), (3, 5), (3, 6)] σ0 σ ∧ ∃ f1 : Int32, (σ 3)[5]? = some (.int f1) ∧ v = none ∧ -f1.toInt ≤ 0 ∧ f1.toInt - 3 ≤ 0 ∧ -f1.toInt + f.toInt ≤ 0 ∧ f1.toInt - f.toInt - 3 ≤ 0 ∧ Imp (-a.toInt + 1 ≤ 0) (f1.toInt - f.toInt ≤ 0 ∧ -f1.toInt + f.toInt ≤ 0) ∧ f.toInt - f1.toInt ≤ 0 ∧ Imp (a.toInt ≤ 0) (-f1.toInt + 1 ≤ 0) ∧ CT By Nb σ (pss By Nb a.toInt Sp)
set_option maxRecDepth 10000 in
set_option maxHeartbeats 4000000 in
theorem c_59x {By : Int → Int} {Nb : Int} {Sp : PS} (σ0 : SG) (hσ0 : WT σ0) (a : Int32) (hl_a : 0 ≤ a.toInt) (hu_a : a.toInt ≤ 1) (f : Int32) (h_f : (σ0 3)[5]? = some (.int f)) (hC : CT By Nb σ0 Sp) : En 2 42 none mr_59 (P_59x σ0 By Nb Sp a f) 0 [(0, .ref 3), (1, .int a)] [] σ0 := by
  obtain ⟨hl_f, hu_f⟩ := WT_int hσ0 (g := 3) (by decide +kernel) (by decide +kernel) (l := 0) (u := 3) (by decide +kernel) h_f
  have hF0 : Fr [(3, 1), (3, 2), (3, 3), (3, 4), (3, 5), (3, 6)] σ0 σ0 := Fr_rfl
  have h1 := CT_k hC h_f
  refine En_Ps 1 (pc' := 1) (lv' := [(0, .ref 3), (1, .int a)]) (st' := [.int a]) rfl ?_
  refine En_iNe _ rfl rfl (fun h2 => ?_) (fun h2 => ?_)
  · refine En_Ps 1 (pc' := 10) (lv' := [(0, .ref 3), (1, .int a)]) (st' := [.ref 3]) rfl ?_
    refine En_getK (j := 5) h_f rfl rfl rfl tgz_3 (by decide +kernel) ?_
    refine En_iNe _ rfl rfl (fun h3 => ?_) (fun h3 => ?_)
    · exact En_ret (v := none) rfl rfl rfl ⟨hσ0, hF0, f, h_f, rfl, ⟨by omega, by omega, by omega, by omega, fun _ => by omega, by omega, fun _ => by omega, (by first | exact CT_eq hC (pss_bad (by omega)).symm | exact CT_eq hC (psc_1 (by omega)) | exact CT_eq hC (psc_0 (by omega)))⟩⟩
    · refine En_Ps 1 (pc' := 17) (lv' := [(0, .ref 3), (1, .int a)]) (st' := [.ref 3]) rfl ?_
      obtain ⟨z5, h4, h6, h7⟩ := WT_peekI hσ0 tgz_3 (by decide +kernel : FT 3 3 = (0, 0, 1600)) (by decide +kernel)
      refine En_callV rfl rfl rfl rfl rfl rfl rfl rfl tgz_3 (by decide +kernel) rfl (c_72x σ0 hσ0 z5 h4 hC.1 (CT_at hC (by omega) h4)) (by decide) (by decide) (fun v9 σ10 h8 => ?_)
      obtain ⟨h11, h12, rfl, h13⟩ := h8
      have h14 := h13
      have h15 := Fr_trans hF0 h12 (by decide +kernel)
      obtain ⟨S16, h17⟩ : ∃ q : PS, q = adv By Nb Sp := ⟨_, rfl⟩
      have h18 : CT By Nb σ10 S16 := by rw [h17]; exact (CT_adv hC (by omega) h4 h12 (by decide +kernel) h14.2)
      have h19 := CT_k h18 ((h12 _ _ (inW tgz_3 (by decide +kernel))).trans h_f)
      have h20 : S16.2.2.2 = Sp.2.2.2 := by rw [h17]; exact adv_w
      have h21 : S16.1 = Sp.1 := by rw [h17]; exact adv_1
      exact En_ret (v := none) rfl rfl rfl ⟨h11, h15, f, ((h12 _ _ (inW tgz_3 (by decide +kernel))).trans h_f), rfl, ⟨by omega, by omega, by omega, by omega, fun _ => by omega, by omega, fun _ => by omega, (by subst h17; first | exact CT_eq h18 (pss_bad (by omega)).symm | exact CT_eq h18 (psc_1 (by omega)) | exact CT_eq h18 (psc_0 (by omega)))⟩⟩
  · refine En_Ps 2 (pc' := 6) (lv' := [(0, .ref 3), (1, .int a)]) (st' := [.int ((Int32.ofInt 1)), .ref 3]) rfl ?_
    have := (by decide : ((Int32.ofInt 1)).toInt = 1)
    refine En_callV rfl rfl rfl rfl rfl rfl rfl rfl tgz_3 (by decide +kernel) rfl (c_54x σ0 hσ0 ((Int32.ofInt 1)) (geI (by decide : (Int32.ofInt 1).toInt = 1) (by omega)) (leI (by decide : (Int32.ofInt 1).toInt = 1) (by omega)) f h_f hC) (by decide) (by decide) (fun v23 σ24 h22 => ?_)
    obtain ⟨h25, h26, z28, h29, rfl, h27⟩ := h22
    have h30 := h27.2.2.2.2.2.2
    have h31 := Fr_trans hF0 h26 (by decide +kernel)
    obtain ⟨S32, h33⟩ : ∃ q : PS, q = err By Nb 1 Sp := ⟨_, rfl⟩
    have h34 : CT By Nb σ24 S32 := by rw [h33]; exact (CT_eq h30 (err_cg (by omega)))
    have h35 := CT_k h34 h29
    have h36 : S32.2.2.2 = Sp.2.2.2 := by rw [h33]; exact err_w
    refine En_Ps 1 (pc' := 10) (lv' := [(0, .ref 3), (1, .int a)]) (st' := [.ref 3]) rfl ?_
    refine En_getK (j := 5) h29 rfl rfl rfl tgz_3 (by decide +kernel) ?_
    refine En_iNe _ rfl rfl (fun h37 => ?_) (fun hx => by exfalso; have := Imp_m h27.2.2.2.2.1 (by omega); have := Imp_m h27.2.2.2.2.2.1 (by omega); omega)
    exact En_ret (v := none) rfl rfl rfl ⟨h25, h31, z28, h29, rfl, ⟨by omega, by omega, by omega, by omega, fun _ => by omega, by omega, fun _ => by omega, (by subst h33; first | exact CT_eq h34 (pss_bad (by omega)).symm | exact CT_eq h34 (psc_1 (by omega)) | exact CT_eq h34 (psc_0 (by omega)))⟩⟩
/-- DoorSchool$Reader.stands(Ljava/lang/String;)Z -/
abbrev P_71s0x (σ0 : SG) (By : Int → Int) (Nb : Int) (Sp : PS) : PO := fun v σ => WT σ ∧ Fr [] σ0 σ ∧ ∃ ret : Int32, v = some (.int ret) ∧ -ret.toInt ≤ 0 ∧ ret.toInt - 1 ≤ 0 ∧ Imp (Sp.1 = 0) (ret.toInt = iW By Nb 0 Sp)
set_option maxRecDepth 10000 in
set_option maxHeartbeats 4000000 in
theorem c_71s0x {By : Int → Int} {Nb : Int} {Sp : PS} (σ0 : SG) (hσ0 : WT σ0) (hC : CT By Nb σ0 Sp) : En 4 90 none mr_71 (P_71s0x σ0 By Nb Sp) 0 [(0, .ref 3), (1, .retAddr 1)] [] σ0 := by
  have hF0 : Fr [] σ0 σ0 := Fr_rfl
  obtain ⟨z2, h1, h3, h4⟩ := WT_peekI hσ0 tgz_3 (by decide +kernel : FT 3 1 = (0, 0, 4)) (by decide +kernel)
  obtain ⟨z6, h5, h7, h8⟩ := WT_peekI hσ0 tgz_3 (by decide +kernel : FT 3 3 = (0, 0, 1600)) (by decide +kernel)
  obtain ⟨z10, h9, h11, h12⟩ := WT_peekI hσ0 tgz_3 (by decide +kernel : FT 3 2 = (0, 0, 1600)) (by decide +kernel)
  have h13 : Imp (Sp.1 = 0) (tK By Nb Sp.2.2.1 = z2.toInt) := CT_t hC h1
  refine En_Ps 1 (pc' := 1) (lv' := [(0, .ref 3), (1, .retAddr 1)]) (st' := [.ref 3]) rfl ?_
  refine En_getK (j := 1) h1 rfl rfl rfl tgz_3 (by decide +kernel) ?_
  refine En_Ps 1 (pc' := 5) (lv' := [(0, .ref 3), (1, .retAddr 1)]) (st' := [.int ((Int32.ofInt 1)), .int z2]) rfl ?_
  refine En_icNe _ rfl (by decide : (Int32.ofInt 1).toInt = 1) rfl (fun h14 => ?_) (fun h14 => ?_)
  · refine En_Ps 1 (pc' := 25) (lv' := [(0, .ref 3), (1, .retAddr 1)]) (st' := [.int ((Int32.ofInt 0))]) rfl ?_
    refine En_top (by decide : (Int32.ofInt 0).toInt = 0) (fun z15 h16 => ?_)
    exact En_ret (v := some (.int z15)) rfl rfl (retZ rfl rfl (by omega) (by omega)) ⟨hσ0, hF0, z15, rfl, ⟨by omega, by omega, fun z => by have q1 := CT_t hC h1 z; have q2 := CT_fa hC h5 h9 z; have q := iW_0 (By := By) (Nb := Nb) (i := 0) (S := Sp) (by simp only [LWl]; omega); omega⟩⟩
  · refine En_Ps 1 (pc' := 9) (lv' := [(0, .ref 3), (1, .retAddr 1)]) (st' := [.ref 3]) rfl ?_
    refine En_getK (j := 3) h5 rfl rfl rfl tgz_3 (by decide +kernel) ?_
    refine En_Ps 1 (pc' := 13) (lv' := [(0, .ref 3), (1, .retAddr 1)]) (st' := [.ref 3, .int z6]) rfl ?_
    refine En_getK (j := 2) h9 rfl rfl rfl tgz_3 (by decide +kernel) ?_
    refine En_Ps 1 (pc' := 17) (lv' := [(0, .ref 3), (1, .retAddr 1)]) (st' := [.int ((z6 - z10))]) rfl ?_
    refine En_top (subI rfl rfl (by omega) (by omega)) (fun z17 h18 => ?_)
    refine En_Ps 1 (pc' := 18) (lv' := [(0, .ref 3), (1, .retAddr 1)]) (st' := [.retAddr 1, .int z17]) rfl ?_
    refine En_slen 0 5 rfl rfl (by decide) rfl ?_
    refine En_icEq _ rfl (by decide : (Int32.ofNat 5).toInt = 5) rfl (fun h19 => ?_) (fun h19 => ?_)
    · refine En_Ps 2 (pc' := 28) (lv' := [(2, .int ((Int32.ofInt 0))), (0, .ref 3), (1, .retAddr 1)]) (st' := []) rfl ?_
      have key28 : ∀ (n28 : Nat) (σ21 : SG) (y20 : Int32), WT σ21 → Fr [] σ0 σ21 → (σ21 3)[1]? = some (.int z2) → (σ21 3)[3]? = some (.int z6) → (σ21 3)[2]? = some (.int z10) → 0 ≤ y20.toInt → y20.toInt ≤ 5 → z6.toInt - y20.toInt < (n28 : Int) → Imp (Sp.1 = 0) (ISQ By Nb 0 Sp 1 y20.toInt) → En 4 90 none mr_71 (P_71s0x σ0 By Nb Sp) 28 [(0, .ref 3), (1, .retAddr 1), (2, .int y20)] [] σ21 := by
        intro n28
        induction n28 with
        | zero =>
          intro σ21 y20 h22 h23 h24 h25 h26 h27 h28 h29 h30
          exfalso; omega
        | succ n28 ih28 =>
          intro σ21 y20 h22 h23 h24 h25 h26 h27 h28 h29 h30
          refine En_Ps 2 (pc' := 30) (lv' := [(0, .ref 3), (1, .retAddr 1), (2, .int y20)]) (st' := [.retAddr 1, .int y20]) rfl ?_
          refine En_slen 0 5 rfl rfl (by decide) rfl ?_
          refine En_icGe _ rfl (by decide : (Int32.ofNat 5).toInt = 5) rfl (fun h31 => ?_) (fun h31 => ?_)
          · refine En_Ps 1 (pc' := 67) (lv' := [(0, .ref 3), (1, .retAddr 1), (2, .int y20)]) (st' := [.int ((Int32.ofInt 1))]) rfl ?_
            refine En_top (by decide : (Int32.ofInt 1).toInt = 1) (fun z32 h33 => ?_)
            exact En_ret (v := some (.int z32)) rfl rfl (retZ rfl rfl (by omega) (by omega)) ⟨h22, h23, z32, rfl, ⟨by omega, by omega, fun z => by have q := ISQ_x (Imp_m h30 z) (Or.inr (by simp only [LWl]; omega)); omega⟩⟩
          · refine En_Ps 1 (pc' := 37) (lv' := [(0, .ref 3), (1, .retAddr 1), (2, .int y20)]) (st' := [.ref 3]) rfl ?_
            refine En_getU (j := 0) (u := 1) (g' := 1) (q := 0) rfl rfl rfl tgz_3 (by decide +kernel) h22 (by decide +kernel) (by decide +kernel) (fun h34 => ?_)
            refine En_getU (j := 0) (u := 2) (g' := 2) (q := 0) rfl rfl rfl tgz_1 (by decide +kernel) h22 (by decide +kernel) (by decide +kernel) (fun h36 => ?_)
            refine En_Ps 1 (pc' := 44) (lv' := [(0, .ref 3), (1, .retAddr 1), (2, .int y20)]) (st' := [.ref 3, .ref 2]) rfl ?_
            refine En_getK (j := 2) h26 rfl rfl rfl tgz_3 (by decide +kernel) ?_
            refine En_Ps 2 (pc' := 49) (lv' := [(0, .ref 3), (1, .retAddr 1), (2, .int y20)]) (st' := [.int ((z10 + y20)), .ref 2]) rfl ?_
            refine En_top (addI rfl rfl (by omega) (by omega)) (fun z38 h39 => ?_)
            refine En_bald (l := (-128)) (u := 127) rfl rfl tgz_2 (by decide +kernel) h22 (by omega) (lnI (by decide +kernel : LN _ = 1600) (by omega)) (FTsgl (by decide +kernel)) (fun z41 h40 h42 h43 => ?_)
            refine En_Ps 2 (pc' := 52) (lv' := [(0, .ref 3), (1, .retAddr 1), (2, .int y20)]) (st' := [.int y20, .retAddr 1, .int z41]) rfl ?_
            refine En_scharX 0 5 rfl rfl rfl (by decide) (by omega) (by omega) rfl (fun z44 h45 h46 h47 => ?_)
            refine En_icEq _ rfl rfl rfl (fun h48 => ?_) (fun h48 => ?_)
            · refine En_Ps 1 (pc' := 63) (lv' := [(2, .int ((y20 + Int32.ofInt 1))), (0, .ref 3), (1, .retAddr 1)]) (st' := []) rfl ?_
              refine En_lv1 (addI rfl (by decide : (Int32.ofInt 1).toInt = 1) (by omega) (by omega)) (fun z49 h50 => ?_)
              refine En_Ps 1 (pc' := 28) (lv' := [(2, .int z49), (0, .ref 3), (1, .retAddr 1)]) (st' := []) rfl ?_
              refine En_lv (lv := [(0, .ref 3), (1, .retAddr 1), (2, .int z49)]) ⟨rfl, rfl, rfl, trivial⟩ ?_
              exact ih28 σ21 z49 h22 h23 h24 h25 h26 (by omega) (by omega) (by omega) (fun z => by have q1 := CT_t hC h1 z; have q2 := CT_fa hC h5 h9 z; exact ISQc_n (CT_fr hC h23 (by decide +kernel)) (Imp_m h30 z) (by simp only [LWl]; omega) (by omega) h40 h47 (by omega) (by omega))
            · refine En_Ps 1 (pc' := 59) (lv' := [(0, .ref 3), (1, .retAddr 1), (2, .int y20)]) (st' := [.int ((Int32.ofInt 0))]) rfl ?_
              refine En_top (by decide : (Int32.ofInt 0).toInt = 0) (fun z51 h52 => ?_)
              exact En_ret (v := some (.int z51)) rfl rfl (retZ rfl rfl (by omega) (by omega)) ⟨h22, h23, z51, rfl, ⟨by omega, by omega, fun z => by have q1 := CT_t hC h1 z; have q2 := CT_fa hC h5 h9 z; have q := ISQc_n (b' := 0) (CT_fr hC h23 (by decide +kernel)) (Imp_m h30 z) (by simp only [LWl]; omega) (by omega) h40 h47 rfl (Or.inr ⟨rfl, by omega⟩); have q2 := ISQ_x q (Or.inl rfl); omega⟩⟩
      have := (by decide : (Int32.ofInt 0).toInt = 0)
      refine En_lv (lv := [(0, .ref 3), (1, .retAddr 1), (2, .int ((Int32.ofInt 0)))]) ⟨rfl, rfl, rfl, trivial⟩ ?_
      exact key28 (Int.toNat (z6.toInt) + 1) σ0 ((Int32.ofInt 0)) hσ0 hF0 h1 h5 h9 (by omega) (by omega) (by omega) (fun z => by have q1 := CT_t hC h1 z; have q2 := CT_fa hC h5 h9 z; exact ISQc_s (by decide) z (by omega) (by simp only [LWl]; omega))
    · refine En_Ps 1 (pc' := 25) (lv' := [(0, .ref 3), (1, .retAddr 1)]) (st' := [.int ((Int32.ofInt 0))]) rfl ?_
      refine En_top (by decide : (Int32.ofInt 0).toInt = 0) (fun z53 h54 => ?_)
      exact En_ret (v := some (.int z53)) rfl rfl (retZ rfl rfl (by omega) (by omega)) ⟨hσ0, hF0, z53, rfl, ⟨by omega, by omega, fun z => by have q1 := CT_t hC h1 z; have q2 := CT_fa hC h5 h9 z; have q := iW_0 (By := By) (Nb := Nb) (i := 0) (S := Sp) (by simp only [LWl]; omega); omega⟩⟩
/-- DoorSchool$Reader.stands(Ljava/lang/String;)Z -/
abbrev P_71s1x (σ0 : SG) (By : Int → Int) (Nb : Int) (Sp : PS) : PO := fun v σ => WT σ ∧ Fr [] σ0 σ ∧ ∃ ret : Int32, v = some (.int ret) ∧ -ret.toInt ≤ 0 ∧ ret.toInt - 1 ≤ 0 ∧ Imp (Sp.1 = 0) (ret.toInt = iW By Nb 1 Sp)
set_option maxRecDepth 10000 in
set_option maxHeartbeats 4000000 in
theorem c_71s1x {By : Int → Int} {Nb : Int} {Sp : PS} (σ0 : SG) (hσ0 : WT σ0) (hC : CT By Nb σ0 Sp) : En 4 90 none mr_71 (P_71s1x σ0 By Nb Sp) 0 [(0, .ref 3), (1, .retAddr 3)] [] σ0 := by
  have hF0 : Fr [] σ0 σ0 := Fr_rfl
  obtain ⟨z2, h1, h3, h4⟩ := WT_peekI hσ0 tgz_3 (by decide +kernel : FT 3 1 = (0, 0, 4)) (by decide +kernel)
  obtain ⟨z6, h5, h7, h8⟩ := WT_peekI hσ0 tgz_3 (by decide +kernel : FT 3 3 = (0, 0, 1600)) (by decide +kernel)
  obtain ⟨z10, h9, h11, h12⟩ := WT_peekI hσ0 tgz_3 (by decide +kernel : FT 3 2 = (0, 0, 1600)) (by decide +kernel)
  have h13 : Imp (Sp.1 = 0) (tK By Nb Sp.2.2.1 = z2.toInt) := CT_t hC h1
  refine En_Ps 1 (pc' := 1) (lv' := [(0, .ref 3), (1, .retAddr 3)]) (st' := [.ref 3]) rfl ?_
  refine En_getK (j := 1) h1 rfl rfl rfl tgz_3 (by decide +kernel) ?_
  refine En_Ps 1 (pc' := 5) (lv' := [(0, .ref 3), (1, .retAddr 3)]) (st' := [.int ((Int32.ofInt 1)), .int z2]) rfl ?_
  refine En_icNe _ rfl (by decide : (Int32.ofInt 1).toInt = 1) rfl (fun h14 => ?_) (fun h14 => ?_)
  · refine En_Ps 1 (pc' := 25) (lv' := [(0, .ref 3), (1, .retAddr 3)]) (st' := [.int ((Int32.ofInt 0))]) rfl ?_
    refine En_top (by decide : (Int32.ofInt 0).toInt = 0) (fun z15 h16 => ?_)
    exact En_ret (v := some (.int z15)) rfl rfl (retZ rfl rfl (by omega) (by omega)) ⟨hσ0, hF0, z15, rfl, ⟨by omega, by omega, fun z => by have q1 := CT_t hC h1 z; have q2 := CT_fa hC h5 h9 z; have q := iW_0 (By := By) (Nb := Nb) (i := 1) (S := Sp) (by simp only [LWl]; omega); omega⟩⟩
  · refine En_Ps 1 (pc' := 9) (lv' := [(0, .ref 3), (1, .retAddr 3)]) (st' := [.ref 3]) rfl ?_
    refine En_getK (j := 3) h5 rfl rfl rfl tgz_3 (by decide +kernel) ?_
    refine En_Ps 1 (pc' := 13) (lv' := [(0, .ref 3), (1, .retAddr 3)]) (st' := [.ref 3, .int z6]) rfl ?_
    refine En_getK (j := 2) h9 rfl rfl rfl tgz_3 (by decide +kernel) ?_
    refine En_Ps 1 (pc' := 17) (lv' := [(0, .ref 3), (1, .retAddr 3)]) (st' := [.int ((z6 - z10))]) rfl ?_
    refine En_top (subI rfl rfl (by omega) (by omega)) (fun z17 h18 => ?_)
    refine En_Ps 1 (pc' := 18) (lv' := [(0, .ref 3), (1, .retAddr 3)]) (st' := [.retAddr 3, .int z17]) rfl ?_
    refine En_slen 1 6 rfl rfl (by decide) rfl ?_
    refine En_icEq _ rfl (by decide : (Int32.ofNat 6).toInt = 6) rfl (fun h19 => ?_) (fun h19 => ?_)
    · refine En_Ps 2 (pc' := 28) (lv' := [(2, .int ((Int32.ofInt 0))), (0, .ref 3), (1, .retAddr 3)]) (st' := []) rfl ?_
      have key28 : ∀ (n28 : Nat) (σ21 : SG) (y20 : Int32), WT σ21 → Fr [] σ0 σ21 → (σ21 3)[1]? = some (.int z2) → (σ21 3)[3]? = some (.int z6) → (σ21 3)[2]? = some (.int z10) → 0 ≤ y20.toInt → y20.toInt ≤ 6 → z6.toInt - y20.toInt < (n28 : Int) → Imp (Sp.1 = 0) (ISQ By Nb 1 Sp 1 y20.toInt) → En 4 90 none mr_71 (P_71s1x σ0 By Nb Sp) 28 [(0, .ref 3), (1, .retAddr 3), (2, .int y20)] [] σ21 := by
        intro n28
        induction n28 with
        | zero =>
          intro σ21 y20 h22 h23 h24 h25 h26 h27 h28 h29 h30
          exfalso; omega
        | succ n28 ih28 =>
          intro σ21 y20 h22 h23 h24 h25 h26 h27 h28 h29 h30
          refine En_Ps 2 (pc' := 30) (lv' := [(0, .ref 3), (1, .retAddr 3), (2, .int y20)]) (st' := [.retAddr 3, .int y20]) rfl ?_
          refine En_slen 1 6 rfl rfl (by decide) rfl ?_
          refine En_icGe _ rfl (by decide : (Int32.ofNat 6).toInt = 6) rfl (fun h31 => ?_) (fun h31 => ?_)
          · refine En_Ps 1 (pc' := 67) (lv' := [(0, .ref 3), (1, .retAddr 3), (2, .int y20)]) (st' := [.int ((Int32.ofInt 1))]) rfl ?_
            refine En_top (by decide : (Int32.ofInt 1).toInt = 1) (fun z32 h33 => ?_)
            exact En_ret (v := some (.int z32)) rfl rfl (retZ rfl rfl (by omega) (by omega)) ⟨h22, h23, z32, rfl, ⟨by omega, by omega, fun z => by have q := ISQ_x (Imp_m h30 z) (Or.inr (by simp only [LWl]; omega)); omega⟩⟩
          · refine En_Ps 1 (pc' := 37) (lv' := [(0, .ref 3), (1, .retAddr 3), (2, .int y20)]) (st' := [.ref 3]) rfl ?_
            refine En_getU (j := 0) (u := 1) (g' := 1) (q := 0) rfl rfl rfl tgz_3 (by decide +kernel) h22 (by decide +kernel) (by decide +kernel) (fun h34 => ?_)
            refine En_getU (j := 0) (u := 2) (g' := 2) (q := 0) rfl rfl rfl tgz_1 (by decide +kernel) h22 (by decide +kernel) (by decide +kernel) (fun h36 => ?_)
            refine En_Ps 1 (pc' := 44) (lv' := [(0, .ref 3), (1, .retAddr 3), (2, .int y20)]) (st' := [.ref 3, .ref 2]) rfl ?_
            refine En_getK (j := 2) h26 rfl rfl rfl tgz_3 (by decide +kernel) ?_
            refine En_Ps 2 (pc' := 49) (lv' := [(0, .ref 3), (1, .retAddr 3), (2, .int y20)]) (st' := [.int ((z10 + y20)), .ref 2]) rfl ?_
            refine En_top (addI rfl rfl (by omega) (by omega)) (fun z38 h39 => ?_)
            refine En_bald (l := (-128)) (u := 127) rfl rfl tgz_2 (by decide +kernel) h22 (by omega) (lnI (by decide +kernel : LN _ = 1600) (by omega)) (FTsgl (by decide +kernel)) (fun z41 h40 h42 h43 => ?_)
            refine En_Ps 2 (pc' := 52) (lv' := [(0, .ref 3), (1, .retAddr 3), (2, .int y20)]) (st' := [.int y20, .retAddr 3, .int z41]) rfl ?_
            refine En_scharX 1 6 rfl rfl rfl (by decide) (by omega) (by omega) rfl (fun z44 h45 h46 h47 => ?_)
            refine En_icEq _ rfl rfl rfl (fun h48 => ?_) (fun h48 => ?_)
            · refine En_Ps 1 (pc' := 63) (lv' := [(2, .int ((y20 + Int32.ofInt 1))), (0, .ref 3), (1, .retAddr 3)]) (st' := []) rfl ?_
              refine En_lv1 (addI rfl (by decide : (Int32.ofInt 1).toInt = 1) (by omega) (by omega)) (fun z49 h50 => ?_)
              refine En_Ps 1 (pc' := 28) (lv' := [(2, .int z49), (0, .ref 3), (1, .retAddr 3)]) (st' := []) rfl ?_
              refine En_lv (lv := [(0, .ref 3), (1, .retAddr 3), (2, .int z49)]) ⟨rfl, rfl, rfl, trivial⟩ ?_
              exact ih28 σ21 z49 h22 h23 h24 h25 h26 (by omega) (by omega) (by omega) (fun z => by have q1 := CT_t hC h1 z; have q2 := CT_fa hC h5 h9 z; exact ISQc_n (CT_fr hC h23 (by decide +kernel)) (Imp_m h30 z) (by simp only [LWl]; omega) (by omega) h40 h47 (by omega) (by omega))
            · refine En_Ps 1 (pc' := 59) (lv' := [(0, .ref 3), (1, .retAddr 3), (2, .int y20)]) (st' := [.int ((Int32.ofInt 0))]) rfl ?_
              refine En_top (by decide : (Int32.ofInt 0).toInt = 0) (fun z51 h52 => ?_)
              exact En_ret (v := some (.int z51)) rfl rfl (retZ rfl rfl (by omega) (by omega)) ⟨h22, h23, z51, rfl, ⟨by omega, by omega, fun z => by have q1 := CT_t hC h1 z; have q2 := CT_fa hC h5 h9 z; have q := ISQc_n (b' := 0) (CT_fr hC h23 (by decide +kernel)) (Imp_m h30 z) (by simp only [LWl]; omega) (by omega) h40 h47 rfl (Or.inr ⟨rfl, by omega⟩); have q2 := ISQ_x q (Or.inl rfl); omega⟩⟩
      have := (by decide : (Int32.ofInt 0).toInt = 0)
      refine En_lv (lv := [(0, .ref 3), (1, .retAddr 3), (2, .int ((Int32.ofInt 0)))]) ⟨rfl, rfl, rfl, trivial⟩ ?_
      exact key28 (Int.toNat (z6.toInt) + 1) σ0 ((Int32.ofInt 0)) hσ0 hF0 h1 h5 h9 (by omega) (by omega) (by omega) (fun z => by have q1 := CT_t hC h1 z; have q2 := CT_fa hC h5 h9 z; exact ISQc_s (by decide) z (by omega) (by simp only [LWl]; omega))
    · refine En_Ps 1 (pc' := 25) (lv' := [(0, .ref 3), (1, .retAddr 3)]) (st' := [.int ((Int32.ofInt 0))]) rfl ?_
      refine En_top (by decide : (Int32.ofInt 0).toInt = 0) (fun z53 h54 => ?_)
      exact En_ret (v := some (.int z53)) rfl rfl (retZ rfl rfl (by omega) (by omega)) ⟨hσ0, hF0, z53, rfl, ⟨by omega, by omega, fun z => by have q1 := CT_t hC h1 z; have q2 := CT_fa hC h5 h9 z; have q := iW_0 (By := By) (Nb := Nb) (i := 1) (S := Sp) (by simp only [LWl]; omega); omega⟩⟩
/-- DoorSchool$Reader.stands(Ljava/lang/String;)Z -/
abbrev P_71s2x (σ0 : SG) (By : Int → Int) (Nb : Int) (Sp : PS) : PO := fun v σ => WT σ ∧ Fr [] σ0 σ ∧ ∃ ret : Int32, v = some (.int ret) ∧ -ret.toInt ≤ 0 ∧ ret.toInt - 1 ≤ 0 ∧ Imp (Sp.1 = 0) (ret.toInt = iW By Nb 2 Sp)
set_option maxRecDepth 10000 in
set_option maxHeartbeats 4000000 in
theorem c_71s2x {By : Int → Int} {Nb : Int} {Sp : PS} (σ0 : SG) (hσ0 : WT σ0) (hC : CT By Nb σ0 Sp) : En 4 90 none mr_71 (P_71s2x σ0 By Nb Sp) 0 [(0, .ref 3), (1, .retAddr 5)] [] σ0 := by
  have hF0 : Fr [] σ0 σ0 := Fr_rfl
  obtain ⟨z2, h1, h3, h4⟩ := WT_peekI hσ0 tgz_3 (by decide +kernel : FT 3 1 = (0, 0, 4)) (by decide +kernel)
  obtain ⟨z6, h5, h7, h8⟩ := WT_peekI hσ0 tgz_3 (by decide +kernel : FT 3 3 = (0, 0, 1600)) (by decide +kernel)
  obtain ⟨z10, h9, h11, h12⟩ := WT_peekI hσ0 tgz_3 (by decide +kernel : FT 3 2 = (0, 0, 1600)) (by decide +kernel)
  have h13 : Imp (Sp.1 = 0) (tK By Nb Sp.2.2.1 = z2.toInt) := CT_t hC h1
  refine En_Ps 1 (pc' := 1) (lv' := [(0, .ref 3), (1, .retAddr 5)]) (st' := [.ref 3]) rfl ?_
  refine En_getK (j := 1) h1 rfl rfl rfl tgz_3 (by decide +kernel) ?_
  refine En_Ps 1 (pc' := 5) (lv' := [(0, .ref 3), (1, .retAddr 5)]) (st' := [.int ((Int32.ofInt 1)), .int z2]) rfl ?_
  refine En_icNe _ rfl (by decide : (Int32.ofInt 1).toInt = 1) rfl (fun h14 => ?_) (fun h14 => ?_)
  · refine En_Ps 1 (pc' := 25) (lv' := [(0, .ref 3), (1, .retAddr 5)]) (st' := [.int ((Int32.ofInt 0))]) rfl ?_
    refine En_top (by decide : (Int32.ofInt 0).toInt = 0) (fun z15 h16 => ?_)
    exact En_ret (v := some (.int z15)) rfl rfl (retZ rfl rfl (by omega) (by omega)) ⟨hσ0, hF0, z15, rfl, ⟨by omega, by omega, fun z => by have q1 := CT_t hC h1 z; have q2 := CT_fa hC h5 h9 z; have q := iW_0 (By := By) (Nb := Nb) (i := 2) (S := Sp) (by simp only [LWl]; omega); omega⟩⟩
  · refine En_Ps 1 (pc' := 9) (lv' := [(0, .ref 3), (1, .retAddr 5)]) (st' := [.ref 3]) rfl ?_
    refine En_getK (j := 3) h5 rfl rfl rfl tgz_3 (by decide +kernel) ?_
    refine En_Ps 1 (pc' := 13) (lv' := [(0, .ref 3), (1, .retAddr 5)]) (st' := [.ref 3, .int z6]) rfl ?_
    refine En_getK (j := 2) h9 rfl rfl rfl tgz_3 (by decide +kernel) ?_
    refine En_Ps 1 (pc' := 17) (lv' := [(0, .ref 3), (1, .retAddr 5)]) (st' := [.int ((z6 - z10))]) rfl ?_
    refine En_top (subI rfl rfl (by omega) (by omega)) (fun z17 h18 => ?_)
    refine En_Ps 1 (pc' := 18) (lv' := [(0, .ref 3), (1, .retAddr 5)]) (st' := [.retAddr 5, .int z17]) rfl ?_
    refine En_slen 2 4 rfl rfl (by decide) rfl ?_
    refine En_icEq _ rfl (by decide : (Int32.ofNat 4).toInt = 4) rfl (fun h19 => ?_) (fun h19 => ?_)
    · refine En_Ps 2 (pc' := 28) (lv' := [(2, .int ((Int32.ofInt 0))), (0, .ref 3), (1, .retAddr 5)]) (st' := []) rfl ?_
      have key28 : ∀ (n28 : Nat) (σ21 : SG) (y20 : Int32), WT σ21 → Fr [] σ0 σ21 → (σ21 3)[1]? = some (.int z2) → (σ21 3)[3]? = some (.int z6) → (σ21 3)[2]? = some (.int z10) → 0 ≤ y20.toInt → y20.toInt ≤ 4 → z6.toInt - y20.toInt < (n28 : Int) → Imp (Sp.1 = 0) (ISQ By Nb 2 Sp 1 y20.toInt) → En 4 90 none mr_71 (P_71s2x σ0 By Nb Sp) 28 [(0, .ref 3), (1, .retAddr 5), (2, .int y20)] [] σ21 := by
        intro n28
        induction n28 with
        | zero =>
          intro σ21 y20 h22 h23 h24 h25 h26 h27 h28 h29 h30
          exfalso; omega
        | succ n28 ih28 =>
          intro σ21 y20 h22 h23 h24 h25 h26 h27 h28 h29 h30
          refine En_Ps 2 (pc' := 30) (lv' := [(0, .ref 3), (1, .retAddr 5), (2, .int y20)]) (st' := [.retAddr 5, .int y20]) rfl ?_
          refine En_slen 2 4 rfl rfl (by decide) rfl ?_
          refine En_icGe _ rfl (by decide : (Int32.ofNat 4).toInt = 4) rfl (fun h31 => ?_) (fun h31 => ?_)
          · refine En_Ps 1 (pc' := 67) (lv' := [(0, .ref 3), (1, .retAddr 5), (2, .int y20)]) (st' := [.int ((Int32.ofInt 1))]) rfl ?_
            refine En_top (by decide : (Int32.ofInt 1).toInt = 1) (fun z32 h33 => ?_)
            exact En_ret (v := some (.int z32)) rfl rfl (retZ rfl rfl (by omega) (by omega)) ⟨h22, h23, z32, rfl, ⟨by omega, by omega, fun z => by have q := ISQ_x (Imp_m h30 z) (Or.inr (by simp only [LWl]; omega)); omega⟩⟩
          · refine En_Ps 1 (pc' := 37) (lv' := [(0, .ref 3), (1, .retAddr 5), (2, .int y20)]) (st' := [.ref 3]) rfl ?_
            refine En_getU (j := 0) (u := 1) (g' := 1) (q := 0) rfl rfl rfl tgz_3 (by decide +kernel) h22 (by decide +kernel) (by decide +kernel) (fun h34 => ?_)
            refine En_getU (j := 0) (u := 2) (g' := 2) (q := 0) rfl rfl rfl tgz_1 (by decide +kernel) h22 (by decide +kernel) (by decide +kernel) (fun h36 => ?_)
            refine En_Ps 1 (pc' := 44) (lv' := [(0, .ref 3), (1, .retAddr 5), (2, .int y20)]) (st' := [.ref 3, .ref 2]) rfl ?_
            refine En_getK (j := 2) h26 rfl rfl rfl tgz_3 (by decide +kernel) ?_
            refine En_Ps 2 (pc' := 49) (lv' := [(0, .ref 3), (1, .retAddr 5), (2, .int y20)]) (st' := [.int ((z10 + y20)), .ref 2]) rfl ?_
            refine En_top (addI rfl rfl (by omega) (by omega)) (fun z38 h39 => ?_)
            refine En_bald (l := (-128)) (u := 127) rfl rfl tgz_2 (by decide +kernel) h22 (by omega) (lnI (by decide +kernel : LN _ = 1600) (by omega)) (FTsgl (by decide +kernel)) (fun z41 h40 h42 h43 => ?_)
            refine En_Ps 2 (pc' := 52) (lv' := [(0, .ref 3), (1, .retAddr 5), (2, .int y20)]) (st' := [.int y20, .retAddr 5, .int z41]) rfl ?_
            refine En_scharX 2 4 rfl rfl rfl (by decide) (by omega) (by omega) rfl (fun z44 h45 h46 h47 => ?_)
            refine En_icEq _ rfl rfl rfl (fun h48 => ?_) (fun h48 => ?_)
            · refine En_Ps 1 (pc' := 63) (lv' := [(2, .int ((y20 + Int32.ofInt 1))), (0, .ref 3), (1, .retAddr 5)]) (st' := []) rfl ?_
              refine En_lv1 (addI rfl (by decide : (Int32.ofInt 1).toInt = 1) (by omega) (by omega)) (fun z49 h50 => ?_)
              refine En_Ps 1 (pc' := 28) (lv' := [(2, .int z49), (0, .ref 3), (1, .retAddr 5)]) (st' := []) rfl ?_
              refine En_lv (lv := [(0, .ref 3), (1, .retAddr 5), (2, .int z49)]) ⟨rfl, rfl, rfl, trivial⟩ ?_
              exact ih28 σ21 z49 h22 h23 h24 h25 h26 (by omega) (by omega) (by omega) (fun z => by have q1 := CT_t hC h1 z; have q2 := CT_fa hC h5 h9 z; exact ISQc_n (CT_fr hC h23 (by decide +kernel)) (Imp_m h30 z) (by simp only [LWl]; omega) (by omega) h40 h47 (by omega) (by omega))
            · refine En_Ps 1 (pc' := 59) (lv' := [(0, .ref 3), (1, .retAddr 5), (2, .int y20)]) (st' := [.int ((Int32.ofInt 0))]) rfl ?_
              refine En_top (by decide : (Int32.ofInt 0).toInt = 0) (fun z51 h52 => ?_)
              exact En_ret (v := some (.int z51)) rfl rfl (retZ rfl rfl (by omega) (by omega)) ⟨h22, h23, z51, rfl, ⟨by omega, by omega, fun z => by have q1 := CT_t hC h1 z; have q2 := CT_fa hC h5 h9 z; have q := ISQc_n (b' := 0) (CT_fr hC h23 (by decide +kernel)) (Imp_m h30 z) (by simp only [LWl]; omega) (by omega) h40 h47 rfl (Or.inr ⟨rfl, by omega⟩); have q2 := ISQ_x q (Or.inl rfl); omega⟩⟩
      have := (by decide : (Int32.ofInt 0).toInt = 0)
      refine En_lv (lv := [(0, .ref 3), (1, .retAddr 5), (2, .int ((Int32.ofInt 0)))]) ⟨rfl, rfl, rfl, trivial⟩ ?_
      exact key28 (Int.toNat (z6.toInt) + 1) σ0 ((Int32.ofInt 0)) hσ0 hF0 h1 h5 h9 (by omega) (by omega) (by omega) (fun z => by have q1 := CT_t hC h1 z; have q2 := CT_fa hC h5 h9 z; exact ISQc_s (by decide) z (by omega) (by simp only [LWl]; omega))
    · refine En_Ps 1 (pc' := 25) (lv' := [(0, .ref 3), (1, .retAddr 5)]) (st' := [.int ((Int32.ofInt 0))]) rfl ?_
      refine En_top (by decide : (Int32.ofInt 0).toInt = 0) (fun z53 h54 => ?_)
      exact En_ret (v := some (.int z53)) rfl rfl (retZ rfl rfl (by omega) (by omega)) ⟨hσ0, hF0, z53, rfl, ⟨by omega, by omega, fun z => by have q1 := CT_t hC h1 z; have q2 := CT_fa hC h5 h9 z; have q := iW_0 (By := By) (Nb := Nb) (i := 2) (S := Sp) (by simp only [LWl]; omega); omega⟩⟩
/-- DoorSchool$Reader.stands(Ljava/lang/String;)Z -/
abbrev P_71s3x (σ0 : SG) (By : Int → Int) (Nb : Int) (Sp : PS) : PO := fun v σ => WT σ ∧ Fr [] σ0 σ ∧ ∃ ret : Int32, v = some (.int ret) ∧ -ret.toInt ≤ 0 ∧ ret.toInt - 1 ≤ 0 ∧ Imp (Sp.1 = 0) (ret.toInt = iW By Nb 3 Sp)
set_option maxRecDepth 10000 in
set_option maxHeartbeats 4000000 in
theorem c_71s3x {By : Int → Int} {Nb : Int} {Sp : PS} (σ0 : SG) (hσ0 : WT σ0) (hC : CT By Nb σ0 Sp) : En 4 90 none mr_71 (P_71s3x σ0 By Nb Sp) 0 [(0, .ref 3), (1, .retAddr 7)] [] σ0 := by
  have hF0 : Fr [] σ0 σ0 := Fr_rfl
  obtain ⟨z2, h1, h3, h4⟩ := WT_peekI hσ0 tgz_3 (by decide +kernel : FT 3 1 = (0, 0, 4)) (by decide +kernel)
  obtain ⟨z6, h5, h7, h8⟩ := WT_peekI hσ0 tgz_3 (by decide +kernel : FT 3 3 = (0, 0, 1600)) (by decide +kernel)
  obtain ⟨z10, h9, h11, h12⟩ := WT_peekI hσ0 tgz_3 (by decide +kernel : FT 3 2 = (0, 0, 1600)) (by decide +kernel)
  have h13 : Imp (Sp.1 = 0) (tK By Nb Sp.2.2.1 = z2.toInt) := CT_t hC h1
  refine En_Ps 1 (pc' := 1) (lv' := [(0, .ref 3), (1, .retAddr 7)]) (st' := [.ref 3]) rfl ?_
  refine En_getK (j := 1) h1 rfl rfl rfl tgz_3 (by decide +kernel) ?_
  refine En_Ps 1 (pc' := 5) (lv' := [(0, .ref 3), (1, .retAddr 7)]) (st' := [.int ((Int32.ofInt 1)), .int z2]) rfl ?_
  refine En_icNe _ rfl (by decide : (Int32.ofInt 1).toInt = 1) rfl (fun h14 => ?_) (fun h14 => ?_)
  · refine En_Ps 1 (pc' := 25) (lv' := [(0, .ref 3), (1, .retAddr 7)]) (st' := [.int ((Int32.ofInt 0))]) rfl ?_
    refine En_top (by decide : (Int32.ofInt 0).toInt = 0) (fun z15 h16 => ?_)
    exact En_ret (v := some (.int z15)) rfl rfl (retZ rfl rfl (by omega) (by omega)) ⟨hσ0, hF0, z15, rfl, ⟨by omega, by omega, fun z => by have q1 := CT_t hC h1 z; have q2 := CT_fa hC h5 h9 z; have q := iW_0 (By := By) (Nb := Nb) (i := 3) (S := Sp) (by simp only [LWl]; omega); omega⟩⟩
  · refine En_Ps 1 (pc' := 9) (lv' := [(0, .ref 3), (1, .retAddr 7)]) (st' := [.ref 3]) rfl ?_
    refine En_getK (j := 3) h5 rfl rfl rfl tgz_3 (by decide +kernel) ?_
    refine En_Ps 1 (pc' := 13) (lv' := [(0, .ref 3), (1, .retAddr 7)]) (st' := [.ref 3, .int z6]) rfl ?_
    refine En_getK (j := 2) h9 rfl rfl rfl tgz_3 (by decide +kernel) ?_
    refine En_Ps 1 (pc' := 17) (lv' := [(0, .ref 3), (1, .retAddr 7)]) (st' := [.int ((z6 - z10))]) rfl ?_
    refine En_top (subI rfl rfl (by omega) (by omega)) (fun z17 h18 => ?_)
    refine En_Ps 1 (pc' := 18) (lv' := [(0, .ref 3), (1, .retAddr 7)]) (st' := [.retAddr 7, .int z17]) rfl ?_
    refine En_slen 3 4 rfl rfl (by decide) rfl ?_
    refine En_icEq _ rfl (by decide : (Int32.ofNat 4).toInt = 4) rfl (fun h19 => ?_) (fun h19 => ?_)
    · refine En_Ps 2 (pc' := 28) (lv' := [(2, .int ((Int32.ofInt 0))), (0, .ref 3), (1, .retAddr 7)]) (st' := []) rfl ?_
      have key28 : ∀ (n28 : Nat) (σ21 : SG) (y20 : Int32), WT σ21 → Fr [] σ0 σ21 → (σ21 3)[1]? = some (.int z2) → (σ21 3)[3]? = some (.int z6) → (σ21 3)[2]? = some (.int z10) → 0 ≤ y20.toInt → y20.toInt ≤ 4 → z6.toInt - y20.toInt < (n28 : Int) → Imp (Sp.1 = 0) (ISQ By Nb 3 Sp 1 y20.toInt) → En 4 90 none mr_71 (P_71s3x σ0 By Nb Sp) 28 [(0, .ref 3), (1, .retAddr 7), (2, .int y20)] [] σ21 := by
        intro n28
        induction n28 with
        | zero =>
          intro σ21 y20 h22 h23 h24 h25 h26 h27 h28 h29 h30
          exfalso; omega
        | succ n28 ih28 =>
          intro σ21 y20 h22 h23 h24 h25 h26 h27 h28 h29 h30
          refine En_Ps 2 (pc' := 30) (lv' := [(0, .ref 3), (1, .retAddr 7), (2, .int y20)]) (st' := [.retAddr 7, .int y20]) rfl ?_
          refine En_slen 3 4 rfl rfl (by decide) rfl ?_
          refine En_icGe _ rfl (by decide : (Int32.ofNat 4).toInt = 4) rfl (fun h31 => ?_) (fun h31 => ?_)
          · refine En_Ps 1 (pc' := 67) (lv' := [(0, .ref 3), (1, .retAddr 7), (2, .int y20)]) (st' := [.int ((Int32.ofInt 1))]) rfl ?_
            refine En_top (by decide : (Int32.ofInt 1).toInt = 1) (fun z32 h33 => ?_)
            exact En_ret (v := some (.int z32)) rfl rfl (retZ rfl rfl (by omega) (by omega)) ⟨h22, h23, z32, rfl, ⟨by omega, by omega, fun z => by have q := ISQ_x (Imp_m h30 z) (Or.inr (by simp only [LWl]; omega)); omega⟩⟩
          · refine En_Ps 1 (pc' := 37) (lv' := [(0, .ref 3), (1, .retAddr 7), (2, .int y20)]) (st' := [.ref 3]) rfl ?_
            refine En_getU (j := 0) (u := 1) (g' := 1) (q := 0) rfl rfl rfl tgz_3 (by decide +kernel) h22 (by decide +kernel) (by decide +kernel) (fun h34 => ?_)
            refine En_getU (j := 0) (u := 2) (g' := 2) (q := 0) rfl rfl rfl tgz_1 (by decide +kernel) h22 (by decide +kernel) (by decide +kernel) (fun h36 => ?_)
            refine En_Ps 1 (pc' := 44) (lv' := [(0, .ref 3), (1, .retAddr 7), (2, .int y20)]) (st' := [.ref 3, .ref 2]) rfl ?_
            refine En_getK (j := 2) h26 rfl rfl rfl tgz_3 (by decide +kernel) ?_
            refine En_Ps 2 (pc' := 49) (lv' := [(0, .ref 3), (1, .retAddr 7), (2, .int y20)]) (st' := [.int ((z10 + y20)), .ref 2]) rfl ?_
            refine En_top (addI rfl rfl (by omega) (by omega)) (fun z38 h39 => ?_)
            refine En_bald (l := (-128)) (u := 127) rfl rfl tgz_2 (by decide +kernel) h22 (by omega) (lnI (by decide +kernel : LN _ = 1600) (by omega)) (FTsgl (by decide +kernel)) (fun z41 h40 h42 h43 => ?_)
            refine En_Ps 2 (pc' := 52) (lv' := [(0, .ref 3), (1, .retAddr 7), (2, .int y20)]) (st' := [.int y20, .retAddr 7, .int z41]) rfl ?_
            refine En_scharX 3 4 rfl rfl rfl (by decide) (by omega) (by omega) rfl (fun z44 h45 h46 h47 => ?_)
            refine En_icEq _ rfl rfl rfl (fun h48 => ?_) (fun h48 => ?_)
            · refine En_Ps 1 (pc' := 63) (lv' := [(2, .int ((y20 + Int32.ofInt 1))), (0, .ref 3), (1, .retAddr 7)]) (st' := []) rfl ?_
              refine En_lv1 (addI rfl (by decide : (Int32.ofInt 1).toInt = 1) (by omega) (by omega)) (fun z49 h50 => ?_)
              refine En_Ps 1 (pc' := 28) (lv' := [(2, .int z49), (0, .ref 3), (1, .retAddr 7)]) (st' := []) rfl ?_
              refine En_lv (lv := [(0, .ref 3), (1, .retAddr 7), (2, .int z49)]) ⟨rfl, rfl, rfl, trivial⟩ ?_
              exact ih28 σ21 z49 h22 h23 h24 h25 h26 (by omega) (by omega) (by omega) (fun z => by have q1 := CT_t hC h1 z; have q2 := CT_fa hC h5 h9 z; exact ISQc_n (CT_fr hC h23 (by decide +kernel)) (Imp_m h30 z) (by simp only [LWl]; omega) (by omega) h40 h47 (by omega) (by omega))
            · refine En_Ps 1 (pc' := 59) (lv' := [(0, .ref 3), (1, .retAddr 7), (2, .int y20)]) (st' := [.int ((Int32.ofInt 0))]) rfl ?_
              refine En_top (by decide : (Int32.ofInt 0).toInt = 0) (fun z51 h52 => ?_)
              exact En_ret (v := some (.int z51)) rfl rfl (retZ rfl rfl (by omega) (by omega)) ⟨h22, h23, z51, rfl, ⟨by omega, by omega, fun z => by have q1 := CT_t hC h1 z; have q2 := CT_fa hC h5 h9 z; have q := ISQc_n (b' := 0) (CT_fr hC h23 (by decide +kernel)) (Imp_m h30 z) (by simp only [LWl]; omega) (by omega) h40 h47 rfl (Or.inr ⟨rfl, by omega⟩); have q2 := ISQ_x q (Or.inl rfl); omega⟩⟩
      have := (by decide : (Int32.ofInt 0).toInt = 0)
      refine En_lv (lv := [(0, .ref 3), (1, .retAddr 7), (2, .int ((Int32.ofInt 0)))]) ⟨rfl, rfl, rfl, trivial⟩ ?_
      exact key28 (Int.toNat (z6.toInt) + 1) σ0 ((Int32.ofInt 0)) hσ0 hF0 h1 h5 h9 (by omega) (by omega) (by omega) (fun z => by have q1 := CT_t hC h1 z; have q2 := CT_fa hC h5 h9 z; exact ISQc_s (by decide) z (by omega) (by simp only [LWl]; omega))
    · refine En_Ps 1 (pc' := 25) (lv' := [(0, .ref 3), (1, .retAddr 7)]) (st' := [.int ((Int32.ofInt 0))]) rfl ?_
      refine En_top (by decide : (Int32.ofInt 0).toInt = 0) (fun z53 h54 => ?_)
      exact En_ret (v := some (.int z53)) rfl rfl (retZ rfl rfl (by omega) (by omega)) ⟨hσ0, hF0, z53, rfl, ⟨by omega, by omega, fun z => by have q1 := CT_t hC h1 z; have q2 := CT_fa hC h5 h9 z; have q := iW_0 (By := By) (Nb := Nb) (i := 3) (S := Sp) (by simp only [LWl]; omega); omega⟩⟩
/-- DoorSchool$Reader.stands(Ljava/lang/String;)Z -/
abbrev P_71s4x (σ0 : SG) (By : Int → Int) (Nb : Int) (Sp : PS) : PO := fun v σ => WT σ ∧ Fr [] σ0 σ ∧ ∃ ret : Int32, v = some (.int ret) ∧ -ret.toInt ≤ 0 ∧ ret.toInt - 1 ≤ 0 ∧ Imp (Sp.1 = 0) (ret.toInt = iW By Nb 4 Sp)
set_option maxRecDepth 10000 in
set_option maxHeartbeats 4000000 in
theorem c_71s4x {By : Int → Int} {Nb : Int} {Sp : PS} (σ0 : SG) (hσ0 : WT σ0) (hC : CT By Nb σ0 Sp) : En 4 90 none mr_71 (P_71s4x σ0 By Nb Sp) 0 [(0, .ref 3), (1, .retAddr 9)] [] σ0 := by
  have hF0 : Fr [] σ0 σ0 := Fr_rfl
  obtain ⟨z2, h1, h3, h4⟩ := WT_peekI hσ0 tgz_3 (by decide +kernel : FT 3 1 = (0, 0, 4)) (by decide +kernel)
  obtain ⟨z6, h5, h7, h8⟩ := WT_peekI hσ0 tgz_3 (by decide +kernel : FT 3 3 = (0, 0, 1600)) (by decide +kernel)
  obtain ⟨z10, h9, h11, h12⟩ := WT_peekI hσ0 tgz_3 (by decide +kernel : FT 3 2 = (0, 0, 1600)) (by decide +kernel)
  have h13 : Imp (Sp.1 = 0) (tK By Nb Sp.2.2.1 = z2.toInt) := CT_t hC h1
  refine En_Ps 1 (pc' := 1) (lv' := [(0, .ref 3), (1, .retAddr 9)]) (st' := [.ref 3]) rfl ?_
  refine En_getK (j := 1) h1 rfl rfl rfl tgz_3 (by decide +kernel) ?_
  refine En_Ps 1 (pc' := 5) (lv' := [(0, .ref 3), (1, .retAddr 9)]) (st' := [.int ((Int32.ofInt 1)), .int z2]) rfl ?_
  refine En_icNe _ rfl (by decide : (Int32.ofInt 1).toInt = 1) rfl (fun h14 => ?_) (fun h14 => ?_)
  · refine En_Ps 1 (pc' := 25) (lv' := [(0, .ref 3), (1, .retAddr 9)]) (st' := [.int ((Int32.ofInt 0))]) rfl ?_
    refine En_top (by decide : (Int32.ofInt 0).toInt = 0) (fun z15 h16 => ?_)
    exact En_ret (v := some (.int z15)) rfl rfl (retZ rfl rfl (by omega) (by omega)) ⟨hσ0, hF0, z15, rfl, ⟨by omega, by omega, fun z => by have q1 := CT_t hC h1 z; have q2 := CT_fa hC h5 h9 z; have q := iW_0 (By := By) (Nb := Nb) (i := 4) (S := Sp) (by simp only [LWl]; omega); omega⟩⟩
  · refine En_Ps 1 (pc' := 9) (lv' := [(0, .ref 3), (1, .retAddr 9)]) (st' := [.ref 3]) rfl ?_
    refine En_getK (j := 3) h5 rfl rfl rfl tgz_3 (by decide +kernel) ?_
    refine En_Ps 1 (pc' := 13) (lv' := [(0, .ref 3), (1, .retAddr 9)]) (st' := [.ref 3, .int z6]) rfl ?_
    refine En_getK (j := 2) h9 rfl rfl rfl tgz_3 (by decide +kernel) ?_
    refine En_Ps 1 (pc' := 17) (lv' := [(0, .ref 3), (1, .retAddr 9)]) (st' := [.int ((z6 - z10))]) rfl ?_
    refine En_top (subI rfl rfl (by omega) (by omega)) (fun z17 h18 => ?_)
    refine En_Ps 1 (pc' := 18) (lv' := [(0, .ref 3), (1, .retAddr 9)]) (st' := [.retAddr 9, .int z17]) rfl ?_
    refine En_slen 4 5 rfl rfl (by decide) rfl ?_
    refine En_icEq _ rfl (by decide : (Int32.ofNat 5).toInt = 5) rfl (fun h19 => ?_) (fun h19 => ?_)
    · refine En_Ps 2 (pc' := 28) (lv' := [(2, .int ((Int32.ofInt 0))), (0, .ref 3), (1, .retAddr 9)]) (st' := []) rfl ?_
      have key28 : ∀ (n28 : Nat) (σ21 : SG) (y20 : Int32), WT σ21 → Fr [] σ0 σ21 → (σ21 3)[1]? = some (.int z2) → (σ21 3)[3]? = some (.int z6) → (σ21 3)[2]? = some (.int z10) → 0 ≤ y20.toInt → y20.toInt ≤ 5 → z6.toInt - y20.toInt < (n28 : Int) → Imp (Sp.1 = 0) (ISQ By Nb 4 Sp 1 y20.toInt) → En 4 90 none mr_71 (P_71s4x σ0 By Nb Sp) 28 [(0, .ref 3), (1, .retAddr 9), (2, .int y20)] [] σ21 := by
        intro n28
        induction n28 with
        | zero =>
          intro σ21 y20 h22 h23 h24 h25 h26 h27 h28 h29 h30
          exfalso; omega
        | succ n28 ih28 =>
          intro σ21 y20 h22 h23 h24 h25 h26 h27 h28 h29 h30
          refine En_Ps 2 (pc' := 30) (lv' := [(0, .ref 3), (1, .retAddr 9), (2, .int y20)]) (st' := [.retAddr 9, .int y20]) rfl ?_
          refine En_slen 4 5 rfl rfl (by decide) rfl ?_
          refine En_icGe _ rfl (by decide : (Int32.ofNat 5).toInt = 5) rfl (fun h31 => ?_) (fun h31 => ?_)
          · refine En_Ps 1 (pc' := 67) (lv' := [(0, .ref 3), (1, .retAddr 9), (2, .int y20)]) (st' := [.int ((Int32.ofInt 1))]) rfl ?_
            refine En_top (by decide : (Int32.ofInt 1).toInt = 1) (fun z32 h33 => ?_)
            exact En_ret (v := some (.int z32)) rfl rfl (retZ rfl rfl (by omega) (by omega)) ⟨h22, h23, z32, rfl, ⟨by omega, by omega, fun z => by have q := ISQ_x (Imp_m h30 z) (Or.inr (by simp only [LWl]; omega)); omega⟩⟩
          · refine En_Ps 1 (pc' := 37) (lv' := [(0, .ref 3), (1, .retAddr 9), (2, .int y20)]) (st' := [.ref 3]) rfl ?_
            refine En_getU (j := 0) (u := 1) (g' := 1) (q := 0) rfl rfl rfl tgz_3 (by decide +kernel) h22 (by decide +kernel) (by decide +kernel) (fun h34 => ?_)
            refine En_getU (j := 0) (u := 2) (g' := 2) (q := 0) rfl rfl rfl tgz_1 (by decide +kernel) h22 (by decide +kernel) (by decide +kernel) (fun h36 => ?_)
            refine En_Ps 1 (pc' := 44) (lv' := [(0, .ref 3), (1, .retAddr 9), (2, .int y20)]) (st' := [.ref 3, .ref 2]) rfl ?_
            refine En_getK (j := 2) h26 rfl rfl rfl tgz_3 (by decide +kernel) ?_
            refine En_Ps 2 (pc' := 49) (lv' := [(0, .ref 3), (1, .retAddr 9), (2, .int y20)]) (st' := [.int ((z10 + y20)), .ref 2]) rfl ?_
            refine En_top (addI rfl rfl (by omega) (by omega)) (fun z38 h39 => ?_)
            refine En_bald (l := (-128)) (u := 127) rfl rfl tgz_2 (by decide +kernel) h22 (by omega) (lnI (by decide +kernel : LN _ = 1600) (by omega)) (FTsgl (by decide +kernel)) (fun z41 h40 h42 h43 => ?_)
            refine En_Ps 2 (pc' := 52) (lv' := [(0, .ref 3), (1, .retAddr 9), (2, .int y20)]) (st' := [.int y20, .retAddr 9, .int z41]) rfl ?_
            refine En_scharX 4 5 rfl rfl rfl (by decide) (by omega) (by omega) rfl (fun z44 h45 h46 h47 => ?_)
            refine En_icEq _ rfl rfl rfl (fun h48 => ?_) (fun h48 => ?_)
            · refine En_Ps 1 (pc' := 63) (lv' := [(2, .int ((y20 + Int32.ofInt 1))), (0, .ref 3), (1, .retAddr 9)]) (st' := []) rfl ?_
              refine En_lv1 (addI rfl (by decide : (Int32.ofInt 1).toInt = 1) (by omega) (by omega)) (fun z49 h50 => ?_)
              refine En_Ps 1 (pc' := 28) (lv' := [(2, .int z49), (0, .ref 3), (1, .retAddr 9)]) (st' := []) rfl ?_
              refine En_lv (lv := [(0, .ref 3), (1, .retAddr 9), (2, .int z49)]) ⟨rfl, rfl, rfl, trivial⟩ ?_
              exact ih28 σ21 z49 h22 h23 h24 h25 h26 (by omega) (by omega) (by omega) (fun z => by have q1 := CT_t hC h1 z; have q2 := CT_fa hC h5 h9 z; exact ISQc_n (CT_fr hC h23 (by decide +kernel)) (Imp_m h30 z) (by simp only [LWl]; omega) (by omega) h40 h47 (by omega) (by omega))
            · refine En_Ps 1 (pc' := 59) (lv' := [(0, .ref 3), (1, .retAddr 9), (2, .int y20)]) (st' := [.int ((Int32.ofInt 0))]) rfl ?_
              refine En_top (by decide : (Int32.ofInt 0).toInt = 0) (fun z51 h52 => ?_)
              exact En_ret (v := some (.int z51)) rfl rfl (retZ rfl rfl (by omega) (by omega)) ⟨h22, h23, z51, rfl, ⟨by omega, by omega, fun z => by have q1 := CT_t hC h1 z; have q2 := CT_fa hC h5 h9 z; have q := ISQc_n (b' := 0) (CT_fr hC h23 (by decide +kernel)) (Imp_m h30 z) (by simp only [LWl]; omega) (by omega) h40 h47 rfl (Or.inr ⟨rfl, by omega⟩); have q2 := ISQ_x q (Or.inl rfl); omega⟩⟩
      have := (by decide : (Int32.ofInt 0).toInt = 0)
      refine En_lv (lv := [(0, .ref 3), (1, .retAddr 9), (2, .int ((Int32.ofInt 0)))]) ⟨rfl, rfl, rfl, trivial⟩ ?_
      exact key28 (Int.toNat (z6.toInt) + 1) σ0 ((Int32.ofInt 0)) hσ0 hF0 h1 h5 h9 (by omega) (by omega) (by omega) (fun z => by have q1 := CT_t hC h1 z; have q2 := CT_fa hC h5 h9 z; exact ISQc_s (by decide) z (by omega) (by simp only [LWl]; omega))
    · refine En_Ps 1 (pc' := 25) (lv' := [(0, .ref 3), (1, .retAddr 9)]) (st' := [.int ((Int32.ofInt 0))]) rfl ?_
      refine En_top (by decide : (Int32.ofInt 0).toInt = 0) (fun z53 h54 => ?_)
      exact En_ret (v := some (.int z53)) rfl rfl (retZ rfl rfl (by omega) (by omega)) ⟨hσ0, hF0, z53, rfl, ⟨by omega, by omega, fun z => by have q1 := CT_t hC h1 z; have q2 := CT_fa hC h5 h9 z; have q := iW_0 (By := By) (Nb := Nb) (i := 4) (S := Sp) (by simp only [LWl]; omega); omega⟩⟩
/-- DoorSchool$Reader.stands(Ljava/lang/String;)Z -/
abbrev P_71s5x (σ0 : SG) (By : Int → Int) (Nb : Int) (Sp : PS) : PO := fun v σ => WT σ ∧ Fr [] σ0 σ ∧ ∃ ret : Int32, v = some (.int ret) ∧ -ret.toInt ≤ 0 ∧ ret.toInt - 1 ≤ 0 ∧ Imp (Sp.1 = 0) (ret.toInt = iW By Nb 5 Sp)
set_option maxRecDepth 10000 in
set_option maxHeartbeats 4000000 in
theorem c_71s5x {By : Int → Int} {Nb : Int} {Sp : PS} (σ0 : SG) (hσ0 : WT σ0) (hC : CT By Nb σ0 Sp) : En 4 90 none mr_71 (P_71s5x σ0 By Nb Sp) 0 [(0, .ref 3), (1, .retAddr 11)] [] σ0 := by
  have hF0 : Fr [] σ0 σ0 := Fr_rfl
  obtain ⟨z2, h1, h3, h4⟩ := WT_peekI hσ0 tgz_3 (by decide +kernel : FT 3 1 = (0, 0, 4)) (by decide +kernel)
  obtain ⟨z6, h5, h7, h8⟩ := WT_peekI hσ0 tgz_3 (by decide +kernel : FT 3 3 = (0, 0, 1600)) (by decide +kernel)
  obtain ⟨z10, h9, h11, h12⟩ := WT_peekI hσ0 tgz_3 (by decide +kernel : FT 3 2 = (0, 0, 1600)) (by decide +kernel)
  have h13 : Imp (Sp.1 = 0) (tK By Nb Sp.2.2.1 = z2.toInt) := CT_t hC h1
  refine En_Ps 1 (pc' := 1) (lv' := [(0, .ref 3), (1, .retAddr 11)]) (st' := [.ref 3]) rfl ?_
  refine En_getK (j := 1) h1 rfl rfl rfl tgz_3 (by decide +kernel) ?_
  refine En_Ps 1 (pc' := 5) (lv' := [(0, .ref 3), (1, .retAddr 11)]) (st' := [.int ((Int32.ofInt 1)), .int z2]) rfl ?_
  refine En_icNe _ rfl (by decide : (Int32.ofInt 1).toInt = 1) rfl (fun h14 => ?_) (fun h14 => ?_)
  · refine En_Ps 1 (pc' := 25) (lv' := [(0, .ref 3), (1, .retAddr 11)]) (st' := [.int ((Int32.ofInt 0))]) rfl ?_
    refine En_top (by decide : (Int32.ofInt 0).toInt = 0) (fun z15 h16 => ?_)
    exact En_ret (v := some (.int z15)) rfl rfl (retZ rfl rfl (by omega) (by omega)) ⟨hσ0, hF0, z15, rfl, ⟨by omega, by omega, fun z => by have q1 := CT_t hC h1 z; have q2 := CT_fa hC h5 h9 z; have q := iW_0 (By := By) (Nb := Nb) (i := 5) (S := Sp) (by simp only [LWl]; omega); omega⟩⟩
  · refine En_Ps 1 (pc' := 9) (lv' := [(0, .ref 3), (1, .retAddr 11)]) (st' := [.ref 3]) rfl ?_
    refine En_getK (j := 3) h5 rfl rfl rfl tgz_3 (by decide +kernel) ?_
    refine En_Ps 1 (pc' := 13) (lv' := [(0, .ref 3), (1, .retAddr 11)]) (st' := [.ref 3, .int z6]) rfl ?_
    refine En_getK (j := 2) h9 rfl rfl rfl tgz_3 (by decide +kernel) ?_
    refine En_Ps 1 (pc' := 17) (lv' := [(0, .ref 3), (1, .retAddr 11)]) (st' := [.int ((z6 - z10))]) rfl ?_
    refine En_top (subI rfl rfl (by omega) (by omega)) (fun z17 h18 => ?_)
    refine En_Ps 1 (pc' := 18) (lv' := [(0, .ref 3), (1, .retAddr 11)]) (st' := [.retAddr 11, .int z17]) rfl ?_
    refine En_slen 5 5 rfl rfl (by decide) rfl ?_
    refine En_icEq _ rfl (by decide : (Int32.ofNat 5).toInt = 5) rfl (fun h19 => ?_) (fun h19 => ?_)
    · refine En_Ps 2 (pc' := 28) (lv' := [(2, .int ((Int32.ofInt 0))), (0, .ref 3), (1, .retAddr 11)]) (st' := []) rfl ?_
      have key28 : ∀ (n28 : Nat) (σ21 : SG) (y20 : Int32), WT σ21 → Fr [] σ0 σ21 → (σ21 3)[1]? = some (.int z2) → (σ21 3)[3]? = some (.int z6) → (σ21 3)[2]? = some (.int z10) → 0 ≤ y20.toInt → y20.toInt ≤ 5 → z6.toInt - y20.toInt < (n28 : Int) → Imp (Sp.1 = 0) (ISQ By Nb 5 Sp 1 y20.toInt) → En 4 90 none mr_71 (P_71s5x σ0 By Nb Sp) 28 [(0, .ref 3), (1, .retAddr 11), (2, .int y20)] [] σ21 := by
        intro n28
        induction n28 with
        | zero =>
          intro σ21 y20 h22 h23 h24 h25 h26 h27 h28 h29 h30
          exfalso; omega
        | succ n28 ih28 =>
          intro σ21 y20 h22 h23 h24 h25 h26 h27 h28 h29 h30
          refine En_Ps 2 (pc' := 30) (lv' := [(0, .ref 3), (1, .retAddr 11), (2, .int y20)]) (st' := [.retAddr 11, .int y20]) rfl ?_
          refine En_slen 5 5 rfl rfl (by decide) rfl ?_
          refine En_icGe _ rfl (by decide : (Int32.ofNat 5).toInt = 5) rfl (fun h31 => ?_) (fun h31 => ?_)
          · refine En_Ps 1 (pc' := 67) (lv' := [(0, .ref 3), (1, .retAddr 11), (2, .int y20)]) (st' := [.int ((Int32.ofInt 1))]) rfl ?_
            refine En_top (by decide : (Int32.ofInt 1).toInt = 1) (fun z32 h33 => ?_)
            exact En_ret (v := some (.int z32)) rfl rfl (retZ rfl rfl (by omega) (by omega)) ⟨h22, h23, z32, rfl, ⟨by omega, by omega, fun z => by have q := ISQ_x (Imp_m h30 z) (Or.inr (by simp only [LWl]; omega)); omega⟩⟩
          · refine En_Ps 1 (pc' := 37) (lv' := [(0, .ref 3), (1, .retAddr 11), (2, .int y20)]) (st' := [.ref 3]) rfl ?_
            refine En_getU (j := 0) (u := 1) (g' := 1) (q := 0) rfl rfl rfl tgz_3 (by decide +kernel) h22 (by decide +kernel) (by decide +kernel) (fun h34 => ?_)
            refine En_getU (j := 0) (u := 2) (g' := 2) (q := 0) rfl rfl rfl tgz_1 (by decide +kernel) h22 (by decide +kernel) (by decide +kernel) (fun h36 => ?_)
            refine En_Ps 1 (pc' := 44) (lv' := [(0, .ref 3), (1, .retAddr 11), (2, .int y20)]) (st' := [.ref 3, .ref 2]) rfl ?_
            refine En_getK (j := 2) h26 rfl rfl rfl tgz_3 (by decide +kernel) ?_
            refine En_Ps 2 (pc' := 49) (lv' := [(0, .ref 3), (1, .retAddr 11), (2, .int y20)]) (st' := [.int ((z10 + y20)), .ref 2]) rfl ?_
            refine En_top (addI rfl rfl (by omega) (by omega)) (fun z38 h39 => ?_)
            refine En_bald (l := (-128)) (u := 127) rfl rfl tgz_2 (by decide +kernel) h22 (by omega) (lnI (by decide +kernel : LN _ = 1600) (by omega)) (FTsgl (by decide +kernel)) (fun z41 h40 h42 h43 => ?_)
            refine En_Ps 2 (pc' := 52) (lv' := [(0, .ref 3), (1, .retAddr 11), (2, .int y20)]) (st' := [.int y20, .retAddr 11, .int z41]) rfl ?_
            refine En_scharX 5 5 rfl rfl rfl (by decide) (by omega) (by omega) rfl (fun z44 h45 h46 h47 => ?_)
            refine En_icEq _ rfl rfl rfl (fun h48 => ?_) (fun h48 => ?_)
            · refine En_Ps 1 (pc' := 63) (lv' := [(2, .int ((y20 + Int32.ofInt 1))), (0, .ref 3), (1, .retAddr 11)]) (st' := []) rfl ?_
              refine En_lv1 (addI rfl (by decide : (Int32.ofInt 1).toInt = 1) (by omega) (by omega)) (fun z49 h50 => ?_)
              refine En_Ps 1 (pc' := 28) (lv' := [(2, .int z49), (0, .ref 3), (1, .retAddr 11)]) (st' := []) rfl ?_
              refine En_lv (lv := [(0, .ref 3), (1, .retAddr 11), (2, .int z49)]) ⟨rfl, rfl, rfl, trivial⟩ ?_
              exact ih28 σ21 z49 h22 h23 h24 h25 h26 (by omega) (by omega) (by omega) (fun z => by have q1 := CT_t hC h1 z; have q2 := CT_fa hC h5 h9 z; exact ISQc_n (CT_fr hC h23 (by decide +kernel)) (Imp_m h30 z) (by simp only [LWl]; omega) (by omega) h40 h47 (by omega) (by omega))
            · refine En_Ps 1 (pc' := 59) (lv' := [(0, .ref 3), (1, .retAddr 11), (2, .int y20)]) (st' := [.int ((Int32.ofInt 0))]) rfl ?_
              refine En_top (by decide : (Int32.ofInt 0).toInt = 0) (fun z51 h52 => ?_)
              exact En_ret (v := some (.int z51)) rfl rfl (retZ rfl rfl (by omega) (by omega)) ⟨h22, h23, z51, rfl, ⟨by omega, by omega, fun z => by have q1 := CT_t hC h1 z; have q2 := CT_fa hC h5 h9 z; have q := ISQc_n (b' := 0) (CT_fr hC h23 (by decide +kernel)) (Imp_m h30 z) (by simp only [LWl]; omega) (by omega) h40 h47 rfl (Or.inr ⟨rfl, by omega⟩); have q2 := ISQ_x q (Or.inl rfl); omega⟩⟩
      have := (by decide : (Int32.ofInt 0).toInt = 0)
      refine En_lv (lv := [(0, .ref 3), (1, .retAddr 11), (2, .int ((Int32.ofInt 0)))]) ⟨rfl, rfl, rfl, trivial⟩ ?_
      exact key28 (Int.toNat (z6.toInt) + 1) σ0 ((Int32.ofInt 0)) hσ0 hF0 h1 h5 h9 (by omega) (by omega) (by omega) (fun z => by have q1 := CT_t hC h1 z; have q2 := CT_fa hC h5 h9 z; exact ISQc_s (by decide) z (by omega) (by simp only [LWl]; omega))
    · refine En_Ps 1 (pc' := 25) (lv' := [(0, .ref 3), (1, .retAddr 11)]) (st' := [.int ((Int32.ofInt 0))]) rfl ?_
      refine En_top (by decide : (Int32.ofInt 0).toInt = 0) (fun z53 h54 => ?_)
      exact En_ret (v := some (.int z53)) rfl rfl (retZ rfl rfl (by omega) (by omega)) ⟨hσ0, hF0, z53, rfl, ⟨by omega, by omega, fun z => by have q1 := CT_t hC h1 z; have q2 := CT_fa hC h5 h9 z; have q := iW_0 (By := By) (Nb := Nb) (i := 5) (S := Sp) (by simp only [LWl]; omega); omega⟩⟩
/-- DoorSchool$Reader.stands(Ljava/lang/String;)Z -/
abbrev P_71s6x (σ0 : SG) (By : Int → Int) (Nb : Int) (Sp : PS) : PO := fun v σ => WT σ ∧ Fr [] σ0 σ ∧ ∃ ret : Int32, v = some (.int ret) ∧ -ret.toInt ≤ 0 ∧ ret.toInt - 1 ≤ 0 ∧ Imp (Sp.1 = 0) (ret.toInt = iW By Nb 6 Sp)
set_option maxRecDepth 10000 in
set_option maxHeartbeats 4000000 in
theorem c_71s6x {By : Int → Int} {Nb : Int} {Sp : PS} (σ0 : SG) (hσ0 : WT σ0) (hC : CT By Nb σ0 Sp) : En 4 90 none mr_71 (P_71s6x σ0 By Nb Sp) 0 [(0, .ref 3), (1, .retAddr 13)] [] σ0 := by
  have hF0 : Fr [] σ0 σ0 := Fr_rfl
  obtain ⟨z2, h1, h3, h4⟩ := WT_peekI hσ0 tgz_3 (by decide +kernel : FT 3 1 = (0, 0, 4)) (by decide +kernel)
  obtain ⟨z6, h5, h7, h8⟩ := WT_peekI hσ0 tgz_3 (by decide +kernel : FT 3 3 = (0, 0, 1600)) (by decide +kernel)
  obtain ⟨z10, h9, h11, h12⟩ := WT_peekI hσ0 tgz_3 (by decide +kernel : FT 3 2 = (0, 0, 1600)) (by decide +kernel)
  have h13 : Imp (Sp.1 = 0) (tK By Nb Sp.2.2.1 = z2.toInt) := CT_t hC h1
  refine En_Ps 1 (pc' := 1) (lv' := [(0, .ref 3), (1, .retAddr 13)]) (st' := [.ref 3]) rfl ?_
  refine En_getK (j := 1) h1 rfl rfl rfl tgz_3 (by decide +kernel) ?_
  refine En_Ps 1 (pc' := 5) (lv' := [(0, .ref 3), (1, .retAddr 13)]) (st' := [.int ((Int32.ofInt 1)), .int z2]) rfl ?_
  refine En_icNe _ rfl (by decide : (Int32.ofInt 1).toInt = 1) rfl (fun h14 => ?_) (fun h14 => ?_)
  · refine En_Ps 1 (pc' := 25) (lv' := [(0, .ref 3), (1, .retAddr 13)]) (st' := [.int ((Int32.ofInt 0))]) rfl ?_
    refine En_top (by decide : (Int32.ofInt 0).toInt = 0) (fun z15 h16 => ?_)
    exact En_ret (v := some (.int z15)) rfl rfl (retZ rfl rfl (by omega) (by omega)) ⟨hσ0, hF0, z15, rfl, ⟨by omega, by omega, fun z => by have q1 := CT_t hC h1 z; have q2 := CT_fa hC h5 h9 z; have q := iW_0 (By := By) (Nb := Nb) (i := 6) (S := Sp) (by simp only [LWl]; omega); omega⟩⟩
  · refine En_Ps 1 (pc' := 9) (lv' := [(0, .ref 3), (1, .retAddr 13)]) (st' := [.ref 3]) rfl ?_
    refine En_getK (j := 3) h5 rfl rfl rfl tgz_3 (by decide +kernel) ?_
    refine En_Ps 1 (pc' := 13) (lv' := [(0, .ref 3), (1, .retAddr 13)]) (st' := [.ref 3, .int z6]) rfl ?_
    refine En_getK (j := 2) h9 rfl rfl rfl tgz_3 (by decide +kernel) ?_
    refine En_Ps 1 (pc' := 17) (lv' := [(0, .ref 3), (1, .retAddr 13)]) (st' := [.int ((z6 - z10))]) rfl ?_
    refine En_top (subI rfl rfl (by omega) (by omega)) (fun z17 h18 => ?_)
    refine En_Ps 1 (pc' := 18) (lv' := [(0, .ref 3), (1, .retAddr 13)]) (st' := [.retAddr 13, .int z17]) rfl ?_
    refine En_slen 6 6 rfl rfl (by decide) rfl ?_
    refine En_icEq _ rfl (by decide : (Int32.ofNat 6).toInt = 6) rfl (fun h19 => ?_) (fun h19 => ?_)
    · refine En_Ps 2 (pc' := 28) (lv' := [(2, .int ((Int32.ofInt 0))), (0, .ref 3), (1, .retAddr 13)]) (st' := []) rfl ?_
      have key28 : ∀ (n28 : Nat) (σ21 : SG) (y20 : Int32), WT σ21 → Fr [] σ0 σ21 → (σ21 3)[1]? = some (.int z2) → (σ21 3)[3]? = some (.int z6) → (σ21 3)[2]? = some (.int z10) → 0 ≤ y20.toInt → y20.toInt ≤ 6 → z6.toInt - y20.toInt < (n28 : Int) → Imp (Sp.1 = 0) (ISQ By Nb 6 Sp 1 y20.toInt) → En 4 90 none mr_71 (P_71s6x σ0 By Nb Sp) 28 [(0, .ref 3), (1, .retAddr 13), (2, .int y20)] [] σ21 := by
        intro n28
        induction n28 with
        | zero =>
          intro σ21 y20 h22 h23 h24 h25 h26 h27 h28 h29 h30
          exfalso; omega
        | succ n28 ih28 =>
          intro σ21 y20 h22 h23 h24 h25 h26 h27 h28 h29 h30
          refine En_Ps 2 (pc' := 30) (lv' := [(0, .ref 3), (1, .retAddr 13), (2, .int y20)]) (st' := [.retAddr 13, .int y20]) rfl ?_
          refine En_slen 6 6 rfl rfl (by decide) rfl ?_
          refine En_icGe _ rfl (by decide : (Int32.ofNat 6).toInt = 6) rfl (fun h31 => ?_) (fun h31 => ?_)
          · refine En_Ps 1 (pc' := 67) (lv' := [(0, .ref 3), (1, .retAddr 13), (2, .int y20)]) (st' := [.int ((Int32.ofInt 1))]) rfl ?_
            refine En_top (by decide : (Int32.ofInt 1).toInt = 1) (fun z32 h33 => ?_)
            exact En_ret (v := some (.int z32)) rfl rfl (retZ rfl rfl (by omega) (by omega)) ⟨h22, h23, z32, rfl, ⟨by omega, by omega, fun z => by have q := ISQ_x (Imp_m h30 z) (Or.inr (by simp only [LWl]; omega)); omega⟩⟩
          · refine En_Ps 1 (pc' := 37) (lv' := [(0, .ref 3), (1, .retAddr 13), (2, .int y20)]) (st' := [.ref 3]) rfl ?_
            refine En_getU (j := 0) (u := 1) (g' := 1) (q := 0) rfl rfl rfl tgz_3 (by decide +kernel) h22 (by decide +kernel) (by decide +kernel) (fun h34 => ?_)
            refine En_getU (j := 0) (u := 2) (g' := 2) (q := 0) rfl rfl rfl tgz_1 (by decide +kernel) h22 (by decide +kernel) (by decide +kernel) (fun h36 => ?_)
            refine En_Ps 1 (pc' := 44) (lv' := [(0, .ref 3), (1, .retAddr 13), (2, .int y20)]) (st' := [.ref 3, .ref 2]) rfl ?_
            refine En_getK (j := 2) h26 rfl rfl rfl tgz_3 (by decide +kernel) ?_
            refine En_Ps 2 (pc' := 49) (lv' := [(0, .ref 3), (1, .retAddr 13), (2, .int y20)]) (st' := [.int ((z10 + y20)), .ref 2]) rfl ?_
            refine En_top (addI rfl rfl (by omega) (by omega)) (fun z38 h39 => ?_)
            refine En_bald (l := (-128)) (u := 127) rfl rfl tgz_2 (by decide +kernel) h22 (by omega) (lnI (by decide +kernel : LN _ = 1600) (by omega)) (FTsgl (by decide +kernel)) (fun z41 h40 h42 h43 => ?_)
            refine En_Ps 2 (pc' := 52) (lv' := [(0, .ref 3), (1, .retAddr 13), (2, .int y20)]) (st' := [.int y20, .retAddr 13, .int z41]) rfl ?_
            refine En_scharX 6 6 rfl rfl rfl (by decide) (by omega) (by omega) rfl (fun z44 h45 h46 h47 => ?_)
            refine En_icEq _ rfl rfl rfl (fun h48 => ?_) (fun h48 => ?_)
            · refine En_Ps 1 (pc' := 63) (lv' := [(2, .int ((y20 + Int32.ofInt 1))), (0, .ref 3), (1, .retAddr 13)]) (st' := []) rfl ?_
              refine En_lv1 (addI rfl (by decide : (Int32.ofInt 1).toInt = 1) (by omega) (by omega)) (fun z49 h50 => ?_)
              refine En_Ps 1 (pc' := 28) (lv' := [(2, .int z49), (0, .ref 3), (1, .retAddr 13)]) (st' := []) rfl ?_
              refine En_lv (lv := [(0, .ref 3), (1, .retAddr 13), (2, .int z49)]) ⟨rfl, rfl, rfl, trivial⟩ ?_
              exact ih28 σ21 z49 h22 h23 h24 h25 h26 (by omega) (by omega) (by omega) (fun z => by have q1 := CT_t hC h1 z; have q2 := CT_fa hC h5 h9 z; exact ISQc_n (CT_fr hC h23 (by decide +kernel)) (Imp_m h30 z) (by simp only [LWl]; omega) (by omega) h40 h47 (by omega) (by omega))
            · refine En_Ps 1 (pc' := 59) (lv' := [(0, .ref 3), (1, .retAddr 13), (2, .int y20)]) (st' := [.int ((Int32.ofInt 0))]) rfl ?_
              refine En_top (by decide : (Int32.ofInt 0).toInt = 0) (fun z51 h52 => ?_)
              exact En_ret (v := some (.int z51)) rfl rfl (retZ rfl rfl (by omega) (by omega)) ⟨h22, h23, z51, rfl, ⟨by omega, by omega, fun z => by have q1 := CT_t hC h1 z; have q2 := CT_fa hC h5 h9 z; have q := ISQc_n (b' := 0) (CT_fr hC h23 (by decide +kernel)) (Imp_m h30 z) (by simp only [LWl]; omega) (by omega) h40 h47 rfl (Or.inr ⟨rfl, by omega⟩); have q2 := ISQ_x q (Or.inl rfl); omega⟩⟩
      have := (by decide : (Int32.ofInt 0).toInt = 0)
      refine En_lv (lv := [(0, .ref 3), (1, .retAddr 13), (2, .int ((Int32.ofInt 0)))]) ⟨rfl, rfl, rfl, trivial⟩ ?_
      exact key28 (Int.toNat (z6.toInt) + 1) σ0 ((Int32.ofInt 0)) hσ0 hF0 h1 h5 h9 (by omega) (by omega) (by omega) (fun z => by have q1 := CT_t hC h1 z; have q2 := CT_fa hC h5 h9 z; exact ISQc_s (by decide) z (by omega) (by simp only [LWl]; omega))
    · refine En_Ps 1 (pc' := 25) (lv' := [(0, .ref 3), (1, .retAddr 13)]) (st' := [.int ((Int32.ofInt 0))]) rfl ?_
      refine En_top (by decide : (Int32.ofInt 0).toInt = 0) (fun z53 h54 => ?_)
      exact En_ret (v := some (.int z53)) rfl rfl (retZ rfl rfl (by omega) (by omega)) ⟨hσ0, hF0, z53, rfl, ⟨by omega, by omega, fun z => by have q1 := CT_t hC h1 z; have q2 := CT_fa hC h5 h9 z; have q := iW_0 (By := By) (Nb := Nb) (i := 6) (S := Sp) (by simp only [LWl]; omega); omega⟩⟩
/-- DoorSchool$Reader.stands(Ljava/lang/String;)Z -/
abbrev P_71s7x (σ0 : SG) (By : Int → Int) (Nb : Int) (Sp : PS) : PO := fun v σ => WT σ ∧ Fr [] σ0 σ ∧ ∃ ret : Int32, v = some (.int ret) ∧ -ret.toInt ≤ 0 ∧ ret.toInt - 1 ≤ 0 ∧ Imp (Sp.1 = 0) (ret.toInt = iW By Nb 7 Sp)
set_option maxRecDepth 10000 in
set_option maxHeartbeats 4000000 in
theorem c_71s7x {By : Int → Int} {Nb : Int} {Sp : PS} (σ0 : SG) (hσ0 : WT σ0) (hC : CT By Nb σ0 Sp) : En 4 90 none mr_71 (P_71s7x σ0 By Nb Sp) 0 [(0, .ref 3), (1, .retAddr 15)] [] σ0 := by
  have hF0 : Fr [] σ0 σ0 := Fr_rfl
  obtain ⟨z2, h1, h3, h4⟩ := WT_peekI hσ0 tgz_3 (by decide +kernel : FT 3 1 = (0, 0, 4)) (by decide +kernel)
  obtain ⟨z6, h5, h7, h8⟩ := WT_peekI hσ0 tgz_3 (by decide +kernel : FT 3 3 = (0, 0, 1600)) (by decide +kernel)
  obtain ⟨z10, h9, h11, h12⟩ := WT_peekI hσ0 tgz_3 (by decide +kernel : FT 3 2 = (0, 0, 1600)) (by decide +kernel)
  have h13 : Imp (Sp.1 = 0) (tK By Nb Sp.2.2.1 = z2.toInt) := CT_t hC h1
  refine En_Ps 1 (pc' := 1) (lv' := [(0, .ref 3), (1, .retAddr 15)]) (st' := [.ref 3]) rfl ?_
  refine En_getK (j := 1) h1 rfl rfl rfl tgz_3 (by decide +kernel) ?_
  refine En_Ps 1 (pc' := 5) (lv' := [(0, .ref 3), (1, .retAddr 15)]) (st' := [.int ((Int32.ofInt 1)), .int z2]) rfl ?_
  refine En_icNe _ rfl (by decide : (Int32.ofInt 1).toInt = 1) rfl (fun h14 => ?_) (fun h14 => ?_)
  · refine En_Ps 1 (pc' := 25) (lv' := [(0, .ref 3), (1, .retAddr 15)]) (st' := [.int ((Int32.ofInt 0))]) rfl ?_
    refine En_top (by decide : (Int32.ofInt 0).toInt = 0) (fun z15 h16 => ?_)
    exact En_ret (v := some (.int z15)) rfl rfl (retZ rfl rfl (by omega) (by omega)) ⟨hσ0, hF0, z15, rfl, ⟨by omega, by omega, fun z => by have q1 := CT_t hC h1 z; have q2 := CT_fa hC h5 h9 z; have q := iW_0 (By := By) (Nb := Nb) (i := 7) (S := Sp) (by simp only [LWl]; omega); omega⟩⟩
  · refine En_Ps 1 (pc' := 9) (lv' := [(0, .ref 3), (1, .retAddr 15)]) (st' := [.ref 3]) rfl ?_
    refine En_getK (j := 3) h5 rfl rfl rfl tgz_3 (by decide +kernel) ?_
    refine En_Ps 1 (pc' := 13) (lv' := [(0, .ref 3), (1, .retAddr 15)]) (st' := [.ref 3, .int z6]) rfl ?_
    refine En_getK (j := 2) h9 rfl rfl rfl tgz_3 (by decide +kernel) ?_
    refine En_Ps 1 (pc' := 17) (lv' := [(0, .ref 3), (1, .retAddr 15)]) (st' := [.int ((z6 - z10))]) rfl ?_
    refine En_top (subI rfl rfl (by omega) (by omega)) (fun z17 h18 => ?_)
    refine En_Ps 1 (pc' := 18) (lv' := [(0, .ref 3), (1, .retAddr 15)]) (st' := [.retAddr 15, .int z17]) rfl ?_
    refine En_slen 7 7 rfl rfl (by decide) rfl ?_
    refine En_icEq _ rfl (by decide : (Int32.ofNat 7).toInt = 7) rfl (fun h19 => ?_) (fun h19 => ?_)
    · refine En_Ps 2 (pc' := 28) (lv' := [(2, .int ((Int32.ofInt 0))), (0, .ref 3), (1, .retAddr 15)]) (st' := []) rfl ?_
      have key28 : ∀ (n28 : Nat) (σ21 : SG) (y20 : Int32), WT σ21 → Fr [] σ0 σ21 → (σ21 3)[1]? = some (.int z2) → (σ21 3)[3]? = some (.int z6) → (σ21 3)[2]? = some (.int z10) → 0 ≤ y20.toInt → y20.toInt ≤ 7 → z6.toInt - y20.toInt < (n28 : Int) → Imp (Sp.1 = 0) (ISQ By Nb 7 Sp 1 y20.toInt) → En 4 90 none mr_71 (P_71s7x σ0 By Nb Sp) 28 [(0, .ref 3), (1, .retAddr 15), (2, .int y20)] [] σ21 := by
        intro n28
        induction n28 with
        | zero =>
          intro σ21 y20 h22 h23 h24 h25 h26 h27 h28 h29 h30
          exfalso; omega
        | succ n28 ih28 =>
          intro σ21 y20 h22 h23 h24 h25 h26 h27 h28 h29 h30
          refine En_Ps 2 (pc' := 30) (lv' := [(0, .ref 3), (1, .retAddr 15), (2, .int y20)]) (st' := [.retAddr 15, .int y20]) rfl ?_
          refine En_slen 7 7 rfl rfl (by decide) rfl ?_
          refine En_icGe _ rfl (by decide : (Int32.ofNat 7).toInt = 7) rfl (fun h31 => ?_) (fun h31 => ?_)
          · refine En_Ps 1 (pc' := 67) (lv' := [(0, .ref 3), (1, .retAddr 15), (2, .int y20)]) (st' := [.int ((Int32.ofInt 1))]) rfl ?_
            refine En_top (by decide : (Int32.ofInt 1).toInt = 1) (fun z32 h33 => ?_)
            exact En_ret (v := some (.int z32)) rfl rfl (retZ rfl rfl (by omega) (by omega)) ⟨h22, h23, z32, rfl, ⟨by omega, by omega, fun z => by have q := ISQ_x (Imp_m h30 z) (Or.inr (by simp only [LWl]; omega)); omega⟩⟩
          · refine En_Ps 1 (pc' := 37) (lv' := [(0, .ref 3), (1, .retAddr 15), (2, .int y20)]) (st' := [.ref 3]) rfl ?_
            refine En_getU (j := 0) (u := 1) (g' := 1) (q := 0) rfl rfl rfl tgz_3 (by decide +kernel) h22 (by decide +kernel) (by decide +kernel) (fun h34 => ?_)
            refine En_getU (j := 0) (u := 2) (g' := 2) (q := 0) rfl rfl rfl tgz_1 (by decide +kernel) h22 (by decide +kernel) (by decide +kernel) (fun h36 => ?_)
            refine En_Ps 1 (pc' := 44) (lv' := [(0, .ref 3), (1, .retAddr 15), (2, .int y20)]) (st' := [.ref 3, .ref 2]) rfl ?_
            refine En_getK (j := 2) h26 rfl rfl rfl tgz_3 (by decide +kernel) ?_
            refine En_Ps 2 (pc' := 49) (lv' := [(0, .ref 3), (1, .retAddr 15), (2, .int y20)]) (st' := [.int ((z10 + y20)), .ref 2]) rfl ?_
            refine En_top (addI rfl rfl (by omega) (by omega)) (fun z38 h39 => ?_)
            refine En_bald (l := (-128)) (u := 127) rfl rfl tgz_2 (by decide +kernel) h22 (by omega) (lnI (by decide +kernel : LN _ = 1600) (by omega)) (FTsgl (by decide +kernel)) (fun z41 h40 h42 h43 => ?_)
            refine En_Ps 2 (pc' := 52) (lv' := [(0, .ref 3), (1, .retAddr 15), (2, .int y20)]) (st' := [.int y20, .retAddr 15, .int z41]) rfl ?_
            refine En_scharX 7 7 rfl rfl rfl (by decide) (by omega) (by omega) rfl (fun z44 h45 h46 h47 => ?_)
            refine En_icEq _ rfl rfl rfl (fun h48 => ?_) (fun h48 => ?_)
            · refine En_Ps 1 (pc' := 63) (lv' := [(2, .int ((y20 + Int32.ofInt 1))), (0, .ref 3), (1, .retAddr 15)]) (st' := []) rfl ?_
              refine En_lv1 (addI rfl (by decide : (Int32.ofInt 1).toInt = 1) (by omega) (by omega)) (fun z49 h50 => ?_)
              refine En_Ps 1 (pc' := 28) (lv' := [(2, .int z49), (0, .ref 3), (1, .retAddr 15)]) (st' := []) rfl ?_
              refine En_lv (lv := [(0, .ref 3), (1, .retAddr 15), (2, .int z49)]) ⟨rfl, rfl, rfl, trivial⟩ ?_
              exact ih28 σ21 z49 h22 h23 h24 h25 h26 (by omega) (by omega) (by omega) (fun z => by have q1 := CT_t hC h1 z; have q2 := CT_fa hC h5 h9 z; exact ISQc_n (CT_fr hC h23 (by decide +kernel)) (Imp_m h30 z) (by simp only [LWl]; omega) (by omega) h40 h47 (by omega) (by omega))
            · refine En_Ps 1 (pc' := 59) (lv' := [(0, .ref 3), (1, .retAddr 15), (2, .int y20)]) (st' := [.int ((Int32.ofInt 0))]) rfl ?_
              refine En_top (by decide : (Int32.ofInt 0).toInt = 0) (fun z51 h52 => ?_)
              exact En_ret (v := some (.int z51)) rfl rfl (retZ rfl rfl (by omega) (by omega)) ⟨h22, h23, z51, rfl, ⟨by omega, by omega, fun z => by have q1 := CT_t hC h1 z; have q2 := CT_fa hC h5 h9 z; have q := ISQc_n (b' := 0) (CT_fr hC h23 (by decide +kernel)) (Imp_m h30 z) (by simp only [LWl]; omega) (by omega) h40 h47 rfl (Or.inr ⟨rfl, by omega⟩); have q2 := ISQ_x q (Or.inl rfl); omega⟩⟩
      have := (by decide : (Int32.ofInt 0).toInt = 0)
      refine En_lv (lv := [(0, .ref 3), (1, .retAddr 15), (2, .int ((Int32.ofInt 0)))]) ⟨rfl, rfl, rfl, trivial⟩ ?_
      exact key28 (Int.toNat (z6.toInt) + 1) σ0 ((Int32.ofInt 0)) hσ0 hF0 h1 h5 h9 (by omega) (by omega) (by omega) (fun z => by have q1 := CT_t hC h1 z; have q2 := CT_fa hC h5 h9 z; exact ISQc_s (by decide) z (by omega) (by simp only [LWl]; omega))
    · refine En_Ps 1 (pc' := 25) (lv' := [(0, .ref 3), (1, .retAddr 15)]) (st' := [.int ((Int32.ofInt 0))]) rfl ?_
      refine En_top (by decide : (Int32.ofInt 0).toInt = 0) (fun z53 h54 => ?_)
      exact En_ret (v := some (.int z53)) rfl rfl (retZ rfl rfl (by omega) (by omega)) ⟨hσ0, hF0, z53, rfl, ⟨by omega, by omega, fun z => by have q1 := CT_t hC h1 z; have q2 := CT_fa hC h5 h9 z; have q := iW_0 (By := By) (Nb := Nb) (i := 7) (S := Sp) (by simp only [LWl]; omega); omega⟩⟩
/-- DoorSchool$Reader.stands(Ljava/lang/String;)Z -/
abbrev P_71s8x (σ0 : SG) (By : Int → Int) (Nb : Int) (Sp : PS) : PO := fun v σ => WT σ ∧ Fr [] σ0 σ ∧ ∃ ret : Int32, v = some (.int ret) ∧ -ret.toInt ≤ 0 ∧ ret.toInt - 1 ≤ 0 ∧ Imp (Sp.1 = 0) (ret.toInt = iW By Nb 8 Sp)
set_option maxRecDepth 10000 in
set_option maxHeartbeats 4000000 in
theorem c_71s8x {By : Int → Int} {Nb : Int} {Sp : PS} (σ0 : SG) (hσ0 : WT σ0) (hC : CT By Nb σ0 Sp) : En 4 90 none mr_71 (P_71s8x σ0 By Nb Sp) 0 [(0, .ref 3), (1, .retAddr 17)] [] σ0 := by
  have hF0 : Fr [] σ0 σ0 := Fr_rfl
  obtain ⟨z2, h1, h3, h4⟩ := WT_peekI hσ0 tgz_3 (by decide +kernel : FT 3 1 = (0, 0, 4)) (by decide +kernel)
  obtain ⟨z6, h5, h7, h8⟩ := WT_peekI hσ0 tgz_3 (by decide +kernel : FT 3 3 = (0, 0, 1600)) (by decide +kernel)
  obtain ⟨z10, h9, h11, h12⟩ := WT_peekI hσ0 tgz_3 (by decide +kernel : FT 3 2 = (0, 0, 1600)) (by decide +kernel)
  have h13 : Imp (Sp.1 = 0) (tK By Nb Sp.2.2.1 = z2.toInt) := CT_t hC h1
  refine En_Ps 1 (pc' := 1) (lv' := [(0, .ref 3), (1, .retAddr 17)]) (st' := [.ref 3]) rfl ?_
  refine En_getK (j := 1) h1 rfl rfl rfl tgz_3 (by decide +kernel) ?_
  refine En_Ps 1 (pc' := 5) (lv' := [(0, .ref 3), (1, .retAddr 17)]) (st' := [.int ((Int32.ofInt 1)), .int z2]) rfl ?_
  refine En_icNe _ rfl (by decide : (Int32.ofInt 1).toInt = 1) rfl (fun h14 => ?_) (fun h14 => ?_)
  · refine En_Ps 1 (pc' := 25) (lv' := [(0, .ref 3), (1, .retAddr 17)]) (st' := [.int ((Int32.ofInt 0))]) rfl ?_
    refine En_top (by decide : (Int32.ofInt 0).toInt = 0) (fun z15 h16 => ?_)
    exact En_ret (v := some (.int z15)) rfl rfl (retZ rfl rfl (by omega) (by omega)) ⟨hσ0, hF0, z15, rfl, ⟨by omega, by omega, fun z => by have q1 := CT_t hC h1 z; have q2 := CT_fa hC h5 h9 z; have q := iW_0 (By := By) (Nb := Nb) (i := 8) (S := Sp) (by simp only [LWl]; omega); omega⟩⟩
  · refine En_Ps 1 (pc' := 9) (lv' := [(0, .ref 3), (1, .retAddr 17)]) (st' := [.ref 3]) rfl ?_
    refine En_getK (j := 3) h5 rfl rfl rfl tgz_3 (by decide +kernel) ?_
    refine En_Ps 1 (pc' := 13) (lv' := [(0, .ref 3), (1, .retAddr 17)]) (st' := [.ref 3, .int z6]) rfl ?_
    refine En_getK (j := 2) h9 rfl rfl rfl tgz_3 (by decide +kernel) ?_
    refine En_Ps 1 (pc' := 17) (lv' := [(0, .ref 3), (1, .retAddr 17)]) (st' := [.int ((z6 - z10))]) rfl ?_
    refine En_top (subI rfl rfl (by omega) (by omega)) (fun z17 h18 => ?_)
    refine En_Ps 1 (pc' := 18) (lv' := [(0, .ref 3), (1, .retAddr 17)]) (st' := [.retAddr 17, .int z17]) rfl ?_
    refine En_slen 8 4 rfl rfl (by decide) rfl ?_
    refine En_icEq _ rfl (by decide : (Int32.ofNat 4).toInt = 4) rfl (fun h19 => ?_) (fun h19 => ?_)
    · refine En_Ps 2 (pc' := 28) (lv' := [(2, .int ((Int32.ofInt 0))), (0, .ref 3), (1, .retAddr 17)]) (st' := []) rfl ?_
      have key28 : ∀ (n28 : Nat) (σ21 : SG) (y20 : Int32), WT σ21 → Fr [] σ0 σ21 → (σ21 3)[1]? = some (.int z2) → (σ21 3)[3]? = some (.int z6) → (σ21 3)[2]? = some (.int z10) → 0 ≤ y20.toInt → y20.toInt ≤ 4 → z6.toInt - y20.toInt < (n28 : Int) → Imp (Sp.1 = 0) (ISQ By Nb 8 Sp 1 y20.toInt) → En 4 90 none mr_71 (P_71s8x σ0 By Nb Sp) 28 [(0, .ref 3), (1, .retAddr 17), (2, .int y20)] [] σ21 := by
        intro n28
        induction n28 with
        | zero =>
          intro σ21 y20 h22 h23 h24 h25 h26 h27 h28 h29 h30
          exfalso; omega
        | succ n28 ih28 =>
          intro σ21 y20 h22 h23 h24 h25 h26 h27 h28 h29 h30
          refine En_Ps 2 (pc' := 30) (lv' := [(0, .ref 3), (1, .retAddr 17), (2, .int y20)]) (st' := [.retAddr 17, .int y20]) rfl ?_
          refine En_slen 8 4 rfl rfl (by decide) rfl ?_
          refine En_icGe _ rfl (by decide : (Int32.ofNat 4).toInt = 4) rfl (fun h31 => ?_) (fun h31 => ?_)
          · refine En_Ps 1 (pc' := 67) (lv' := [(0, .ref 3), (1, .retAddr 17), (2, .int y20)]) (st' := [.int ((Int32.ofInt 1))]) rfl ?_
            refine En_top (by decide : (Int32.ofInt 1).toInt = 1) (fun z32 h33 => ?_)
            exact En_ret (v := some (.int z32)) rfl rfl (retZ rfl rfl (by omega) (by omega)) ⟨h22, h23, z32, rfl, ⟨by omega, by omega, fun z => by have q := ISQ_x (Imp_m h30 z) (Or.inr (by simp only [LWl]; omega)); omega⟩⟩
          · refine En_Ps 1 (pc' := 37) (lv' := [(0, .ref 3), (1, .retAddr 17), (2, .int y20)]) (st' := [.ref 3]) rfl ?_
            refine En_getU (j := 0) (u := 1) (g' := 1) (q := 0) rfl rfl rfl tgz_3 (by decide +kernel) h22 (by decide +kernel) (by decide +kernel) (fun h34 => ?_)
            refine En_getU (j := 0) (u := 2) (g' := 2) (q := 0) rfl rfl rfl tgz_1 (by decide +kernel) h22 (by decide +kernel) (by decide +kernel) (fun h36 => ?_)
            refine En_Ps 1 (pc' := 44) (lv' := [(0, .ref 3), (1, .retAddr 17), (2, .int y20)]) (st' := [.ref 3, .ref 2]) rfl ?_
            refine En_getK (j := 2) h26 rfl rfl rfl tgz_3 (by decide +kernel) ?_
            refine En_Ps 2 (pc' := 49) (lv' := [(0, .ref 3), (1, .retAddr 17), (2, .int y20)]) (st' := [.int ((z10 + y20)), .ref 2]) rfl ?_
            refine En_top (addI rfl rfl (by omega) (by omega)) (fun z38 h39 => ?_)
            refine En_bald (l := (-128)) (u := 127) rfl rfl tgz_2 (by decide +kernel) h22 (by omega) (lnI (by decide +kernel : LN _ = 1600) (by omega)) (FTsgl (by decide +kernel)) (fun z41 h40 h42 h43 => ?_)
            refine En_Ps 2 (pc' := 52) (lv' := [(0, .ref 3), (1, .retAddr 17), (2, .int y20)]) (st' := [.int y20, .retAddr 17, .int z41]) rfl ?_
            refine En_scharX 8 4 rfl rfl rfl (by decide) (by omega) (by omega) rfl (fun z44 h45 h46 h47 => ?_)
            refine En_icEq _ rfl rfl rfl (fun h48 => ?_) (fun h48 => ?_)
            · refine En_Ps 1 (pc' := 63) (lv' := [(2, .int ((y20 + Int32.ofInt 1))), (0, .ref 3), (1, .retAddr 17)]) (st' := []) rfl ?_
              refine En_lv1 (addI rfl (by decide : (Int32.ofInt 1).toInt = 1) (by omega) (by omega)) (fun z49 h50 => ?_)
              refine En_Ps 1 (pc' := 28) (lv' := [(2, .int z49), (0, .ref 3), (1, .retAddr 17)]) (st' := []) rfl ?_
              refine En_lv (lv := [(0, .ref 3), (1, .retAddr 17), (2, .int z49)]) ⟨rfl, rfl, rfl, trivial⟩ ?_
              exact ih28 σ21 z49 h22 h23 h24 h25 h26 (by omega) (by omega) (by omega) (fun z => by have q1 := CT_t hC h1 z; have q2 := CT_fa hC h5 h9 z; exact ISQc_n (CT_fr hC h23 (by decide +kernel)) (Imp_m h30 z) (by simp only [LWl]; omega) (by omega) h40 h47 (by omega) (by omega))
            · refine En_Ps 1 (pc' := 59) (lv' := [(0, .ref 3), (1, .retAddr 17), (2, .int y20)]) (st' := [.int ((Int32.ofInt 0))]) rfl ?_
              refine En_top (by decide : (Int32.ofInt 0).toInt = 0) (fun z51 h52 => ?_)
              exact En_ret (v := some (.int z51)) rfl rfl (retZ rfl rfl (by omega) (by omega)) ⟨h22, h23, z51, rfl, ⟨by omega, by omega, fun z => by have q1 := CT_t hC h1 z; have q2 := CT_fa hC h5 h9 z; have q := ISQc_n (b' := 0) (CT_fr hC h23 (by decide +kernel)) (Imp_m h30 z) (by simp only [LWl]; omega) (by omega) h40 h47 rfl (Or.inr ⟨rfl, by omega⟩); have q2 := ISQ_x q (Or.inl rfl); omega⟩⟩
      have := (by decide : (Int32.ofInt 0).toInt = 0)
      refine En_lv (lv := [(0, .ref 3), (1, .retAddr 17), (2, .int ((Int32.ofInt 0)))]) ⟨rfl, rfl, rfl, trivial⟩ ?_
      exact key28 (Int.toNat (z6.toInt) + 1) σ0 ((Int32.ofInt 0)) hσ0 hF0 h1 h5 h9 (by omega) (by omega) (by omega) (fun z => by have q1 := CT_t hC h1 z; have q2 := CT_fa hC h5 h9 z; exact ISQc_s (by decide) z (by omega) (by simp only [LWl]; omega))
    · refine En_Ps 1 (pc' := 25) (lv' := [(0, .ref 3), (1, .retAddr 17)]) (st' := [.int ((Int32.ofInt 0))]) rfl ?_
      refine En_top (by decide : (Int32.ofInt 0).toInt = 0) (fun z53 h54 => ?_)
      exact En_ret (v := some (.int z53)) rfl rfl (retZ rfl rfl (by omega) (by omega)) ⟨hσ0, hF0, z53, rfl, ⟨by omega, by omega, fun z => by have q1 := CT_t hC h1 z; have q2 := CT_fa hC h5 h9 z; have q := iW_0 (By := By) (Nb := Nb) (i := 8) (S := Sp) (by simp only [LWl]; omega); omega⟩⟩

