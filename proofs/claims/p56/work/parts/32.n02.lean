/-- DoorSchool$Reader.pass(Z)V -/
abbrev P_59x (σ0 : SG) (By : Int → Int) (Nb : Int) (Sp : PS) (a : Int32) (f : Int32) : PO := fun v σ => WT σ ∧ Fr [(3, 1), (3, 2), (3, 3), (3, 4), (3, 5), (3, 6)] σ0 σ ∧ ∃ f1 : Int32, (σ 3)[5]? = some (.int f1) ∧ v = none ∧ -f1.toInt ≤ 0 ∧ f1.toInt - 3 ≤ 0 ∧ -f1.toInt + f.toInt ≤ 0 ∧ Imp (-a.toInt + 1 ≤ 0) (f1.toInt - f.toInt ≤ 0 ∧ -f1.toInt + f.toInt ≤ 0) ∧ f.toInt - f1.toInt ≤ 0 ∧ Imp (a.toInt ≤ 0) (-f1.toInt + 1 ≤ 0) ∧ CT By Nb σ (pss By Nb a.toInt Sp)
set_option maxRecDepth 10000 in
set_option maxHeartbeats 4000000 in
theorem c_59x {By : Int → Int} {Nb : Int} {Sp : PS} (σ0 : SG) (hσ0 : WT σ0) (a : Int32) (hl_a : 0 ≤ a.toInt) (hu_a : a.toInt ≤ 1) (f : Int32) (h_f : (σ0 3)[5]? = some (.int f)) (hC : CT By Nb σ0 Sp) : En 2 42 none mr_59 (P_59x σ0 By Nb Sp a f) 0 [(0, .ref 3), (1, .int a)] [] σ0 := by
  obtain ⟨hl_f, hu_f⟩ := WT_int hσ0 (g := 3) (by decide +kernel) (by decide +kernel) (l := 0) (u := 3) (by decide +kernel) h_f
  have hF0 : Fr [(3, 1), (3, 2), (3, 3), (3, 4), (3, 5), (3, 6)] σ0 σ0 := Fr_rfl
  have h1 := CT_k hC h_f
  refine En_Ps 1 (pc' := 1) (lv' := [(0, .ref 3), (1, .int a)]) (st' := [.int a]) rfl ?_
  refine En_iNe _ rfl rfl (fun h2 => ?_) (fun h2 => ?_)
  · refine En_Ps 1 (pc' := 10) (lv' := [(0, .ref 3), (1, .int a)]) (st' := [.ref 3]) rfl ?_
    refine En_getK (j := 5) h_f rfl rfl rfl tgz_3 (by decide +kernel) ?_
    refine En_iNe _ rfl rfl (fun h3 => ?_) (fun h3 => ?_)
    · exact En_ret (v := none) rfl rfl rfl ⟨hσ0, hF0, f, h_f, rfl, ⟨by first | exact q_787f1164f6 h3 hl_f | omega, by first | exact q_e9a8eec0c4 hu_f | omega, by first | exact q_857069189f | omega, fun hh => by first | exact ⟨q_1bb76abeaf, q_857069189f⟩ | omega, by first | exact q_1bb76abeaf | omega, fun hh => by first | exact q_e74c65d0a8 h3 hl_f | omega, (by first | exact CT_eq hC (pss_bad (by omega)).symm | exact CT_eq hC (psc_1 (by omega)) | exact CT_eq hC (psc_0 (by omega)))⟩⟩
    · refine En_Ps 1 (pc' := 17) (lv' := [(0, .ref 3), (1, .int a)]) (st' := [.ref 3]) rfl ?_
      obtain ⟨z5, h4, h6, h7⟩ := WT_peekI hσ0 tgz_3 (by decide +kernel : FT 3 3 = (0, 0, 1600)) (by decide +kernel)
      refine En_callV rfl rfl rfl rfl rfl rfl rfl rfl tgz_3 (by decide +kernel) rfl (c_72x σ0 hσ0 z5 h4 hC.1 (CT_at hC (by omega) h4)) (by decide) (by decide) (fun v9 σ10 h8 => ?_)
      obtain ⟨h11, h12, rfl, h13⟩ := h8
      have h14 := h13
      have h15 := Fr_trans hF0 h12 (by decide +kernel)
      obtain ⟨S16, h17⟩ : ∃ q : PS, q = adv By Nb Sp := ⟨_, rfl⟩
      have h18 : CT By Nb σ10 S16 := by rw [h17]; exact (CT_adv hC (by omega) h4 h12 (by decide +kernel) h14.2)
      have h19 := CT_k h18 ((h12 _ _ (inW tgz_3 (by decide +kernel))).trans h_f)
      have h20 : S16.2.2.2 = Sp.2.2.2 := by rw [h17]; exact adv_w
      have h21 : S16.1 = Sp.1 := by rw [h17]; exact adv_1
      exact En_ret (v := none) rfl rfl rfl ⟨h11, h15, f, ((h12 _ _ (inW tgz_3 (by decide +kernel))).trans h_f), rfl, ⟨by first | exact q_c803b490ef hl_f | omega, by first | exact q_bd3fa30443 h3 | omega, by first | exact q_857069189f | omega, fun hh => by first | exact ⟨q_1bb76abeaf, q_857069189f⟩ | omega, by first | exact q_1bb76abeaf | omega, fun _ => by omega, (by subst h17; first | exact CT_eq h18 (pss_bad (by omega)).symm | exact CT_eq h18 (psc_1 (by omega)) | exact CT_eq h18 (psc_0 (by omega)))⟩⟩
  · refine En_Ps 2 (pc' := 6) (lv' := [(0, .ref 3), (1, .int a)]) (st' := [.int ((Int32.ofInt 1)), .ref 3]) rfl ?_
    have := (by decide : ((Int32.ofInt 1)).toInt = 1)
    refine En_callV rfl rfl rfl rfl rfl rfl rfl rfl tgz_3 (by decide +kernel) rfl (c_54x σ0 hσ0 ((Int32.ofInt 1)) (geI (by decide : (Int32.ofInt 1).toInt = 1) (by decide)) (leI (by decide : (Int32.ofInt 1).toInt = 1) (by decide)) f h_f hC) (by decide) (by decide) (fun v23 σ24 h22 => ?_)
    obtain ⟨h25, h26, z28, h29, rfl, h27⟩ := h22
    have h30 := h27.2.2.2.2.2
    have h31 := Fr_trans hF0 h26 (by decide +kernel)
    obtain ⟨S32, h33⟩ : ∃ q : PS, q = err By Nb 1 Sp := ⟨_, rfl⟩
    have h34 : CT By Nb σ24 S32 := by rw [h33]; exact (CT_eq h30 (err_cg (by omega)))
    have h35 := CT_k h34 h29
    have h36 : S32.2.2.2 = Sp.2.2.2 := by rw [h33]; exact err_w
    refine En_Ps 1 (pc' := 10) (lv' := [(0, .ref 3), (1, .int a)]) (st' := [.ref 3]) rfl ?_
    refine En_getK (j := 5) h29 rfl rfl rfl tgz_3 (by decide +kernel) ?_
    refine En_iNe _ rfl rfl (fun h37 => ?_) (fun hx => by exfalso; have := Imp_m h27.2.2.2.1 (by omega); have := Imp_m h27.2.2.2.2.1 (by omega); omega)
    exact En_ret (v := none) rfl rfl rfl ⟨h25, h31, z28, h29, rfl, ⟨by first | exact q_1a6ee862c1 h27.1 | omega, by first | exact q_c733b715bf h27.2.1 | omega, by first | exact q_d22b102a8e h27.2.2.1 | omega, fun _ => by omega, by first | exact q_83f4b1e050 h27.2.2.1 | omega, fun hh => by first | exact q_68fbff215b h27.1 | omega, (by subst h33; first | exact CT_eq h34 (pss_bad (by omega)).symm | exact CT_eq h34 (psc_1 (by omega)) | exact CT_eq h34 (psc_0 (by omega)))⟩⟩
/-- DoorSchool$Reader.stands(Ljava/lang/String;)Z -/
abbrev P_71gx (iL : Nat) (σ0 : SG) (By : Int → Int) (Nb : Int) (Sp : PS) : PO := fun v σ => WT σ ∧ Fr [] σ0 σ ∧ ∃ ret : Int32, v = some (.int ret) ∧ -ret.toInt ≤ 0 ∧ ret.toInt - 1 ≤ 0 ∧ Imp (Sp.1 = 0) (ret.toInt = iW By Nb iL Sp)
set_option maxRecDepth 10000 in
set_option maxHeartbeats 4000000 in
theorem c_71gx (iL nL : Nat) (gn : (decide (iL < NSTR) && decide (LENS.getD iL 0 = nL)) = true) (gN : (Int32.ofNat nL).toInt = (nL : Int)) (gL : (LW iL).length = nL) (g1 : 1 ≤ nL) (g9 : nL ≤ 20) {By : Int → Int} {Nb : Int} {Sp : PS} (σ0 : SG) (hσ0 : WT σ0) (hC : CT By Nb σ0 Sp) : En 4 90 none mr_71 (P_71gx iL σ0 By Nb Sp) 0 [(0, .ref 3), (1, .retAddr (2 * iL + 1))] [] σ0 := by
  have hF0 : Fr [] σ0 σ0 := Fr_rfl
  obtain ⟨z2, h1, h3, h4⟩ := WT_peekI hσ0 tgz_3 (by decide +kernel : FT 3 1 = (0, 0, 4)) (by decide +kernel)
  obtain ⟨z6, h5, h7, h8⟩ := WT_peekI hσ0 tgz_3 (by decide +kernel : FT 3 3 = (0, 0, 1600)) (by decide +kernel)
  obtain ⟨z10, h9, h11, h12⟩ := WT_peekI hσ0 tgz_3 (by decide +kernel : FT 3 2 = (0, 0, 1600)) (by decide +kernel)
  have h13 : Imp (Sp.1 = 0) (tK By Nb Sp.2.2.1 = z2.toInt) := CT_t hC h1
  refine En_Ps 1 (pc' := 1) (lv' := [(0, .ref 3), (1, .retAddr (2 * iL + 1))]) (st' := [.ref 3]) rfl ?_
  refine En_getK (j := 1) h1 rfl rfl rfl tgz_3 (by decide +kernel) ?_
  refine En_Ps 1 (pc' := 5) (lv' := [(0, .ref 3), (1, .retAddr (2 * iL + 1))]) (st' := [.int ((Int32.ofInt 1)), .int z2]) rfl ?_
  refine En_icNe _ rfl (by decide : (Int32.ofInt 1).toInt = 1) rfl (fun h14 => ?_) (fun h14 => ?_)
  · refine En_Ps 1 (pc' := 25) (lv' := [(0, .ref 3), (1, .retAddr (2 * iL + 1))]) (st' := [.int ((Int32.ofInt 0))]) rfl ?_
    refine En_top (by decide : (Int32.ofInt 0).toInt = 0) (fun z15 h16 => ?_)
    exact En_ret (v := some (.int z15)) rfl rfl (retZ rfl rfl (by omega) (by omega)) ⟨hσ0, hF0, z15, rfl, ⟨by omega, by omega, fun z => by have q1 := CT_t hC h1 z; have q2 := CT_fa hC h5 h9 z; have q := iW_0 (By := By) (Nb := Nb) (i := iL) (S := Sp) (by simp only [gL]; omega); omega⟩⟩
  · refine En_Ps 1 (pc' := 9) (lv' := [(0, .ref 3), (1, .retAddr (2 * iL + 1))]) (st' := [.ref 3]) rfl ?_
    refine En_getK (j := 3) h5 rfl rfl rfl tgz_3 (by decide +kernel) ?_
    refine En_Ps 1 (pc' := 13) (lv' := [(0, .ref 3), (1, .retAddr (2 * iL + 1))]) (st' := [.ref 3, .int z6]) rfl ?_
    refine En_getK (j := 2) h9 rfl rfl rfl tgz_3 (by decide +kernel) ?_
    refine En_Ps 1 (pc' := 17) (lv' := [(0, .ref 3), (1, .retAddr (2 * iL + 1))]) (st' := [.int ((z6 - z10))]) rfl ?_
    refine En_top (subI rfl rfl (by omega) (by omega)) (fun z17 h18 => ?_)
    refine En_Ps 1 (pc' := 18) (lv' := [(0, .ref 3), (1, .retAddr (2 * iL + 1))]) (st' := [.retAddr (2 * iL + 1), .int z17]) rfl ?_
    refine En_slen iL nL rfl rfl gn rfl ?_
    refine En_icEq _ rfl gN rfl (fun h19 => ?_) (fun h19 => ?_)
    · refine En_Ps 2 (pc' := 28) (lv' := [(2, .int ((Int32.ofInt 0))), (0, .ref 3), (1, .retAddr (2 * iL + 1))]) (st' := []) rfl ?_
      have key28 : ∀ (n28 : Nat) (σ21 : SG) (y20 : Int32), WT σ21 → Fr [] σ0 σ21 → (σ21 3)[1]? = some (.int z2) → (σ21 3)[3]? = some (.int z6) → (σ21 3)[2]? = some (.int z10) → 0 ≤ y20.toInt → y20.toInt ≤ nL → z6.toInt - y20.toInt < (n28 : Int) → Imp (Sp.1 = 0) (ISQ By Nb iL Sp 1 y20.toInt) → En 4 90 none mr_71 (P_71gx iL σ0 By Nb Sp) 28 [(0, .ref 3), (1, .retAddr (2 * iL + 1)), (2, .int y20)] [] σ21 := by
        intro n28
        induction n28 with
        | zero =>
          intro σ21 y20 h22 h23 h24 h25 h26 h27 h28 h29 h30
          exfalso; omega
        | succ n28 ih28 =>
          intro σ21 y20 h22 h23 h24 h25 h26 h27 h28 h29 h30
          refine En_Ps 2 (pc' := 30) (lv' := [(0, .ref 3), (1, .retAddr (2 * iL + 1)), (2, .int y20)]) (st' := [.retAddr (2 * iL + 1), .int y20]) rfl ?_
          refine En_slen iL nL rfl rfl gn rfl ?_
          refine En_icGe _ rfl gN rfl (fun h31 => ?_) (fun h31 => ?_)
          · refine En_Ps 1 (pc' := 67) (lv' := [(0, .ref 3), (1, .retAddr (2 * iL + 1)), (2, .int y20)]) (st' := [.int ((Int32.ofInt 1))]) rfl ?_
            refine En_top (by decide : (Int32.ofInt 1).toInt = 1) (fun z32 h33 => ?_)
            exact En_ret (v := some (.int z32)) rfl rfl (retZ rfl rfl (by omega) (by omega)) ⟨h22, h23, z32, rfl, ⟨by omega, by omega, fun z => by have q := ISQ_x (Imp_m h30 z) (Or.inr (by simp only [gL]; omega)); omega⟩⟩
          · refine En_Ps 1 (pc' := 37) (lv' := [(0, .ref 3), (1, .retAddr (2 * iL + 1)), (2, .int y20)]) (st' := [.ref 3]) rfl ?_
            refine En_getU (j := 0) (u := 1) (g' := 1) (q := 0) rfl rfl rfl tgz_3 (by decide +kernel) h22 (by decide +kernel) (by decide +kernel) (fun h34 => ?_)
            refine En_getU (j := 0) (u := 2) (g' := 2) (q := 0) rfl rfl rfl tgz_1 (by decide +kernel) h22 (by decide +kernel) (by decide +kernel) (fun h36 => ?_)
            refine En_Ps 1 (pc' := 44) (lv' := [(0, .ref 3), (1, .retAddr (2 * iL + 1)), (2, .int y20)]) (st' := [.ref 3, .ref 2]) rfl ?_
            refine En_getK (j := 2) h26 rfl rfl rfl tgz_3 (by decide +kernel) ?_
            refine En_Ps 2 (pc' := 49) (lv' := [(0, .ref 3), (1, .retAddr (2 * iL + 1)), (2, .int y20)]) (st' := [.int ((z10 + y20)), .ref 2]) rfl ?_
            refine En_top (addI rfl rfl (by omega) (by omega)) (fun z38 h39 => ?_)
            refine En_bald (l := (-128)) (u := 127) rfl rfl tgz_2 (by decide +kernel) h22 (by omega) (lnI (by decide +kernel : LN _ = 1600) (by omega)) (FTsgl (by decide +kernel)) (fun z41 h40 h42 h43 => ?_)
            refine En_Ps 2 (pc' := 52) (lv' := [(0, .ref 3), (1, .retAddr (2 * iL + 1)), (2, .int y20)]) (st' := [.int y20, .retAddr (2 * iL + 1), .int z41]) rfl ?_
            refine En_scharX iL nL rfl rfl rfl gn (by omega) (by omega) rfl (fun z44 h45 h46 h47 => ?_)
            refine En_icEq _ rfl rfl rfl (fun h48 => ?_) (fun h48 => ?_)
            · refine En_Ps 1 (pc' := 63) (lv' := [(2, .int ((y20 + Int32.ofInt 1))), (0, .ref 3), (1, .retAddr (2 * iL + 1))]) (st' := []) rfl ?_
              refine En_lv1 (addI rfl (by decide : (Int32.ofInt 1).toInt = 1) (by omega) (by omega)) (fun z49 h50 => ?_)
              refine En_Ps 1 (pc' := 28) (lv' := [(2, .int z49), (0, .ref 3), (1, .retAddr (2 * iL + 1))]) (st' := []) rfl ?_
              refine En_lv (lv := [(0, .ref 3), (1, .retAddr (2 * iL + 1)), (2, .int z49)]) ⟨rfl, rfl, rfl, trivial⟩ ?_
              exact ih28 σ21 z49 h22 h23 h24 h25 h26 (by omega) (by omega) (by omega) (fun z => by have q1 := CT_t hC h1 z; have q2 := CT_fa hC h5 h9 z; exact ISQc_n (CT_fr hC h23 (by decide +kernel)) (Imp_m h30 z) (by simp only [gL]; omega) (by omega) h40 h47 (by omega) (by omega))
            · refine En_Ps 1 (pc' := 59) (lv' := [(0, .ref 3), (1, .retAddr (2 * iL + 1)), (2, .int y20)]) (st' := [.int ((Int32.ofInt 0))]) rfl ?_
              refine En_top (by decide : (Int32.ofInt 0).toInt = 0) (fun z51 h52 => ?_)
              exact En_ret (v := some (.int z51)) rfl rfl (retZ rfl rfl (by omega) (by omega)) ⟨h22, h23, z51, rfl, ⟨by omega, by omega, fun z => by have q1 := CT_t hC h1 z; have q2 := CT_fa hC h5 h9 z; have q := ISQc_n (b' := 0) (CT_fr hC h23 (by decide +kernel)) (Imp_m h30 z) (by simp only [gL]; omega) (by omega) h40 h47 rfl (Or.inr ⟨rfl, by omega⟩); have q2 := ISQ_x q (Or.inl rfl); omega⟩⟩
      have := (by decide : (Int32.ofInt 0).toInt = 0)
      refine En_lv (lv := [(0, .ref 3), (1, .retAddr (2 * iL + 1)), (2, .int ((Int32.ofInt 0)))]) ⟨rfl, rfl, rfl, trivial⟩ ?_
      exact key28 (Int.toNat (z6.toInt) + 1) σ0 ((Int32.ofInt 0)) hσ0 hF0 h1 h5 h9 (by omega) (by omega) (by omega) (fun z => by have q1 := CT_t hC h1 z; have q2 := CT_fa hC h5 h9 z; exact ISQc_s (by decide) z (by omega) (by simp only [gL]; omega))
    · refine En_Ps 1 (pc' := 25) (lv' := [(0, .ref 3), (1, .retAddr (2 * iL + 1))]) (st' := [.int ((Int32.ofInt 0))]) rfl ?_
      refine En_top (by decide : (Int32.ofInt 0).toInt = 0) (fun z53 h54 => ?_)
      exact En_ret (v := some (.int z53)) rfl rfl (retZ rfl rfl (by omega) (by omega)) ⟨hσ0, hF0, z53, rfl, ⟨by omega, by omega, fun z => by have q1 := CT_t hC h1 z; have q2 := CT_fa hC h5 h9 z; have q := iW_0 (By := By) (Nb := Nb) (i := iL) (S := Sp) (by simp only [gL]; omega); omega⟩⟩
/-- DoorSchool$Reader.stands(Ljava/lang/String;)Z -/
abbrev P_71s0x (σ0 : SG) (By : Int → Int) (Nb : Int) (Sp : PS) : PO := fun v σ => WT σ ∧ Fr [] σ0 σ ∧ ∃ ret : Int32, v = some (.int ret) ∧ -ret.toInt ≤ 0 ∧ ret.toInt - 1 ≤ 0 ∧ Imp (Sp.1 = 0) (ret.toInt = iW By Nb 0 Sp)
set_option maxRecDepth 10000 in
set_option maxHeartbeats 4000000 in
theorem c_71s0x {By : Int → Int} {Nb : Int} {Sp : PS} (σ0 : SG) (hσ0 : WT σ0) (hC : CT By Nb σ0 Sp) : En 4 90 none mr_71 (P_71s0x σ0 By Nb Sp) 0 [(0, .ref 3), (1, .retAddr 1)] [] σ0 := c_71gx 0 5 (by decide) (by decide) (by decide) (by decide) (by decide) σ0 hσ0 hC
/-- DoorSchool$Reader.stands(Ljava/lang/String;)Z -/
abbrev P_71s1x (σ0 : SG) (By : Int → Int) (Nb : Int) (Sp : PS) : PO := fun v σ => WT σ ∧ Fr [] σ0 σ ∧ ∃ ret : Int32, v = some (.int ret) ∧ -ret.toInt ≤ 0 ∧ ret.toInt - 1 ≤ 0 ∧ Imp (Sp.1 = 0) (ret.toInt = iW By Nb 1 Sp)
set_option maxRecDepth 10000 in
set_option maxHeartbeats 4000000 in
theorem c_71s1x {By : Int → Int} {Nb : Int} {Sp : PS} (σ0 : SG) (hσ0 : WT σ0) (hC : CT By Nb σ0 Sp) : En 4 90 none mr_71 (P_71s1x σ0 By Nb Sp) 0 [(0, .ref 3), (1, .retAddr 3)] [] σ0 := c_71gx 1 6 (by decide) (by decide) (by decide) (by decide) (by decide) σ0 hσ0 hC
/-- DoorSchool$Reader.stands(Ljava/lang/String;)Z -/
abbrev P_71s2x (σ0 : SG) (By : Int → Int) (Nb : Int) (Sp : PS) : PO := fun v σ => WT σ ∧ Fr [] σ0 σ ∧ ∃ ret : Int32, v = some (.int ret) ∧ -ret.toInt ≤ 0 ∧ ret.toInt - 1 ≤ 0 ∧ Imp (Sp.1 = 0) (ret.toInt = iW By Nb 2 Sp)
set_option maxRecDepth 10000 in
set_option maxHeartbeats 4000000 in
theorem c_71s2x {By : Int → Int} {Nb : Int} {Sp : PS} (σ0 : SG) (hσ0 : WT σ0) (hC : CT By Nb σ0 Sp) : En 4 90 none mr_71 (P_71s2x σ0 By Nb Sp) 0 [(0, .ref 3), (1, .retAddr 5)] [] σ0 := c_71gx 2 4 (by decide) (by decide) (by decide) (by decide) (by decide) σ0 hσ0 hC
/-- DoorSchool$Reader.stands(Ljava/lang/String;)Z -/
abbrev P_71s3x (σ0 : SG) (By : Int → Int) (Nb : Int) (Sp : PS) : PO := fun v σ => WT σ ∧ Fr [] σ0 σ ∧ ∃ ret : Int32, v = some (.int ret) ∧ -ret.toInt ≤ 0 ∧ ret.toInt - 1 ≤ 0 ∧ Imp (Sp.1 = 0) (ret.toInt = iW By Nb 3 Sp)
set_option maxRecDepth 10000 in
set_option maxHeartbeats 4000000 in
theorem c_71s3x {By : Int → Int} {Nb : Int} {Sp : PS} (σ0 : SG) (hσ0 : WT σ0) (hC : CT By Nb σ0 Sp) : En 4 90 none mr_71 (P_71s3x σ0 By Nb Sp) 0 [(0, .ref 3), (1, .retAddr 7)] [] σ0 := c_71gx 3 4 (by decide) (by decide) (by decide) (by decide) (by decide) σ0 hσ0 hC
/-- DoorSchool$Reader.stands(Ljava/lang/String;)Z -/
abbrev P_71s4x (σ0 : SG) (By : Int → Int) (Nb : Int) (Sp : PS) : PO := fun v σ => WT σ ∧ Fr [] σ0 σ ∧ ∃ ret : Int32, v = some (.int ret) ∧ -ret.toInt ≤ 0 ∧ ret.toInt - 1 ≤ 0 ∧ Imp (Sp.1 = 0) (ret.toInt = iW By Nb 4 Sp)
set_option maxRecDepth 10000 in
set_option maxHeartbeats 4000000 in
theorem c_71s4x {By : Int → Int} {Nb : Int} {Sp : PS} (σ0 : SG) (hσ0 : WT σ0) (hC : CT By Nb σ0 Sp) : En 4 90 none mr_71 (P_71s4x σ0 By Nb Sp) 0 [(0, .ref 3), (1, .retAddr 9)] [] σ0 := c_71gx 4 5 (by decide) (by decide) (by decide) (by decide) (by decide) σ0 hσ0 hC
/-- DoorSchool$Reader.stands(Ljava/lang/String;)Z -/
abbrev P_71s5x (σ0 : SG) (By : Int → Int) (Nb : Int) (Sp : PS) : PO := fun v σ => WT σ ∧ Fr [] σ0 σ ∧ ∃ ret : Int32, v = some (.int ret) ∧ -ret.toInt ≤ 0 ∧ ret.toInt - 1 ≤ 0 ∧ Imp (Sp.1 = 0) (ret.toInt = iW By Nb 5 Sp)
set_option maxRecDepth 10000 in
set_option maxHeartbeats 4000000 in
theorem c_71s5x {By : Int → Int} {Nb : Int} {Sp : PS} (σ0 : SG) (hσ0 : WT σ0) (hC : CT By Nb σ0 Sp) : En 4 90 none mr_71 (P_71s5x σ0 By Nb Sp) 0 [(0, .ref 3), (1, .retAddr 11)] [] σ0 := c_71gx 5 5 (by decide) (by decide) (by decide) (by decide) (by decide) σ0 hσ0 hC
/-- DoorSchool$Reader.stands(Ljava/lang/String;)Z -/
abbrev P_71s6x (σ0 : SG) (By : Int → Int) (Nb : Int) (Sp : PS) : PO := fun v σ => WT σ ∧ Fr [] σ0 σ ∧ ∃ ret : Int32, v = some (.int ret) ∧ -ret.toInt ≤ 0 ∧ ret.toInt - 1 ≤ 0 ∧ Imp (Sp.1 = 0) (ret.toInt = iW By Nb 6 Sp)
set_option maxRecDepth 10000 in
set_option maxHeartbeats 4000000 in
theorem c_71s6x {By : Int → Int} {Nb : Int} {Sp : PS} (σ0 : SG) (hσ0 : WT σ0) (hC : CT By Nb σ0 Sp) : En 4 90 none mr_71 (P_71s6x σ0 By Nb Sp) 0 [(0, .ref 3), (1, .retAddr 13)] [] σ0 := c_71gx 6 6 (by decide) (by decide) (by decide) (by decide) (by decide) σ0 hσ0 hC
/-- DoorSchool$Reader.stands(Ljava/lang/String;)Z -/
abbrev P_71s7x (σ0 : SG) (By : Int → Int) (Nb : Int) (Sp : PS) : PO := fun v σ => WT σ ∧ Fr [] σ0 σ ∧ ∃ ret : Int32, v = some (.int ret) ∧ -ret.toInt ≤ 0 ∧ ret.toInt - 1 ≤ 0 ∧ Imp (Sp.1 = 0) (ret.toInt = iW By Nb 7 Sp)
set_option maxRecDepth 10000 in
set_option maxHeartbeats 4000000 in
theorem c_71s7x {By : Int → Int} {Nb : Int} {Sp : PS} (σ0 : SG) (hσ0 : WT σ0) (hC : CT By Nb σ0 Sp) : En 4 90 none mr_71 (P_71s7x σ0 By Nb Sp) 0 [(0, .ref 3), (1, .retAddr 15)] [] σ0 := c_71gx 7 7 (by decide) (by decide) (by decide) (by decide) (by decide) σ0 hσ0 hC
/-- DoorSchool$Reader.stands(Ljava/lang/String;)Z -/
abbrev P_71s8x (σ0 : SG) (By : Int → Int) (Nb : Int) (Sp : PS) : PO := fun v σ => WT σ ∧ Fr [] σ0 σ ∧ ∃ ret : Int32, v = some (.int ret) ∧ -ret.toInt ≤ 0 ∧ ret.toInt - 1 ≤ 0 ∧ Imp (Sp.1 = 0) (ret.toInt = iW By Nb 8 Sp)
set_option maxRecDepth 10000 in
set_option maxHeartbeats 4000000 in
theorem c_71s8x {By : Int → Int} {Nb : Int} {Sp : PS} (σ0 : SG) (hσ0 : WT σ0) (hC : CT By Nb σ0 Sp) : En 4 90 none mr_71 (P_71s8x σ0 By Nb Sp) 0 [(0, .ref 3), (1, .retAddr 17)] [] σ0 := c_71gx 8 4 (by decide) (by decide) (by decide) (by decide) (by decide) σ0 hσ0 hC
/-- DoorSchool$Reader.stands(Ljava/lang/String;)Z -/
abbrev P_71s9x (σ0 : SG) (By : Int → Int) (Nb : Int) (Sp : PS) : PO := fun v σ => WT σ ∧ Fr [] σ0 σ ∧ ∃ ret : Int32, v = some (.int ret) ∧ -ret.toInt ≤ 0 ∧ ret.toInt - 1 ≤ 0 ∧ Imp (Sp.1 = 0) (ret.toInt = iW By Nb 9 Sp)
set_option maxRecDepth 10000 in
set_option maxHeartbeats 4000000 in
theorem c_71s9x {By : Int → Int} {Nb : Int} {Sp : PS} (σ0 : SG) (hσ0 : WT σ0) (hC : CT By Nb σ0 Sp) : En 4 90 none mr_71 (P_71s9x σ0 By Nb Sp) 0 [(0, .ref 3), (1, .retAddr 19)] [] σ0 := c_71gx 9 5 (by decide) (by decide) (by decide) (by decide) (by decide) σ0 hσ0 hC
/-- DoorSchool$Reader.stands(Ljava/lang/String;)Z -/
abbrev P_71s10x (σ0 : SG) (By : Int → Int) (Nb : Int) (Sp : PS) : PO := fun v σ => WT σ ∧ Fr [] σ0 σ ∧ ∃ ret : Int32, v = some (.int ret) ∧ -ret.toInt ≤ 0 ∧ ret.toInt - 1 ≤ 0 ∧ Imp (Sp.1 = 0) (ret.toInt = iW By Nb 10 Sp)
set_option maxRecDepth 10000 in
set_option maxHeartbeats 4000000 in
theorem c_71s10x {By : Int → Int} {Nb : Int} {Sp : PS} (σ0 : SG) (hσ0 : WT σ0) (hC : CT By Nb σ0 Sp) : En 4 90 none mr_71 (P_71s10x σ0 By Nb Sp) 0 [(0, .ref 3), (1, .retAddr 21)] [] σ0 := c_71gx 10 6 (by decide) (by decide) (by decide) (by decide) (by decide) σ0 hσ0 hC
/-- DoorSchool$Reader.stands(Ljava/lang/String;)Z -/
abbrev P_71s11x (σ0 : SG) (By : Int → Int) (Nb : Int) (Sp : PS) : PO := fun v σ => WT σ ∧ Fr [] σ0 σ ∧ ∃ ret : Int32, v = some (.int ret) ∧ -ret.toInt ≤ 0 ∧ ret.toInt - 1 ≤ 0 ∧ Imp (Sp.1 = 0) (ret.toInt = iW By Nb 11 Sp)
set_option maxRecDepth 10000 in
set_option maxHeartbeats 4000000 in
theorem c_71s11x {By : Int → Int} {Nb : Int} {Sp : PS} (σ0 : SG) (hσ0 : WT σ0) (hC : CT By Nb σ0 Sp) : En 4 90 none mr_71 (P_71s11x σ0 By Nb Sp) 0 [(0, .ref 3), (1, .retAddr 23)] [] σ0 := c_71gx 11 8 (by decide) (by decide) (by decide) (by decide) (by decide) σ0 hσ0 hC
/-- DoorSchool$Reader.stands(Ljava/lang/String;)Z -/
abbrev P_71s12x (σ0 : SG) (By : Int → Int) (Nb : Int) (Sp : PS) : PO := fun v σ => WT σ ∧ Fr [] σ0 σ ∧ ∃ ret : Int32, v = some (.int ret) ∧ -ret.toInt ≤ 0 ∧ ret.toInt - 1 ≤ 0 ∧ Imp (Sp.1 = 0) (ret.toInt = iW By Nb 12 Sp)
set_option maxRecDepth 10000 in
set_option maxHeartbeats 4000000 in
theorem c_71s12x {By : Int → Int} {Nb : Int} {Sp : PS} (σ0 : SG) (hσ0 : WT σ0) (hC : CT By Nb σ0 Sp) : En 4 90 none mr_71 (P_71s12x σ0 By Nb Sp) 0 [(0, .ref 3), (1, .retAddr 25)] [] σ0 := c_71gx 12 4 (by decide) (by decide) (by decide) (by decide) (by decide) σ0 hσ0 hC
/-- DoorSchool$Reader.stands(Ljava/lang/String;)Z -/
abbrev P_71s13x (σ0 : SG) (By : Int → Int) (Nb : Int) (Sp : PS) : PO := fun v σ => WT σ ∧ Fr [] σ0 σ ∧ ∃ ret : Int32, v = some (.int ret) ∧ -ret.toInt ≤ 0 ∧ ret.toInt - 1 ≤ 0 ∧ Imp (Sp.1 = 0) (ret.toInt = iW By Nb 13 Sp)
set_option maxRecDepth 10000 in
set_option maxHeartbeats 4000000 in
theorem c_71s13x {By : Int → Int} {Nb : Int} {Sp : PS} (σ0 : SG) (hσ0 : WT σ0) (hC : CT By Nb σ0 Sp) : En 4 90 none mr_71 (P_71s13x σ0 By Nb Sp) 0 [(0, .ref 3), (1, .retAddr 27)] [] σ0 := c_71gx 13 5 (by decide) (by decide) (by decide) (by decide) (by decide) σ0 hσ0 hC
/-- DoorSchool$Reader.stands(Ljava/lang/String;)Z -/
abbrev P_71s14x (σ0 : SG) (By : Int → Int) (Nb : Int) (Sp : PS) : PO := fun v σ => WT σ ∧ Fr [] σ0 σ ∧ ∃ ret : Int32, v = some (.int ret) ∧ -ret.toInt ≤ 0 ∧ ret.toInt - 1 ≤ 0 ∧ Imp (Sp.1 = 0) (ret.toInt = iW By Nb 14 Sp)
set_option maxRecDepth 10000 in
set_option maxHeartbeats 4000000 in
theorem c_71s14x {By : Int → Int} {Nb : Int} {Sp : PS} (σ0 : SG) (hσ0 : WT σ0) (hC : CT By Nb σ0 Sp) : En 4 90 none mr_71 (P_71s14x σ0 By Nb Sp) 0 [(0, .ref 3), (1, .retAddr 29)] [] σ0 := c_71gx 14 5 (by decide) (by decide) (by decide) (by decide) (by decide) σ0 hσ0 hC
/-- DoorSchool$Reader.stands(Ljava/lang/String;)Z -/
abbrev P_71s15x (σ0 : SG) (By : Int → Int) (Nb : Int) (Sp : PS) : PO := fun v σ => WT σ ∧ Fr [] σ0 σ ∧ ∃ ret : Int32, v = some (.int ret) ∧ -ret.toInt ≤ 0 ∧ ret.toInt - 1 ≤ 0 ∧ Imp (Sp.1 = 0) (ret.toInt = iW By Nb 15 Sp)
set_option maxRecDepth 10000 in
set_option maxHeartbeats 4000000 in
theorem c_71s15x {By : Int → Int} {Nb : Int} {Sp : PS} (σ0 : SG) (hσ0 : WT σ0) (hC : CT By Nb σ0 Sp) : En 4 90 none mr_71 (P_71s15x σ0 By Nb Sp) 0 [(0, .ref 3), (1, .retAddr 31)] [] σ0 := c_71gx 15 5 (by decide) (by decide) (by decide) (by decide) (by decide) σ0 hσ0 hC
/-- DoorSchool$Reader.stands(Ljava/lang/String;)Z -/
abbrev P_71s16x (σ0 : SG) (By : Int → Int) (Nb : Int) (Sp : PS) : PO := fun v σ => WT σ ∧ Fr [] σ0 σ ∧ ∃ ret : Int32, v = some (.int ret) ∧ -ret.toInt ≤ 0 ∧ ret.toInt - 1 ≤ 0 ∧ Imp (Sp.1 = 0) (ret.toInt = iW By Nb 16 Sp)
set_option maxRecDepth 10000 in
set_option maxHeartbeats 4000000 in
theorem c_71s16x {By : Int → Int} {Nb : Int} {Sp : PS} (σ0 : SG) (hσ0 : WT σ0) (hC : CT By Nb σ0 Sp) : En 4 90 none mr_71 (P_71s16x σ0 By Nb Sp) 0 [(0, .ref 3), (1, .retAddr 33)] [] σ0 := c_71gx 16 8 (by decide) (by decide) (by decide) (by decide) (by decide) σ0 hσ0 hC
/-- DoorSchool$Reader.stands(Ljava/lang/String;)Z -/
abbrev P_71s17x (σ0 : SG) (By : Int → Int) (Nb : Int) (Sp : PS) : PO := fun v σ => WT σ ∧ Fr [] σ0 σ ∧ ∃ ret : Int32, v = some (.int ret) ∧ -ret.toInt ≤ 0 ∧ ret.toInt - 1 ≤ 0 ∧ Imp (Sp.1 = 0) (ret.toInt = iW By Nb 17 Sp)
set_option maxRecDepth 10000 in
set_option maxHeartbeats 4000000 in
theorem c_71s17x {By : Int → Int} {Nb : Int} {Sp : PS} (σ0 : SG) (hσ0 : WT σ0) (hC : CT By Nb σ0 Sp) : En 4 90 none mr_71 (P_71s17x σ0 By Nb Sp) 0 [(0, .ref 3), (1, .retAddr 35)] [] σ0 := c_71gx 17 4 (by decide) (by decide) (by decide) (by decide) (by decide) σ0 hσ0 hC
/-- DoorSchool$Reader.takeNumber(II)I -/
abbrev P_73x (σ0 : SG) (By : Int → Int) (Nb : Int) (Sp : PS) (a : Int32) (b : Int32) (f : Int32) : PO := fun v σ => WT σ ∧ Fr [(3, 1), (3, 2), (3, 3), (3, 4), (3, 5), (3, 6)] σ0 σ ∧ ∃ f1 : Int32, (σ 3)[5]? = some (.int f1) ∧ ∃ ret : Int32, v = some (.int ret) ∧ ret.toInt - 1000000 ≤ 0 ∧ -f1.toInt ≤ 0 ∧ f1.toInt - 3 ≤ 0 ∧ -f1.toInt + f.toInt ≤ 0 ∧ f.toInt - f1.toInt ≤ 0 ∧ Imp (f1.toInt ≤ 0) (a.toInt - ret.toInt ≤ 0 ∧ ret.toInt - b.toInt ≤ 0) ∧ Imp (-f1.toInt + 1 ≤ 0) (ret.toInt + 1 ≤ 0 ∧ -ret.toInt - 1 ≤ 0) ∧ Imp (-b.toInt - 1 ≤ 0) (ret.toInt - b.toInt ≤ 0) ∧ Imp (-a.toInt - 1 ≤ 0) (-ret.toInt - 1 ≤ 0) ∧ (CT By Nb σ (tN By Nb a.toInt b.toInt Sp) ∧ Imp ((tN By Nb a.toInt b.toInt Sp).1 = 0) (ret.toInt = tV By Nb Sp.2.2.1))
set_option maxRecDepth 10000 in
set_option maxHeartbeats 4000000 in
theorem c_73x {By : Int → Int} {Nb : Int} {Sp : PS} (σ0 : SG) (hσ0 : WT σ0) (a : Int32) (b : Int32) (f : Int32) (h_f : (σ0 3)[5]? = some (.int f)) (hC : CT By Nb σ0 Sp) : En 2 43 none mr_73 (P_73x σ0 By Nb Sp a b f) 0 [(0, .ref 3), (1, .int a), (2, .int b)] [] σ0 := by
  obtain ⟨hl_f, hu_f⟩ := WT_int hσ0 (g := 3) (by decide +kernel) (by decide +kernel) (l := 0) (u := 3) (by decide +kernel) h_f
  have hF0 : Fr [(3, 1), (3, 2), (3, 3), (3, 4), (3, 5), (3, 6)] σ0 σ0 := Fr_rfl
  have h1 := CT_k hC h_f
  refine En_Ps 3 (pc' := 3) (lv' := [(0, .ref 3), (1, .int a), (2, .int b)]) (st' := [.int b, .int a, .ref 3]) rfl ?_
  refine En_callV rfl rfl rfl rfl rfl rfl rfl rfl tgz_3 (by decide +kernel) rfl (c_58x σ0 hσ0 a b f h_f hC) (by decide) (by decide) (fun v3 σ4 h2 => ?_)
  obtain ⟨h5, h6, z8, h9, z10, rfl, h7⟩ := h2
  have h11 := h7.2.2.2.2.2.2.2.2.2
  have h12 := Fr_trans hF0 h6 (by decide +kernel)
  have h13 : nH By Nb a.toInt b.toInt Sp = nH By Nb (a.toInt) (b.toInt) Sp := nH_cg2 (fun zz => by omega) (fun zz => by omega)
  obtain ⟨S14, h15⟩ : ∃ q : PS, q = nH By Nb (a.toInt) (b.toInt) Sp := ⟨_, rfl⟩
  have h16 : CT By Nb σ4 S14 := by rw [h15]; exact (CT_eq h11.1 h13)
  have h17 := CT_k h16 h9
  have h18 : Imp (S14.1 = 0) (z10.toInt = tV By Nb Sp.2.2.1) := fun z => Imp_m h11.2 (by rw [h13, ← h15]; exact z)
  have h19 : Imp (S14.1 = 0) (Sp.1 = 0 ∧ tK By Nb Sp.2.2.1 = 2 ∧ a.toInt ≤ tV By Nb Sp.2.2.1 ∧ tV By Nb Sp.2.2.1 ≤ b.toInt) := fun z => nH_gg (by rw [← h15]; exact z)
  have h20 : S14.2.2.2 = Sp.2.2.2 := by rw [h15]; exact nH_w
  refine En_Ps 2 (pc' := 8) (lv' := [(3, .int z10), (0, .ref 3), (1, .int a), (2, .int b)]) (st' := [.ref 3]) rfl ?_
  refine En_getK (j := 5) h9 rfl rfl rfl tgz_3 (by decide +kernel) ?_
  refine En_iNe _ rfl rfl (fun h21 => ?_) (fun h21 => ?_)
  · have h22 := Imp_m h7.2.2.2.2.2.2.1 (by first | exact q_e3350da514 h21 h7.2.1 | omega)
    refine En_Ps 1 (pc' := 19) (lv' := [(3, .int z10), (0, .ref 3), (1, .int a), (2, .int b)]) (st' := [.int z10]) rfl ?_
    exact En_ret (v := some (.int z10)) rfl rfl rfl ⟨h5, h12, z8, h9, z10, rfl, ⟨by first | exact q_bd5229abc9 h22.1 | omega, by first | exact q_bc42505ae9 h21 h7.2.1 | omega, by first | exact q_c733b715bf h7.2.2.1 | omega, by first | exact q_d22b102a8e h7.2.2.2.1 | omega, by first | exact q_83f4b1e050 h7.2.2.2.1 | omega, fun _ => by have := Imp_m h7.2.2.2.2.2.1 (by omega); have := Imp_m h7.2.2.2.2.2.2.2.1 (by omega); omega, fun hh => by first | exact ⟨q_b60e76ae01 h22.1, q_98e1bded96 h22.2⟩ | omega, fun hh => by first | exact q_26f50f4f39 h22.1 hh | omega, fun hh => by first | exact q_98e1bded96 h22.2 | omega, (by have q0 : tN By Nb a.toInt b.toInt Sp = S14 := (by first | (subst h15; rfl) | (subst h15; unfold tN; exact adv_bad (by omega))); rw [q0]; exact ⟨h16, fun zz => by (try have i0 := Imp_m h19 (by omega)); (try have i1 := Imp_m h18 (by omega)); (try have i2 := Imp_m h7.2.2.2.2.2.1 (by omega)); (try have i3 := Imp_m h7.2.2.2.2.2.2.2.1 (by omega)); (try have i4 := Imp_m h7.2.2.2.2.2.2.2.2.1 (by omega)); omega⟩)⟩⟩
  · have h23 := Imp_m h7.2.2.2.2.2.1 (by first | exact q_c5d285f1b9 h21 | omega)
    refine En_Ps 1 (pc' := 15) (lv' := [(3, .int z10), (0, .ref 3), (1, .int a), (2, .int b)]) (st' := [.ref 3]) rfl ?_
    obtain ⟨z25, h24, h26, h27⟩ := WT_peekI h5 tgz_3 (by decide +kernel : FT 3 3 = (0, 0, 1600)) (by decide +kernel)
    refine En_callV rfl rfl rfl rfl rfl rfl rfl rfl tgz_3 (by decide +kernel) rfl (c_72x σ4 h5 z25 h24 h16.1 (CT_at h16 (by omega) h24)) (by decide) (by decide) (fun v29 σ30 h28 => ?_)
    obtain ⟨h31, h32, rfl, h33⟩ := h28
    have h34 := h33
    have h35 := Fr_trans h12 h32 (by decide +kernel)
    obtain ⟨S36, h37⟩ : ∃ q : PS, q = adv By Nb S14 := ⟨_, rfl⟩
    have h38 : CT By Nb σ30 S36 := by rw [h37]; exact (CT_adv h16 (by omega) h24 h32 (by decide +kernel) h34.2)
    have h39 := CT_k h38 ((h32 _ _ (inW tgz_3 (by decide +kernel))).trans h9)
    have h40 : S36.2.2.2 = S14.2.2.2 := by rw [h37]; exact adv_w
    have h41 : S36.1 = S14.1 := by rw [h37]; exact adv_1
    refine En_Ps 1 (pc' := 19) (lv' := [(3, .int z10), (0, .ref 3), (1, .int a), (2, .int b)]) (st' := [.int z10]) rfl ?_
    exact En_ret (v := some (.int z10)) rfl rfl rfl ⟨h31, h35, z8, ((h32 _ _ (inW tgz_3 (by decide +kernel))).trans h9), z10, rfl, ⟨by first | exact q_1c284fde89 h7.1 | omega, by first | exact q_a555021d16 h7.2.1 | omega, by first | exact q_bd3fa30443 h21 | omega, by first | exact q_d22b102a8e h7.2.2.2.1 | omega, by first | exact q_83f4b1e050 h7.2.2.2.1 | omega, fun hh => by first | exact ⟨q_f67127b06c h23.1, q_f67127b06c h23.2⟩ | omega, fun _ => by have := Imp_m h7.2.2.2.2.2.2.1 (by omega); have := Imp_m h7.2.2.2.2.2.2.2.1 (by omega); omega, fun hh => by first | exact q_f67127b06c h23.2 | omega, fun hh => by first | exact q_edd4ae9b14 h23.1 hh | omega, (by have q0 : tN By Nb a.toInt b.toInt Sp = S36 := (by first | (subst h37; subst h15; rfl) | (subst h37; subst h15; unfold tN; exact adv_bad (by omega))); rw [q0]; exact ⟨h38, fun zz => by (try have i0 := Imp_m h19 (by omega)); (try have i1 := Imp_m h18 (by omega)); (try have i2 := Imp_m h7.2.2.2.2.2.2.1 (by omega)); (try have i3 := Imp_m h7.2.2.2.2.2.2.2.1 (by omega)); (try have i4 := Imp_m h7.2.2.2.2.2.2.2.2.1 (by omega)); omega⟩)⟩⟩
/-- DoorSchool$Reader.readFirst(LDoorSchool$Plan;)V -/
abbrev P_65x (σ0 : SG) (By : Int → Int) (Nb : Int) (Sp : PS) (a : Nat) (f : Int32) : PO := fun v σ => WT σ ∧ Fr [(3, 1), (3, 2), (3, 3), (3, 4), (3, 5), (3, 6), (18, 1), (18, 2)] σ0 σ ∧ ∃ f1 : Int32, (σ 3)[5]? = some (.int f1) ∧ ∃ sg1 : Int32, (σ a)[1]? = some (.int sg1) ∧ v = none ∧ OUT σ0 σ a ∧ -f1.toInt ≤ 0 ∧ f1.toInt - 3 ≤ 0 ∧ -f1.toInt + f.toInt ≤ 0 ∧ -sg1.toInt - 1 ≤ 0 ∧ sg1.toInt - 4 ≤ 0 ∧ f.toInt - f1.toInt ≤ 0 ∧ -sg1.toInt - f1.toInt ≤ 0 ∧ (OTH a σ0 σ ∧ CT By Nb σ (fFirst By Nb Sp) ∧ ((fFirst By Nb Sp).1 = 0 → KN σ a (fFirst By Nb Sp).2.2.2 (act (fFirst By Nb Sp).2.2.2)))
set_option maxRecDepth 10000 in
set_option maxHeartbeats 4000000 in
theorem c_65x {By : Int → Int} {Nb : Int} {Sp : PS} (σ0 : SG) (hσ0 : WT σ0) (a : Nat) (ha : TG a = 18) (f : Int32) (h_f : (σ0 3)[5]? = some (.int f)) (hC : CT By Nb σ0 Sp) (hg : Sp.1 = 0) (hP : PLA a) (hX : FXP σ0 a) (hK : KN σ0 a Sp.2.2.2 (act Sp.2.2.2)) : En 5 112 none mr_65 (P_65x σ0 By Nb Sp a f) 0 [(0, .ref 3), (1, .ref a)] [] σ0 := by
  obtain ⟨hl_f, hu_f⟩ := WT_int hσ0 (g := 3) (by decide +kernel) (by decide +kernel) (l := 0) (u := 3) (by decide +kernel) h_f
  have hF0 : Fr [(3, 1), (3, 2), (3, 3), (3, 4), (3, 5), (3, 6), (18, 1), (18, 2)] σ0 σ0 := Fr_rfl
  have h1 := CT_k hC h_f
  have h2 : Imp (Sp.1 = 0) (KN σ0 a Sp.2.2.2 (fun t => act Sp.2.2.2 t)) := fun _ => hK
  refine En_Ps 2 (pc' := 2) (lv' := [(0, .ref 3), (1, .ref a)]) (st' := [.ref 3, .ref 3]) rfl ?_
  refine En_ldcS (i := 10) rfl rfl rfl ?_
  refine En_callV rfl rfl rfl rfl rfl rfl rfl rfl tgz_3 (by decide +kernel) rfl (c_71s10x σ0 hσ0 hC) (by decide) (by decide) (fun v4 σ5 h3 => ?_)
  obtain ⟨h6, h7, z9, rfl, h8⟩ := h3
  have h10 := h8.2.2
  obtain rfl : σ0 = σ5 := Fr_nil h7
  have h11 := h10
  refine En_callV rfl rfl rfl rfl rfl rfl rfl rfl tgz_3 (by decide +kernel) rfl (c_59x σ0 hσ0 z9 (geI rfl (by first | exact q_ef1e8e38bf h8.1 | omega)) (leI rfl (by first | exact q_733c8bfbae h8.2.1 | omega)) f h_f hC) (by decide) (by decide) (fun v13 σ14 h12 => ?_)
  obtain ⟨h15, h16, z18, h19, rfl, h17⟩ := h12
  have h20 := h17.2.2.2.2.2.2
  have h21 := Fr_trans hF0 h16 (by decide +kernel)
  have h22 := OTH_fr (OTH_0 (a := a) (σ := σ0)) h16 (by decide +kernel)
  have h23 : pss By Nb z9.toInt Sp = pss By Nb (iW By Nb 10 Sp) Sp := pss_cg2 (fun zz => by (try have i0 := Imp_m h11 (by omega)); omega)
  obtain ⟨S24, h25⟩ : ∃ q : PS, q = pss By Nb (iW By Nb 10 Sp) Sp := ⟨_, rfl⟩
  have h26 : CT By Nb σ14 S24 := by rw [h25]; exact (CT_eq h20 h23)
  have h27 := CT_k h26 h19
  have h28 : S24.2.2.2 = Sp.2.2.2 := by rw [h25]; exact pss_w
  have h29 : Imp (S24.1 = 0) (Sp.1 = 0) := fun z => (pss_g (by rw [h23, ← h25]; exact z)).1
  have h30 : Imp (S24.1 = 0) (z9.toInt = 1) := fun z => (pss_g (by rw [h23, ← h25]; exact z)).2.1
  have h31 : Imp (S24.1 = 0) (KN σ14 a Sp.2.2.2 (fun t => act Sp.2.2.2 t)) := fun zz => KN_fr hP (Imp_m h2 (by (try have i0 := Imp_m h30 (by omega)); (try have i1 := Imp_m h29 (by omega)); (try have i2 := Imp_m h11 (by omega)); omega)) h16 (by decide +kernel)
  have h32 : S24.2.2.2 = Sp.2.2.2 := h28.trans (rfl : Sp.2.2.2 = Sp.2.2.2)
  have o33 : OUT σ0 σ14 a := OUT_fr OUT_0 h16 (by decide +kernel)
  refine En_Ps 2 (pc' := 12) (lv' := [(0, .ref 3), (1, .ref a)]) (st' := [.ref 3, .ref 3]) rfl ?_
  refine En_ldcS (i := 13) rfl rfl rfl ?_
  refine En_callV rfl rfl rfl rfl rfl rfl rfl rfl tgz_3 (by decide +kernel) rfl (c_71s13x σ14 h15 h26) (by decide) (by decide) (fun v35 σ36 h34 => ?_)
  obtain ⟨h37, h38, z40, rfl, h39⟩ := h34
  have h41 := h39.2.2
  obtain rfl : σ14 = σ36 := Fr_nil h38
  have h42 := h41
  refine En_callV rfl rfl rfl rfl rfl rfl rfl rfl tgz_3 (by decide +kernel) rfl (c_59x σ14 h15 z40 (geI rfl (by first | exact q_ef1e8e38bf h39.1 | omega)) (leI rfl (by first | exact q_733c8bfbae h39.2.1 | omega)) z18 h19 h26) (by decide) (by decide) (fun v44 σ45 h43 => ?_)
  obtain ⟨h46, h47, z49, h50, rfl, h48⟩ := h43
  have h51 := h48.2.2.2.2.2.2
  have h52 := Fr_trans h21 h47 (by decide +kernel)
  have h53 := OTH_fr h22 h47 (by decide +kernel)
  have h54 : pss By Nb z40.toInt S24 = pss By Nb (iW By Nb 13 S24) S24 := pss_cg2 (fun zz => by (try have i0 := Imp_m h42 (by omega)); (try have i1 := Imp_m h30 (by omega)); (try have i2 := Imp_m h29 (by omega)); (try have i3 := Imp_m h11 (by omega)); (try have i4 := Imp_m h17.2.2.2.1 (by omega)); (try have i5 := Imp_m h17.2.2.2.2.2.1 (by omega)); omega)
  obtain ⟨S55, h56⟩ : ∃ q : PS, q = pss By Nb (iW By Nb 13 S24) S24 := ⟨_, rfl⟩
  have h57 : CT By Nb σ45 S55 := by rw [h56]; exact (CT_eq h51 h54)
  have h58 := CT_k h57 h50
  have h59 : S55.2.2.2 = S24.2.2.2 := by rw [h56]; exact pss_w
  have h60 : Imp (S55.1 = 0) (S24.1 = 0) := fun z => (pss_g (by rw [h54, ← h56]; exact z)).1
  have h61 : Imp (S55.1 = 0) (z40.toInt = 1) := fun z => (pss_g (by rw [h54, ← h56]; exact z)).2.1
  have h62 : Imp (S55.1 = 0) (KN σ45 a Sp.2.2.2 (fun t => act Sp.2.2.2 t)) := fun zz => KN_fr hP (Imp_m h31 (by (try have i0 := Imp_m h61 (by omega)); (try have i1 := Imp_m h60 (by omega)); (try have i2 := Imp_m h42 (by omega)); (try have i3 := Imp_m h30 (by omega)); (try have i4 := Imp_m h29 (by omega)); (try have i5 := Imp_m h11 (by omega)); (try have i6 := Imp_m h17.2.2.2.1 (by omega)); (try have i7 := Imp_m h17.2.2.2.2.2.1 (by omega)); omega)) h47 (by decide +kernel)
  have h63 : S55.2.2.2 = Sp.2.2.2 := h59.trans h32
  have o64 : OUT σ0 σ45 a := OUT_fr o33 h47 (by decide +kernel)
  refine En_Ps 4 (pc' := 24) (lv' := [(0, .ref 3), (1, .ref a)]) (st' := [.int ((Int32.ofInt 4)), .int ((Int32.ofInt 2)), .ref 3, .ref a]) rfl ?_
  have := (by decide : ((Int32.ofInt 2)).toInt = 2)
  have := (by decide : ((Int32.ofInt 4)).toInt = 4)
  refine En_callV rfl rfl rfl rfl rfl rfl rfl rfl tgz_3 (by decide +kernel) rfl (c_73x σ45 h46 ((Int32.ofInt 2)) ((Int32.ofInt 4)) z49 h50 h57) (by decide) (by decide) (fun v66 σ67 h65 => ?_)
  obtain ⟨h68, h69, z71, h72, z73, rfl, h70⟩ := h65
  have h74 := h70.2.2.2.2.2.2.2.2.2
  have h75 := Fr_trans h52 h69 (by decide +kernel)
  have h76 := Imp_m h70.2.2.2.2.2.1
  have h77 := Imp_m h70.2.2.2.2.2.2.1
  have h78 := Imp_m h70.2.2.2.2.2.2.2.1
  have h79 := Imp_m h70.2.2.2.2.2.2.2.2.1
  have h80 := OTH_fr h53 h69 (by decide +kernel)
  have h81 : tN By Nb ((Int32.ofInt 2)).toInt ((Int32.ofInt 4)).toInt S55 = tN By Nb (2) (4) S55 := tN_cg2 (fun zz => by omega) (fun zz => by omega)
  obtain ⟨S82, h83⟩ : ∃ q : PS, q = tN By Nb (2) (4) S55 := ⟨_, rfl⟩
  have h84 : CT By Nb σ67 S82 := by rw [h83]; exact (CT_eq h74.1 h81)
  have h85 := CT_k h84 h72
  have h86 : Imp (S82.1 = 0) (z73.toInt = tV By Nb S55.2.2.1) := fun z => Imp_m h74.2 (by rw [h81, ← h83]; exact z)
  have h87 : Imp (S82.1 = 0) (S55.1 = 0 ∧ tK By Nb S55.2.2.1 = 2 ∧ 2 ≤ tV By Nb S55.2.2.1 ∧ tV By Nb S55.2.2.1 ≤ 4) := fun z => tN_gg (by rw [← h83]; exact z)
  have h88 : S82.2.2.2 = S55.2.2.2 := by rw [h83]; exact tN_w
  have h89 : Imp (S82.1 = 0) (KN σ67 a Sp.2.2.2 (fun t => act Sp.2.2.2 t)) := fun zz => KN_fr hP (Imp_m h62 (by (try have i0 := Imp_m h87 (by omega)); (try have i1 := Imp_m h86 (by omega)); (try have i2 := Imp_m h61 (by omega)); (try have i3 := Imp_m h60 (by omega)); (try have i4 := Imp_m h42 (by omega)); (try have i5 := Imp_m h30 (by omega)); (try have i6 := Imp_m h29 (by omega)); (try have i7 := Imp_m h11 (by omega)); (try have i8 := Imp_m h17.2.2.2.1 (by omega)); (try have i9 := Imp_m h17.2.2.2.2.2.1 (by omega)); (try have i10 := Imp_m h48.2.2.2.1 (by omega)); (try have i11 := Imp_m h48.2.2.2.2.2.1 (by omega)); omega)) h69 (by decide +kernel)
  have h90 : S82.2.2.2 = Sp.2.2.2 := h88.trans h63
  have o91 : OUT σ0 σ67 a := OUT_fr o64 h69 (by decide +kernel)
  have h92 := Imp_m h70.2.2.2.2.2.2.2.1 (by omega)
  have h93 := Imp_m h70.2.2.2.2.2.2.2.2.1 (by omega)
  refine En_put (j := 1) rfl rfl rfl ha (by decide +kernel) rfl (vI (l := (-1)) (u := 4) (by decide +kernel) rfl (by first | exact q_ce01e7a6da h93 | omega) (by omega)) h68 h75 (by decide +kernel) (fun σ94 h95 h96 h97 h98 => ?_)
  have h99 := OTH_pt h80 h98
  obtain ⟨S100, h101⟩ : ∃ q : PS, q = wst S82 (0) ((tV By Nb S55.2.2.1)) := ⟨_, rfl⟩
  have h102 : CT By Nb σ94 S100 := by rw [h101]; exact CT_wst (CT_ne h84 h98 (by have := hP; unfold PLA at this; omega))
  have h103 : Imp (S100.1 = 0) (KN σ94 a (uPd Sp.2.2.2 (0) ((tV By Nb S55.2.2.1))) (fun t => (act Sp.2.2.2 t ∨ t = 0))) := fun zz => KN_st (Imp_m h89 (by rw [h101] at zz; exact zz)) h97 h98 (by omega) (by omega) (by rw [lcO_lt (by decide) (by decide), Nat.add_zero]) (by decide) (by have z2 : S82.1 = 0 := (by rw [h101] at zz; exact zz); (try have i0 := Imp_m h87 (by omega)); (try have i1 := Imp_m h86 (by omega)); (try have i2 := Imp_m h61 (by omega)); (try have i3 := Imp_m h60 (by omega)); (try have i4 := Imp_m h42 (by omega)); (try have i5 := Imp_m h30 (by omega)); (try have i6 := Imp_m h29 (by omega)); (try have i7 := Imp_m h11 (by omega)); (try have i8 := Imp_m h17.2.2.2.1 (by omega)); (try have i9 := Imp_m h17.2.2.2.2.2.1 (by omega)); (try have i10 := Imp_m h48.2.2.2.1 (by omega)); (try have i11 := Imp_m h48.2.2.2.2.2.1 (by omega)); (try have i12 := Imp_m h70.2.2.2.2.2.1 (by omega)); (try have i13 := Imp_m h70.2.2.2.2.2.2.1 (by omega)); omega)
  have h104 : S100.2.2.2 = (uPd Sp.2.2.2 (0) ((tV By Nb S55.2.2.1))) := by rw [h101]; show uPd S82.2.2.2 _ _ = _; rw [h90]
  have h105 : S100.1 = S82.1 := by rw [h101]; rfl
  have h106 := CT_k h102 ((h98 _ _ (Or.inr (by decide))).trans h72)
  have o107 : OUT σ0 σ94 a := OUT_st o91 h98 (by omega)
  refine En_Ps 2 (pc' := 32) (lv' := [(0, .ref 3), (1, .ref a)]) (st' := [.ref 3, .ref 3]) rfl ?_
  refine En_ldcS (i := 16) rfl rfl rfl ?_
  refine En_callV rfl rfl rfl rfl rfl rfl rfl rfl tgz_3 (by decide +kernel) rfl (c_71s16x σ94 h95 h102) (by decide) (by decide) (fun v109 σ110 h108 => ?_)
  obtain ⟨h111, h112, z114, rfl, h113⟩ := h108
  have h115 := h113.2.2
  obtain rfl : σ94 = σ110 := Fr_nil h112
  have h116 := h115
  refine En_callV rfl rfl rfl rfl rfl rfl rfl rfl tgz_3 (by decide +kernel) rfl (c_59x σ94 h95 z114 (geI rfl (by first | exact q_ef1e8e38bf h113.1 | omega)) (leI rfl (by first | exact q_733c8bfbae h113.2.1 | omega)) z71 ((h98 _ _ (Or.inr (by decide))).trans h72) h102) (by decide) (by decide) (fun v118 σ119 h117 => ?_)
  obtain ⟨h120, h121, z123, h124, rfl, h122⟩ := h117
  have h125 := h122.2.2.2.2.2.2
  have h126 := Fr_trans h96 h121 (by decide +kernel)
  have h127 := OTH_fr h99 h121 (by decide +kernel)
  have h128 : pss By Nb z114.toInt S100 = pss By Nb (iW By Nb 16 S100) S100 := pss_cg2 (fun zz => by (try have i0 := Imp_m h116 (by omega)); (try have i1 := Imp_m h87 (by omega)); (try have i2 := Imp_m h86 (by omega)); (try have i3 := Imp_m h61 (by omega)); (try have i4 := Imp_m h60 (by omega)); (try have i5 := Imp_m h42 (by omega)); (try have i6 := Imp_m h30 (by omega)); (try have i7 := Imp_m h29 (by omega)); (try have i8 := Imp_m h11 (by omega)); (try have i9 := Imp_m h17.2.2.2.1 (by omega)); (try have i10 := Imp_m h17.2.2.2.2.2.1 (by omega)); (try have i11 := Imp_m h48.2.2.2.1 (by omega)); (try have i12 := Imp_m h48.2.2.2.2.2.1 (by omega)); (try have i13 := Imp_m h70.2.2.2.2.2.1 (by omega)); (try have i14 := Imp_m h70.2.2.2.2.2.2.1 (by omega)); omega)
  obtain ⟨S129, h130⟩ : ∃ q : PS, q = pss By Nb (iW By Nb 16 S100) S100 := ⟨_, rfl⟩
  have h131 : CT By Nb σ119 S129 := by rw [h130]; exact (CT_eq h125 h128)
  have h132 := CT_k h131 h124
  have h133 : S129.2.2.2 = S100.2.2.2 := by rw [h130]; exact pss_w
  have h134 : Imp (S129.1 = 0) (S100.1 = 0) := fun z => (pss_g (by rw [h128, ← h130]; exact z)).1
  have h135 : Imp (S129.1 = 0) (z114.toInt = 1) := fun z => (pss_g (by rw [h128, ← h130]; exact z)).2.1
  have h136 : Imp (S129.1 = 0) (KN σ119 a (uPd Sp.2.2.2 (0) ((tV By Nb S55.2.2.1))) (fun t => (act Sp.2.2.2 t ∨ t = 0))) := fun zz => KN_fr hP (Imp_m h103 (by (try have i0 := Imp_m h135 (by omega)); (try have i1 := Imp_m h134 (by omega)); (try have i2 := Imp_m h116 (by omega)); (try have i3 := Imp_m h87 (by omega)); (try have i4 := Imp_m h86 (by omega)); (try have i5 := Imp_m h61 (by omega)); (try have i6 := Imp_m h60 (by omega)); (try have i7 := Imp_m h42 (by omega)); (try have i8 := Imp_m h30 (by omega)); (try have i9 := Imp_m h29 (by omega)); (try have i10 := Imp_m h11 (by omega)); (try have i11 := Imp_m h17.2.2.2.1 (by omega)); (try have i12 := Imp_m h17.2.2.2.2.2.1 (by omega)); (try have i13 := Imp_m h48.2.2.2.1 (by omega)); (try have i14 := Imp_m h48.2.2.2.2.2.1 (by omega)); (try have i15 := Imp_m h70.2.2.2.2.2.1 (by omega)); (try have i16 := Imp_m h70.2.2.2.2.2.2.1 (by omega)); omega)) h121 (by decide +kernel)
  have h137 : S129.2.2.2 = (uPd Sp.2.2.2 (0) ((tV By Nb S55.2.2.1))) := h133.trans h104
  have o138 : OUT σ0 σ119 a := OUT_fr o107 h121 (by decide +kernel)
  refine En_Ps 4 (pc' := 44) (lv' := [(0, .ref 3), (1, .ref a)]) (st' := [.int ((Int32.ofInt 3)), .int ((Int32.ofInt 1)), .ref 3, .ref a]) rfl ?_
  have := (by decide : ((Int32.ofInt 1)).toInt = 1)
  have := (by decide : ((Int32.ofInt 3)).toInt = 3)
  refine En_callV rfl rfl rfl rfl rfl rfl rfl rfl tgz_3 (by decide +kernel) rfl (c_73x σ119 h120 ((Int32.ofInt 1)) ((Int32.ofInt 3)) z123 h124 h131) (by decide) (by decide) (fun v140 σ141 h139 => ?_)
  obtain ⟨h142, h143, z145, h146, z147, rfl, h144⟩ := h139
  have h148 := h144.2.2.2.2.2.2.2.2.2
  have h149 := Fr_trans h126 h143 (by decide +kernel)
  have h150 := Imp_m h144.2.2.2.2.2.1
  have h151 := Imp_m h144.2.2.2.2.2.2.1
  have h152 := Imp_m h144.2.2.2.2.2.2.2.1
  have h153 := Imp_m h144.2.2.2.2.2.2.2.2.1
  have h154 := OTH_fr h127 h143 (by decide +kernel)
  have h155 : tN By Nb ((Int32.ofInt 1)).toInt ((Int32.ofInt 3)).toInt S129 = tN By Nb (1) (3) S129 := tN_cg2 (fun zz => by omega) (fun zz => by omega)
  obtain ⟨S156, h157⟩ : ∃ q : PS, q = tN By Nb (1) (3) S129 := ⟨_, rfl⟩
  have h158 : CT By Nb σ141 S156 := by rw [h157]; exact (CT_eq h148.1 h155)
  have h159 := CT_k h158 h146
  have h160 : Imp (S156.1 = 0) (z147.toInt = tV By Nb S129.2.2.1) := fun z => Imp_m h148.2 (by rw [h155, ← h157]; exact z)
  have h161 : Imp (S156.1 = 0) (S129.1 = 0 ∧ tK By Nb S129.2.2.1 = 2 ∧ 1 ≤ tV By Nb S129.2.2.1 ∧ tV By Nb S129.2.2.1 ≤ 3) := fun z => tN_gg (by rw [← h157]; exact z)
  have h162 : S156.2.2.2 = S129.2.2.2 := by rw [h157]; exact tN_w
  have h163 : Imp (S156.1 = 0) (KN σ141 a (uPd Sp.2.2.2 (0) ((tV By Nb S55.2.2.1))) (fun t => (act Sp.2.2.2 t ∨ t = 0))) := fun zz => KN_fr hP (Imp_m h136 (by (try have i0 := Imp_m h161 (by omega)); (try have i1 := Imp_m h160 (by omega)); (try have i2 := Imp_m h135 (by omega)); (try have i3 := Imp_m h134 (by omega)); (try have i4 := Imp_m h116 (by omega)); (try have i5 := Imp_m h87 (by omega)); (try have i6 := Imp_m h86 (by omega)); (try have i7 := Imp_m h61 (by omega)); (try have i8 := Imp_m h60 (by omega)); (try have i9 := Imp_m h42 (by omega)); (try have i10 := Imp_m h30 (by omega)); (try have i11 := Imp_m h29 (by omega)); (try have i12 := Imp_m h11 (by omega)); (try have i13 := Imp_m h17.2.2.2.1 (by omega)); (try have i14 := Imp_m h17.2.2.2.2.2.1 (by omega)); (try have i15 := Imp_m h48.2.2.2.1 (by omega)); (try have i16 := Imp_m h48.2.2.2.2.2.1 (by omega)); (try have i17 := Imp_m h70.2.2.2.2.2.1 (by omega)); (try have i18 := Imp_m h70.2.2.2.2.2.2.1 (by omega)); (try have i19 := Imp_m h122.2.2.2.1 (by omega)); (try have i20 := Imp_m h122.2.2.2.2.2.1 (by omega)); omega)) h143 (by decide +kernel)
  have h164 : S156.2.2.2 = (uPd Sp.2.2.2 (0) ((tV By Nb S55.2.2.1))) := h162.trans h137
  have o165 : OUT σ0 σ141 a := OUT_fr o138 h143 (by decide +kernel)
  have h166 := Imp_m h144.2.2.2.2.2.2.2.1 (by omega)
  have h167 := Imp_m h144.2.2.2.2.2.2.2.2.1 (by omega)
  refine En_put (j := 2) rfl rfl rfl ha (by decide +kernel) rfl (vI (l := (-1)) (u := 3) (by decide +kernel) rfl (by first | exact q_ce01e7a6da h167 | omega) (by omega)) h142 h149 (by decide +kernel) (fun σ168 h169 h170 h171 h172 => ?_)
  have h173 := OTH_pj h154 h172 (by decide)
  obtain ⟨S174, h175⟩ : ∃ q : PS, q = wst S156 (1) ((tV By Nb S129.2.2.1)) := ⟨_, rfl⟩
  have h176 : CT By Nb σ168 S174 := by rw [h175]; exact CT_wst (CT_ne h158 h172 (by have := hP; unfold PLA at this; omega))
  have h177 : Imp (S174.1 = 0) (KN σ168 a (uPd (uPd Sp.2.2.2 (0) ((tV By Nb S55.2.2.1))) (1) ((tV By Nb S129.2.2.1))) (fun t => ((act Sp.2.2.2 t ∨ t = 0) ∨ t = 1))) := fun zz => KN_st (Imp_m h163 (by rw [h175] at zz; exact zz)) h171 h172 (by omega) (by omega) (by rw [lcO_lt (by decide) (by decide), Nat.add_zero]) (by decide) (by have z2 : S156.1 = 0 := (by rw [h175] at zz; exact zz); (try have i0 := Imp_m h161 (by omega)); (try have i1 := Imp_m h160 (by omega)); (try have i2 := Imp_m h135 (by omega)); (try have i3 := Imp_m h134 (by omega)); (try have i4 := Imp_m h116 (by omega)); (try have i5 := Imp_m h87 (by omega)); (try have i6 := Imp_m h86 (by omega)); (try have i7 := Imp_m h61 (by omega)); (try have i8 := Imp_m h60 (by omega)); (try have i9 := Imp_m h42 (by omega)); (try have i10 := Imp_m h30 (by omega)); (try have i11 := Imp_m h29 (by omega)); (try have i12 := Imp_m h11 (by omega)); (try have i13 := Imp_m h17.2.2.2.1 (by omega)); (try have i14 := Imp_m h17.2.2.2.2.2.1 (by omega)); (try have i15 := Imp_m h48.2.2.2.1 (by omega)); (try have i16 := Imp_m h48.2.2.2.2.2.1 (by omega)); (try have i17 := Imp_m h70.2.2.2.2.2.1 (by omega)); (try have i18 := Imp_m h70.2.2.2.2.2.2.1 (by omega)); (try have i19 := Imp_m h122.2.2.2.1 (by omega)); (try have i20 := Imp_m h122.2.2.2.2.2.1 (by omega)); (try have i21 := Imp_m h144.2.2.2.2.2.1 (by omega)); (try have i22 := Imp_m h144.2.2.2.2.2.2.1 (by omega)); omega)
  have h178 : S174.2.2.2 = (uPd (uPd Sp.2.2.2 (0) ((tV By Nb S55.2.2.1))) (1) ((tV By Nb S129.2.2.1))) := by rw [h175]; show uPd S156.2.2.2 _ _ = _; rw [h164]
  have h179 : S174.1 = S156.1 := by rw [h175]; rfl
  have h180 := CT_k h176 ((h172 _ _ (Or.inr (by decide))).trans h146)
  have o181 : OUT σ0 σ168 a := OUT_st o165 h172 (by omega)
  have h182 : fFirst By Nb Sp = S174 := by unfold fFirst; (try dsimp only); first | (rw [← h25, ← h56, ← h83, ← h101, ← h130, ← h157, ← h175]; first | done | rfl) | (rw [← h25, ← h56, ← h83, ← h101, ← h130, ← h157, ← h175]; rw [if_pos (by omega)]; first | done | rfl) | (rw [← h25, ← h56, ← h83, ← h101, ← h130, ← h157, ← h175]; rw [if_neg (by omega)]; first | done | rfl) | (rw [← h25, ← h56, ← h83, ← h101, ← h130, ← h157, ← h175]; rw [if_neg (by omega), if_pos (by omega)]; first | done | rfl) | (rw [← h25, ← h56, ← h83, ← h101, ← h130, ← h157, ← h175]; rw [if_neg (by omega), if_neg (by omega)]; first | done | rfl) | (rw [← h25, ← h56, ← h83, ← h101, ← h130, ← h157, ← h175]; rw [if_neg (by omega), if_neg (by omega), if_neg (by omega)]; first | done | rfl)
  exact En_ret (v := none) rfl rfl rfl ⟨h169, h170, z145, ((h172 _ _ (Or.inr (by decide))).trans h146), z73, ((h172 _ _ (Or.inr (by decide))).trans ((h143 _ _ (inW ha (by decide +kernel))).trans ((h121 _ _ (inW ha (by decide +kernel))).trans h97))), rfl, ⟨o181, by first | exact q_a555021d16 h144.2.1 | omega, by first | exact q_c733b715bf h144.2.2.1 | omega, by first | exact q_6e734f6d2e h17.2.2.1 h48.2.2.1 h70.2.2.2.1 h122.2.2.1 h144.2.2.2.1 | omega, by first | exact q_98e1bded96 h93 | omega, by omega, by first | exact q_cf30ef85c0 h17.2.2.1 h48.2.2.1 h70.2.2.2.1 h122.2.2.1 h144.2.2.2.1 | omega, by omega, (by rw [h182]; exact ⟨h173, h176, fun zz => by rw [h178]; exact KN_sub (Imp_m h177 zz) (fun t t0 t1 y => Or.inl (Or.inl (act_low (by omega) (act_low (by omega) y))))⟩)⟩⟩
/-- DoorSchool$Reader.takeWay()I -/
abbrev P_75x (σ0 : SG) (By : Int → Int) (Nb : Int) (Sp : PS) (f : Int32) : PO := fun v σ => WT σ ∧ Fr [(3, 1), (3, 2), (3, 3), (3, 4), (3, 5), (3, 6)] σ0 σ ∧ ∃ f1 : Int32, (σ 3)[5]? = some (.int f1) ∧ ∃ ret : Int32, v = some (.int ret) ∧ -ret.toInt - 1 ≤ 0 ∧ ret.toInt - 2 ≤ 0 ∧ -f1.toInt ≤ 0 ∧ f1.toInt - 3 ≤ 0 ∧ -f1.toInt + f.toInt ≤ 0 ∧ f.toInt - f1.toInt ≤ 0 ∧ Imp (f1.toInt ≤ 0) (-ret.toInt ≤ 0) ∧ (CT By Nb σ (tW By Nb Sp) ∧ Imp ((tW By Nb Sp).1 = 0) (ret.toInt = wyV By Nb Sp))
set_option maxRecDepth 10000 in
set_option maxHeartbeats 4000000 in
theorem c_75x {By : Int → Int} {Nb : Int} {Sp : PS} (σ0 : SG) (hσ0 : WT σ0) (f : Int32) (h_f : (σ0 3)[5]? = some (.int f)) (hC : CT By Nb σ0 Sp) : En 5 112 none mr_75 (P_75x σ0 By Nb Sp f) 0 [(0, .ref 3)] [] σ0 := by
  obtain ⟨hl_f, hu_f⟩ := WT_int hσ0 (g := 3) (by decide +kernel) (by decide +kernel) (l := 0) (u := 3) (by decide +kernel) h_f
  have hF0 : Fr [(3, 1), (3, 2), (3, 3), (3, 4), (3, 5), (3, 6)] σ0 σ0 := Fr_rfl
  have h1 := CT_k hC h_f
  refine En_Ps 3 (pc' := 3) (lv' := [(1, .int ((Int32.ofInt (-1)))), (0, .ref 3)]) (st' := [.ref 3]) rfl ?_
  refine En_ldcS (i := 4) rfl rfl rfl ?_
  refine En_callV rfl rfl rfl rfl rfl rfl rfl rfl tgz_3 (by decide +kernel) rfl (c_71s4x σ0 hσ0 hC) (by decide) (by decide) (fun v3 σ4 h2 => ?_)
  obtain ⟨h5, h6, z8, rfl, h7⟩ := h2
  have h9 := h7.2.2
  obtain rfl : σ0 = σ4 := Fr_nil h6
  have h10 := h9
  refine En_iEq _ rfl rfl (fun h11 => ?_) (fun h11 => ?_)
  · refine En_Ps 1 (pc' := 17) (lv' := [(1, .int ((Int32.ofInt (-1)))), (0, .ref 3)]) (st' := [.ref 3]) rfl ?_
    refine En_ldcS (i := 11) rfl rfl rfl ?_
    refine En_callV rfl rfl rfl rfl rfl rfl rfl rfl tgz_3 (by decide +kernel) rfl (c_71s11x σ0 hσ0 hC) (by decide) (by decide) (fun v13 σ14 h12 => ?_)
    obtain ⟨h15, h16, z18, rfl, h17⟩ := h12
    have h19 := h17.2.2
    obtain rfl : σ0 = σ14 := Fr_nil h16
    have h20 := h19
    refine En_iEq _ rfl rfl (fun h21 => ?_) (fun h21 => ?_)
    · refine En_Ps 1 (pc' := 31) (lv' := [(1, .int ((Int32.ofInt (-1)))), (0, .ref 3)]) (st' := [.ref 3]) rfl ?_
      refine En_ldcS (i := 7) rfl rfl rfl ?_
      refine En_callV rfl rfl rfl rfl rfl rfl rfl rfl tgz_3 (by decide +kernel) rfl (c_71s7x σ0 hσ0 hC) (by decide) (by decide) (fun v23 σ24 h22 => ?_)
      obtain ⟨h25, h26, z28, rfl, h27⟩ := h22
      have h29 := h27.2.2
      obtain rfl : σ0 = σ24 := Fr_nil h26
      have h30 := h29
      refine En_iEq _ rfl rfl (fun h31 => ?_) (fun h31 => ?_)
      · refine En_Ps 3 (pc' := 44) (lv' := [(1, .int ((Int32.ofInt (-1)))), (0, .ref 3)]) (st' := [.int ((Int32.ofInt (-1))), .int ((Int32.ofInt (-1))), .ref 3]) rfl ?_
        refine En_icEq _ (by decide : (Int32.ofInt (-1)).toInt = -1) (by decide : (Int32.ofInt (-1)).toInt = -1) rfl (fun h32 => ?_) (fun hx => by first | exact (q_9e6e7ac5cc hx).elim | (exfalso; omega))
        refine En_Ps 1 (pc' := 52) (lv' := [(1, .int ((Int32.ofInt (-1)))), (0, .ref 3)]) (st' := [.int ((Int32.ofInt 0)), .ref 3]) rfl ?_
        have := (by decide : ((Int32.ofInt 0)).toInt = 0)
        refine En_callV rfl rfl rfl rfl rfl rfl rfl rfl tgz_3 (by decide +kernel) rfl (c_59x σ0 hσ0 ((Int32.ofInt 0)) (geI (by decide : (Int32.ofInt 0).toInt = 0) (by decide)) (leI (by decide : (Int32.ofInt 0).toInt = 0) (by decide)) f h_f hC) (by decide) (by decide) (fun v34 σ35 h33 => ?_)
        obtain ⟨h36, h37, z39, h40, rfl, h38⟩ := h33
        have h41 := h38.2.2.2.2.2.2
        have h42 := Fr_trans hF0 h37 (by decide +kernel)
        have h43 : pss By Nb ((Int32.ofInt 0)).toInt Sp = tW By Nb Sp := tWc (fun zz => by (try have i0 := Imp_m h30 (by omega)); (try have i1 := Imp_m h20 (by omega)); (try have i2 := Imp_m h10 (by omega)); omega)
        obtain ⟨S44, h45⟩ : ∃ q : PS, q = tW By Nb Sp := ⟨_, rfl⟩
        have h46 : CT By Nb σ35 S44 := by rw [h45]; exact (CT_eq h41 h43)
        have h47 := CT_k h46 h40
        have h48 : S44.2.2.2 = Sp.2.2.2 := by rw [h45]; exact pss_w
        have h49 : Imp (S44.1 = 0) (Sp.1 = 0) := fun z => (pss_g (by rw [h43, ← h45]; exact z)).1
        have h50 : Imp (S44.1 = 0) (((Int32.ofInt 0)).toInt = 1) := fun z => (pss_g (by rw [h43, ← h45]; exact z)).2.1
        have h51 := Imp_m h38.2.2.2.2.2.1 (by omega)
        refine En_Ps 1 (pc' := 56) (lv' := [(1, .int ((Int32.ofInt (-1)))), (0, .ref 3)]) (st' := [.int ((Int32.ofInt (-1)))]) rfl ?_
        refine En_top (by decide : (Int32.ofInt (-1)).toInt = -1) (fun z52 h53 => ?_)
        exact En_ret (v := some (.int z52)) rfl rfl rfl ⟨h36, h42, z39, h40, z52, rfl, ⟨by first | exact q_6ba54b61e9 h53 | omega, by first | exact q_0409e03873 h53 | omega, by first | exact q_1a6ee862c1 h51 | omega, by first | exact q_c733b715bf h38.2.1 | omega, by first | exact q_d22b102a8e h38.2.2.1 | omega, by first | exact q_83f4b1e050 h38.2.2.1 | omega, fun _ => by omega, ⟨CT_eq h46 (by subst h45; rfl), fun zz => wyVc (by subst h45; (try have i0 := Imp_m h50 (by omega)); (try have i1 := Imp_m h49 (by omega)); (try have i2 := Imp_m h30 (by omega)); (try have i3 := Imp_m h20 (by omega)); (try have i4 := Imp_m h10 (by omega)); (try have i5 := Imp_m h38.2.2.2.1 (by omega)); omega)⟩⟩⟩
      · refine En_Ps 5 (pc' := 44) (lv' := [(1, .int ((Int32.ofInt 2))), (0, .ref 3)]) (st' := [.int ((Int32.ofInt (-1))), .int ((Int32.ofInt 2)), .ref 3]) rfl ?_
        refine En_icEq _ (by decide : (Int32.ofInt 2).toInt = 2) (by decide : (Int32.ofInt (-1)).toInt = -1) rfl (fun hx => by first | exact (q_66a4aabbf3 hx).elim | (exfalso; omega)) (fun h54 => ?_)
        refine En_Ps 2 (pc' := 52) (lv' := [(1, .int ((Int32.ofInt 2))), (0, .ref 3)]) (st' := [.int ((Int32.ofInt 1)), .ref 3]) rfl ?_
        have := (by decide : ((Int32.ofInt 1)).toInt = 1)
        refine En_callV rfl rfl rfl rfl rfl rfl rfl rfl tgz_3 (by decide +kernel) rfl (c_59x σ0 hσ0 ((Int32.ofInt 1)) (geI (by decide : (Int32.ofInt 1).toInt = 1) (by decide)) (leI (by decide : (Int32.ofInt 1).toInt = 1) (by decide)) f h_f hC) (by decide) (by decide) (fun v56 σ57 h55 => ?_)
        obtain ⟨h58, h59, z61, h62, rfl, h60⟩ := h55
        have h63 := h60.2.2.2.2.2.2
        have h64 := Fr_trans hF0 h59 (by decide +kernel)
        have h65 : pss By Nb ((Int32.ofInt 1)).toInt Sp = tW By Nb Sp := tWc (fun zz => by (try have i0 := Imp_m h30 (by omega)); (try have i1 := Imp_m h20 (by omega)); (try have i2 := Imp_m h10 (by omega)); omega)
        obtain ⟨S66, h67⟩ : ∃ q : PS, q = tW By Nb Sp := ⟨_, rfl⟩
        have h68 : CT By Nb σ57 S66 := by rw [h67]; exact (CT_eq h63 h65)
        have h69 := CT_k h68 h62
        have h70 : S66.2.2.2 = Sp.2.2.2 := by rw [h67]; exact pss_w
        have h71 : Imp (S66.1 = 0) (Sp.1 = 0) := fun z => (pss_g (by rw [h65, ← h67]; exact z)).1
        have h72 : Imp (S66.1 = 0) (((Int32.ofInt 1)).toInt = 1) := fun z => (pss_g (by rw [h65, ← h67]; exact z)).2.1
        have h73 := Imp_m h60.2.2.2.1 (by omega)
        refine En_Ps 1 (pc' := 56) (lv' := [(1, .int ((Int32.ofInt 2))), (0, .ref 3)]) (st' := [.int ((Int32.ofInt 2))]) rfl ?_
        refine En_top (by decide : (Int32.ofInt 2).toInt = 2) (fun z74 h75 => ?_)
        exact En_ret (v := some (.int z74)) rfl rfl rfl ⟨h58, h64, z61, h62, z74, rfl, ⟨by first | exact q_3eaee27298 h75 | omega, by first | exact q_e932286a6d h75 | omega, by first | exact q_a555021d16 h60.1 | omega, by first | exact q_c733b715bf h60.2.1 | omega, by first | exact q_d22b102a8e h60.2.2.1 | omega, by first | exact q_83f4b1e050 h60.2.2.1 | omega, fun hh => by first | exact q_1984c8b6d4 h75 | omega, ⟨CT_eq h68 (by subst h67; rfl), fun zz => wyVc (by subst h67; (try have i0 := Imp_m h72 (by omega)); (try have i1 := Imp_m h71 (by omega)); (try have i2 := Imp_m h30 (by omega)); (try have i3 := Imp_m h20 (by omega)); (try have i4 := Imp_m h10 (by omega)); (try have i5 := Imp_m h60.2.2.2.2.2.1 (by omega)); omega)⟩⟩⟩
    · refine En_Ps 6 (pc' := 44) (lv' := [(1, .int ((Int32.ofInt 1))), (0, .ref 3)]) (st' := [.int ((Int32.ofInt (-1))), .int ((Int32.ofInt 1)), .ref 3]) rfl ?_
      refine En_icEq _ (by decide : (Int32.ofInt 1).toInt = 1) (by decide : (Int32.ofInt (-1)).toInt = -1) rfl (fun hx => by first | exact (q_38251b0c5f hx).elim | (exfalso; omega)) (fun h76 => ?_)
      refine En_Ps 2 (pc' := 52) (lv' := [(1, .int ((Int32.ofInt 1))), (0, .ref 3)]) (st' := [.int ((Int32.ofInt 1)), .ref 3]) rfl ?_
      have := (by decide : ((Int32.ofInt 1)).toInt = 1)
      refine En_callV rfl rfl rfl rfl rfl rfl rfl rfl tgz_3 (by decide +kernel) rfl (c_59x σ0 hσ0 ((Int32.ofInt 1)) (geI (by decide : (Int32.ofInt 1).toInt = 1) (by decide)) (leI (by decide : (Int32.ofInt 1).toInt = 1) (by decide)) f h_f hC) (by decide) (by decide) (fun v78 σ79 h77 => ?_)
      obtain ⟨h80, h81, z83, h84, rfl, h82⟩ := h77
      have h85 := h82.2.2.2.2.2.2
      have h86 := Fr_trans hF0 h81 (by decide +kernel)
      have h87 : pss By Nb ((Int32.ofInt 1)).toInt Sp = tW By Nb Sp := tWc (fun zz => by (try have i0 := Imp_m h20 (by omega)); (try have i1 := Imp_m h10 (by omega)); omega)
      obtain ⟨S88, h89⟩ : ∃ q : PS, q = tW By Nb Sp := ⟨_, rfl⟩
      have h90 : CT By Nb σ79 S88 := by rw [h89]; exact (CT_eq h85 h87)
      have h91 := CT_k h90 h84
      have h92 : S88.2.2.2 = Sp.2.2.2 := by rw [h89]; exact pss_w
      have h93 : Imp (S88.1 = 0) (Sp.1 = 0) := fun z => (pss_g (by rw [h87, ← h89]; exact z)).1
      have h94 : Imp (S88.1 = 0) (((Int32.ofInt 1)).toInt = 1) := fun z => (pss_g (by rw [h87, ← h89]; exact z)).2.1
      have h95 := Imp_m h82.2.2.2.1 (by omega)
      refine En_Ps 1 (pc' := 56) (lv' := [(1, .int ((Int32.ofInt 1))), (0, .ref 3)]) (st' := [.int ((Int32.ofInt 1))]) rfl ?_
      refine En_top (by decide : (Int32.ofInt 1).toInt = 1) (fun z96 h97 => ?_)
      exact En_ret (v := some (.int z96)) rfl rfl rfl ⟨h80, h86, z83, h84, z96, rfl, ⟨by first | exact q_4dd9459605 h97 | omega, by first | exact q_a726a5ea71 h97 | omega, by first | exact q_a555021d16 h82.1 | omega, by first | exact q_c733b715bf h82.2.1 | omega, by first | exact q_d22b102a8e h82.2.2.1 | omega, by first | exact q_83f4b1e050 h82.2.2.1 | omega, fun hh => by first | exact q_ad3eee31ca h97 | omega, ⟨CT_eq h90 (by subst h89; rfl), fun zz => wyVc (by subst h89; (try have i0 := Imp_m h94 (by omega)); (try have i1 := Imp_m h93 (by omega)); (try have i2 := Imp_m h20 (by omega)); (try have i3 := Imp_m h10 (by omega)); (try have i4 := Imp_m h82.2.2.2.2.2.1 (by omega)); omega)⟩⟩⟩
  · refine En_Ps 6 (pc' := 44) (lv' := [(1, .int ((Int32.ofInt 0))), (0, .ref 3)]) (st' := [.int ((Int32.ofInt (-1))), .int ((Int32.ofInt 0)), .ref 3]) rfl ?_
    refine En_icEq _ (by decide : (Int32.ofInt 0).toInt = 0) (by decide : (Int32.ofInt (-1)).toInt = -1) rfl (fun hx => by first | exact (q_29857eacf7 hx).elim | (exfalso; omega)) (fun h98 => ?_)
    refine En_Ps 2 (pc' := 52) (lv' := [(1, .int ((Int32.ofInt 0))), (0, .ref 3)]) (st' := [.int ((Int32.ofInt 1)), .ref 3]) rfl ?_
    have := (by decide : ((Int32.ofInt 1)).toInt = 1)
    refine En_callV rfl rfl rfl rfl rfl rfl rfl rfl tgz_3 (by decide +kernel) rfl (c_59x σ0 hσ0 ((Int32.ofInt 1)) (geI (by decide : (Int32.ofInt 1).toInt = 1) (by decide)) (leI (by decide : (Int32.ofInt 1).toInt = 1) (by decide)) f h_f hC) (by decide) (by decide) (fun v100 σ101 h99 => ?_)
    obtain ⟨h102, h103, z105, h106, rfl, h104⟩ := h99
    have h107 := h104.2.2.2.2.2.2
    have h108 := Fr_trans hF0 h103 (by decide +kernel)
    have h109 : pss By Nb ((Int32.ofInt 1)).toInt Sp = tW By Nb Sp := tWc (fun zz => by (try have i0 := Imp_m h10 (by omega)); omega)
    obtain ⟨S110, h111⟩ : ∃ q : PS, q = tW By Nb Sp := ⟨_, rfl⟩
    have h112 : CT By Nb σ101 S110 := by rw [h111]; exact (CT_eq h107 h109)
    have h113 := CT_k h112 h106
    have h114 : S110.2.2.2 = Sp.2.2.2 := by rw [h111]; exact pss_w
    have h115 : Imp (S110.1 = 0) (Sp.1 = 0) := fun z => (pss_g (by rw [h109, ← h111]; exact z)).1
    have h116 : Imp (S110.1 = 0) (((Int32.ofInt 1)).toInt = 1) := fun z => (pss_g (by rw [h109, ← h111]; exact z)).2.1
    have h117 := Imp_m h104.2.2.2.1 (by omega)
    refine En_Ps 1 (pc' := 56) (lv' := [(1, .int ((Int32.ofInt 0))), (0, .ref 3)]) (st' := [.int ((Int32.ofInt 0))]) rfl ?_
    refine En_top (by decide : (Int32.ofInt 0).toInt = 0) (fun z118 h119 => ?_)
    exact En_ret (v := some (.int z118)) rfl rfl rfl ⟨h102, h108, z105, h106, z118, rfl, ⟨by first | exact q_83da3d7e14 h119 | omega, by first | exact q_c4a7b98196 h119 | omega, by first | exact q_a555021d16 h104.1 | omega, by first | exact q_c733b715bf h104.2.1 | omega, by first | exact q_d22b102a8e h104.2.2.1 | omega, by first | exact q_83f4b1e050 h104.2.2.1 | omega, fun hh => by first | exact q_097a37c2ae h119 | omega, ⟨CT_eq h112 (by subst h111; rfl), fun zz => wyVc (by subst h111; (try have i0 := Imp_m h116 (by omega)); (try have i1 := Imp_m h115 (by omega)); (try have i2 := Imp_m h10 (by omega)); (try have i3 := Imp_m h104.2.2.2.2.2.1 (by omega)); omega)⟩⟩⟩
/-- DoorSchool$Reader.readDoor(LDoorSchool$Plan;)V -/
abbrev P_63x (σ0 : SG) (By : Int → Int) (Nb : Int) (Sp : PS) (a : Nat) (f : Int32) (sg : Int32) : PO := fun v σ => WT σ ∧ Fr [(3, 1), (3, 2), (3, 3), (3, 4), (3, 5), (3, 6), (18, 3), (20, 2), (28, 1), (28, 2), (28, 3)] σ0 σ ∧ ∃ f1 : Int32, (σ 3)[5]? = some (.int f1) ∧ v = none ∧ OUT σ0 σ a ∧ -f1.toInt ≤ 0 ∧ f1.toInt - 3 ≤ 0 ∧ -f1.toInt + f.toInt ≤ 0 ∧ f.toInt - f1.toInt ≤ 0 ∧ (CT By Nb σ (fDoor By Nb Sp) ∧ ((fDoor By Nb Sp).1 = 0 → KN σ a (fDoor By Nb Sp).2.2.2 (act (fDoor By Nb Sp).2.2.2)))
set_option maxRecDepth 10000 in
set_option maxHeartbeats 4000000 in
theorem c_63x {By : Int → Int} {Nb : Int} {Sp : PS} (σ0 : SG) (hσ0 : WT σ0) (a : Nat) (ha : TG a = 18) (f : Int32) (h_f : (σ0 3)[5]? = some (.int f)) (sg : Int32) (h_sg : (σ0 a)[1]? = some (.int sg)) (hp0 : -sg.toInt ≤ 0) (hC : CT By Nb σ0 Sp) (hg : Sp.1 = 0) (hP : PLA a) (hX : FXP σ0 a) (hK : KN σ0 a Sp.2.2.2 (act Sp.2.2.2)) : En 6 133 none mr_63 (P_63x σ0 By Nb Sp a f sg) 0 [(0, .ref 3), (1, .ref a)] [] σ0 := by
  obtain ⟨hl_f, hu_f⟩ := WT_int hσ0 (g := 3) (by decide +kernel) (by decide +kernel) (l := 0) (u := 3) (by decide +kernel) h_f
  obtain ⟨hl_sg, hu_sg⟩ := WT_int hσ0 (g := 18) ha (by decide +kernel) (l := (-1)) (u := 4) (by decide +kernel) h_sg
  have hF0 : Fr [(3, 1), (3, 2), (3, 3), (3, 4), (3, 5), (3, 6), (18, 3), (20, 2), (28, 1), (28, 2), (28, 3)] σ0 σ0 := Fr_rfl
  have h1 := CT_k hC h_f
  obtain ⟨z3, h2, h4, h5⟩ := WT_peekI hσ0 ha (by decide +kernel : FT 18 3 = (0, 0, 4)) (by decide +kernel)
  have h6 : Sp.2.2.2 2 = z3.toInt := KN_v hK (Or.inl (by decide)) (by decide) (by decide) (by rw [lcO_lt (by decide) (by decide), Nat.add_zero]) rfl h2
  refine En_Ps 1 (pc' := 1) (lv' := [(0, .ref 3), (1, .ref a)]) (st' := [.ref a]) rfl ?_
  refine En_getK (j := 3) h2 rfl rfl rfl ha (by decide +kernel) ?_
  refine En_Ps 1 (pc' := 5) (lv' := [(0, .ref 3), (1, .ref a)]) (st' := [.int ((Int32.ofInt 4)), .int z3]) rfl ?_
  refine En_icLt _ rfl (by decide : (Int32.ofInt 4).toInt = 4) rfl (fun h7 => ?_) (fun h7 => ?_)
  · refine En_Ps 1 (pc' := 15) (lv' := [(0, .ref 3), (1, .ref a)]) (st' := [.ref 3]) rfl ?_
    obtain ⟨z9, h8, h10, h11⟩ := WT_peekI hσ0 tgz_3 (by decide +kernel : FT 3 3 = (0, 0, 1600)) (by decide +kernel)
    refine En_callV rfl rfl rfl rfl rfl rfl rfl rfl tgz_3 (by decide +kernel) rfl (c_72x σ0 hσ0 z9 h8 hC.1 (CT_at hC (by omega) h8)) (by decide) (by decide) (fun v13 σ14 h12 => ?_)
    obtain ⟨h15, h16, rfl, h17⟩ := h12
    have h18 := h17
    have h19 := Fr_trans hF0 h16 (by decide +kernel)
    obtain ⟨S20, h21⟩ : ∃ q : PS, q = adv By Nb Sp := ⟨_, rfl⟩
    have h22 : CT By Nb σ14 S20 := by rw [h21]; exact (CT_adv hC (by omega) h8 h16 (by decide +kernel) h18.2)
    have h23 := CT_k h22 ((h16 _ _ (inW tgz_3 (by decide +kernel))).trans h_f)
    have h24 : S20.2.2.2 = Sp.2.2.2 := by rw [h21]; exact adv_w
    have h25 : S20.1 = Sp.1 := by rw [h21]; exact adv_1
    have h26 := KN_fr hP hK h16 (by decide +kernel)
    have h27 : S20.2.2.2 = Sp.2.2.2 := h24.trans (rfl : Sp.2.2.2 = Sp.2.2.2)
    have o28 : OUT σ0 σ14 a := OUT_fr OUT_0 h16 (by decide +kernel)
    refine En_Ps 1 (pc' := 19) (lv' := [(0, .ref 3), (1, .ref a)]) (st' := [.ref 3]) rfl ?_
    refine En_callV rfl rfl rfl rfl rfl rfl rfl rfl tgz_3 (by decide +kernel) rfl (c_75x σ14 h15 f ((h16 _ _ (inW tgz_3 (by decide +kernel))).trans h_f) h22) (by decide) (by decide) (fun v30 σ31 h29 => ?_)
    obtain ⟨h32, h33, z35, h36, z37, rfl, h34⟩ := h29
    have h38 := h34.2.2.2.2.2.2.2
    have h39 := Fr_trans h19 h33 (by decide +kernel)
    obtain ⟨S40, h41⟩ : ∃ q : PS, q = tW By Nb S20 := ⟨_, rfl⟩
    have h42 : CT By Nb σ31 S40 := by rw [h41]; exact h38.1
    have h43 := CT_k h42 h36
    have h44 : Imp (S40.1 = 0) (z37.toInt = wyV By Nb S20) := fun z => Imp_m h38.2 (by rw [← h41]; exact z)
    have h45 : Imp (S40.1 = 0) (S20.1 = 0) := fun z => tW_g (by rw [← h41]; exact z)
    have h46 : S40.2.2.2 = S20.2.2.2 := by rw [h41]; exact tW_w
    have h47 := KN_fr hP h26 h33 (by decide +kernel)
    have h48 : S40.2.2.2 = Sp.2.2.2 := h46.trans h27
    have o49 : OUT σ0 σ31 a := OUT_fr o28 h33 (by decide +kernel)
    refine En_Ps 3 (pc' := 25) (lv' := [(2, .int z37), (0, .ref 3), (1, .ref a)]) (st' := [.ref 3, .ref 3]) rfl ?_
    refine En_ldcS (i := 14) rfl rfl rfl ?_
    refine En_callV rfl rfl rfl rfl rfl rfl rfl rfl tgz_3 (by decide +kernel) rfl (c_71s14x σ31 h32 h42) (by decide) (by decide) (fun v51 σ52 h50 => ?_)
    obtain ⟨h53, h54, z56, rfl, h55⟩ := h50
    have h57 := h55.2.2
    obtain rfl : σ31 = σ52 := Fr_nil h54
    have h58 := h57
    refine En_callV rfl rfl rfl rfl rfl rfl rfl rfl tgz_3 (by decide +kernel) rfl (c_59x σ31 h32 z56 (geI rfl (by first | exact q_ef1e8e38bf h55.1 | omega)) (leI rfl (by first | exact q_733c8bfbae h55.2.1 | omega)) z35 h36 h42) (by decide) (by decide) (fun v60 σ61 h59 => ?_)
    obtain ⟨h62, h63, z65, h66, rfl, h64⟩ := h59
    have h67 := h64.2.2.2.2.2.2
    have h68 := Fr_trans h39 h63 (by decide +kernel)
    have h69 : pss By Nb z56.toInt S40 = pss By Nb (iW By Nb 14 S40) S40 := pss_cg2 (fun zz => by (try have i0 := Imp_m h58 (by omega)); (try have i1 := Imp_m h45 (by omega)); (try have i2 := Imp_m h44 (by omega)); (try have i3 := Imp_m h34.2.2.2.2.2.2.1 (by omega)); omega)
    obtain ⟨S70, h71⟩ : ∃ q : PS, q = pss By Nb (iW By Nb 14 S40) S40 := ⟨_, rfl⟩
    have h72 : CT By Nb σ61 S70 := by rw [h71]; exact (CT_eq h67 h69)
    have h73 := CT_k h72 h66
    have h74 : S70.2.2.2 = S40.2.2.2 := by rw [h71]; exact pss_w
    have h75 : Imp (S70.1 = 0) (S40.1 = 0) := fun z => (pss_g (by rw [h69, ← h71]; exact z)).1
    have h76 : Imp (S70.1 = 0) (z56.toInt = 1) := fun z => (pss_g (by rw [h69, ← h71]; exact z)).2.1
    have h77 := KN_fr hP h47 h63 (by decide +kernel)
    have h78 : S70.2.2.2 = Sp.2.2.2 := h74.trans h48
    have o79 : OUT σ0 σ61 a := OUT_fr o49 h63 (by decide +kernel)
    refine En_Ps 3 (pc' := 37) (lv' := [(2, .int z37), (0, .ref 3), (1, .ref a)]) (st' := [.int (((Int8.ofInt 50).toInt32)), .int ((Int32.ofInt 0)), .ref 3]) rfl ?_
    have := (by decide : ((Int32.ofInt 0)).toInt = 0)
    have := (by decide : (((Int8.ofInt 50).toInt32)).toInt = 50)
    refine En_callV rfl rfl rfl rfl rfl rfl rfl rfl tgz_3 (by decide +kernel) rfl (c_73x σ61 h62 ((Int32.ofInt 0)) (((Int8.ofInt 50).toInt32)) z65 h66 h72) (by decide) (by decide) (fun v81 σ82 h80 => ?_)
    obtain ⟨h83, h84, z86, h87, z88, rfl, h85⟩ := h80
    have h89 := h85.2.2.2.2.2.2.2.2.2
    have h90 := Fr_trans h68 h84 (by decide +kernel)
    have h91 : tN By Nb ((Int32.ofInt 0)).toInt (((Int8.ofInt 50).toInt32)).toInt S70 = tN By Nb (0) (50) S70 := tN_cg2 (fun zz => by omega) (fun zz => by omega)
    obtain ⟨S92, h93⟩ : ∃ q : PS, q = tN By Nb (0) (50) S70 := ⟨_, rfl⟩
    have h94 : CT By Nb σ82 S92 := by rw [h93]; exact (CT_eq h89.1 h91)
    have h95 := CT_k h94 h87
    have h96 : Imp (S92.1 = 0) (z88.toInt = tV By Nb S70.2.2.1) := fun z => Imp_m h89.2 (by rw [h91, ← h93]; exact z)
    have h97 : Imp (S92.1 = 0) (S70.1 = 0 ∧ tK By Nb S70.2.2.1 = 2 ∧ 0 ≤ tV By Nb S70.2.2.1 ∧ tV By Nb S70.2.2.1 ≤ 50) := fun z => tN_gg (by rw [← h93]; exact z)
    have h98 : S92.2.2.2 = S70.2.2.2 := by rw [h93]; exact tN_w
    have h99 := KN_fr hP h77 h84 (by decide +kernel)
    have h100 : S92.2.2.2 = Sp.2.2.2 := h98.trans h78
    have o101 : OUT σ0 σ82 a := OUT_fr o79 h84 (by decide +kernel)
    have h102 := Imp_m h85.2.2.2.2.2.2.2.1 (by omega)
    have h103 := Imp_m h85.2.2.2.2.2.2.2.2.1 (by omega)
    refine En_Ps 2 (pc' := 42) (lv' := [(3, .int z88), (2, .int z37), (0, .ref 3), (1, .ref a)]) (st' := [.ref 3]) rfl ?_
    refine En_getK (j := 5) h87 rfl rfl rfl tgz_3 (by decide +kernel) ?_
    refine En_iNe _ rfl rfl (fun h104 => ?_) (fun h104 => ?_)
    · have h105 := Imp_m h85.2.2.2.2.2.2.1 (by first | exact q_e3350da514 h104 h85.2.1 | omega)
      have h106 : fDoor By Nb Sp = S92 := by unfold fDoor; (try dsimp only); first | (rw [← h21, ← h41, ← h71, ← h93]; first | done | rfl) | (rw [← h21, ← h41, ← h71, ← h93]; rw [if_pos (by omega)]; first | done | rfl) | (rw [← h21, ← h41, ← h71, ← h93]; rw [if_neg (by omega)]; first | done | rfl) | (rw [← h21, ← h41, ← h71, ← h93]; rw [if_neg (by omega), if_pos (by omega)]; first | done | rfl) | (rw [← h21, ← h41, ← h71, ← h93]; rw [if_neg (by omega), if_neg (by omega)]; first | done | rfl) | (rw [← h21, ← h41, ← h71, ← h93]; rw [if_neg (by omega), if_neg (by omega), if_neg (by omega)]; first | done | rfl)
      exact En_ret (v := none) rfl rfl rfl ⟨h83, h90, z86, h87, rfl, ⟨o101, by first | exact q_bc42505ae9 h104 h85.2.1 | omega, by first | exact q_c733b715bf h85.2.2.1 | omega, by first | exact q_06e02fd287 h34.2.2.2.2.1 h64.2.2.1 h85.2.2.2.1 | omega, by first | exact q_5ee31f9195 h34.2.2.2.2.1 h64.2.2.1 h85.2.2.2.1 | omega, (by rw [h106]; exact ⟨h94, fun z => absurd z (by omega)⟩)⟩⟩
    · have h107 := Imp_m h34.2.2.2.2.2.2.1 (by first | exact q_aa3c9d52ea h64.2.2.1 h85.2.2.2.1 h104 | omega)
      have h108 := Imp_m h85.2.2.2.2.2.1 (by first | exact q_c5d285f1b9 h104 | omega)
      try have h109 := Imp_m h97 (by omega)
      try have h110 := Imp_m h96 (by omega)
      try have h111 := Imp_m h76 (by omega)
      try have h112 := Imp_m h75 (by omega)
      try have h113 := Imp_m h58 (by omega)
      try have h114 := Imp_m h45 (by omega)
      try have h115 := Imp_m h44 (by omega)
      refine En_Ps 1 (pc' := 49) (lv' := [(3, .int z88), (2, .int z37), (0, .ref 3), (1, .ref a)]) (st' := [.ref a]) rfl ?_
      refine En_getR (j := 4) (g' := 19) (u := 0) rfl rfl rfl ha (by decide +kernel) h83 (by decide +kernel) (fun a117 h116 ha117 => ?_)
      refine En_Ps 1 (pc' := 53) (lv' := [(3, .int z88), (2, .int z37), (0, .ref 3), (1, .ref a)]) (st' := [.ref a, .ref a117]) rfl ?_
      refine En_getK (j := 3) ((h84 _ _ (inW ha (by decide +kernel))).trans ((h63 _ _ (inW ha (by decide +kernel))).trans ((h33 _ _ (inW ha (by decide +kernel))).trans ((h16 _ _ (inW ha (by decide +kernel))).trans h2)))) rfl rfl rfl ha (by decide +kernel) ?_
      refine En_aald (g' := 28) (u := 0) rfl rfl ha117 (by decide +kernel) h83 (by first | exact q_58e6e51dcc h4 | omega) (lnI (by decide +kernel : LN _ = 4) (by first | exact q_074a8b422d h7 | omega)) (FTsgl (by decide +kernel)) (fun a119 h118 ha119 => ?_)
      have h120 := DRc (d := z3.toInt) (FXP_fr hP hX h90 (by decide +kernel)) h116 h118 (by omega) (by omega)
      have h121 := lc_d (d := z3.toInt) (by omega) (by omega)
      obtain ⟨a124, h123, ha124⟩ := WT_peekR (g := 28) (j := 0) (g' := 20) (u := 0) h83 ha119 (by decide +kernel) (by decide +kernel)
      have h122 := DLc (d := z3.toInt) (FXP_fr hP hX h90 (by decide +kernel)) h120 h123 (by omega) (by omega)
      refine En_Ps 2 (pc' := 59) (lv' := [(3, .int z88), (2, .int z37), (0, .ref 3), (1, .ref a)]) (st' := [.int z88, .int z37, .ref a119]) rfl ?_
      refine En_callV rfl rfl rfl rfl rfl rfl rfl rfl ha119 (by decide +kernel) rfl (c_12x σ82 h83 a119 ha119 z37 z88 (geI rfl (by first | exact q_ef1e8e38bf h107 | omega)) (leI rfl (by first | exact q_2b081929f3 h34.2.1 | omega)) (geI rfl (by omega)) (leI rfl (by omega)) a124 ha124 h123) (by decide) (by decide) (fun v126 σ127 h125 => ?_)
      obtain ⟨h128, h129, rfl, h130⟩ := h125
      have h131 := h130
      have h132 := Fr_trans h90 h129 (by decide +kernel)
      obtain ⟨S133, h134⟩ : ∃ q : PS, q = wst (wst (wst (wst S92 (10 + 4 * Sp.2.2.2 2) (wyV By Nb S20)) (10 + 4 * Sp.2.2.2 2 + 1) (tV By Nb S70.2.2.1)) (10 + 4 * Sp.2.2.2 2 + 2) 0) (10 + 4 * Sp.2.2.2 2 + 3) (-1) := ⟨_, rfl⟩
      have h135 : CT By Nb σ127 S133 := by rw [h134]; exact CT_wst (CT_wst (CT_wst (CT_wst (CT_fr h94 h129 (by decide +kernel)))))
      have h138 : z3.toInt = Sp.2.2.2 2 := by omega
      have h136 : KN σ127 a (uPd (uPd (uPd (uPd Sp.2.2.2 (10 + 4 * Sp.2.2.2 2) (wyV By Nb S20)) (10 + 4 * Sp.2.2.2 2 + 1) (tV By Nb S70.2.2.1)) (10 + 4 * Sp.2.2.2 2 + 2) 0) (10 + 4 * Sp.2.2.2 2 + 3) (-1)) (fun t => ((((act Sp.2.2.2 t ∨ t = 10 + 4 * Sp.2.2.2 2) ∨ t = 10 + 4 * Sp.2.2.2 2 + 1) ∨ t = 10 + 4 * Sp.2.2.2 2 + 2) ∨ t = 10 + 4 * Sp.2.2.2 2 + 3)) := KN_w (KN_bgn (d := Sp.2.2.2 2) h99 h131 (by omega) (by omega) (by rw [← h138]; exact h120) (by rw [← h138]; exact h122)) (uPd4_cg (by omega) (by omega))
      have h137 : S133.2.2.2 = (uPd (uPd (uPd (uPd Sp.2.2.2 (10 + 4 * Sp.2.2.2 2) (wyV By Nb S20)) (10 + 4 * Sp.2.2.2 2 + 1) (tV By Nb S70.2.2.1)) (10 + 4 * Sp.2.2.2 2 + 2) 0) (10 + 4 * Sp.2.2.2 2 + 3) (-1)) := by rw [h134]; show uPd (uPd (uPd (uPd S92.2.2.2 _ _) _ _) _ _) _ _ = _; rw [h100]
      have h139 : S133.1 = S92.1 := by rw [h134]; rfl
      have o140 : OUT σ0 σ127 a := OUT_bgn o101 h131 (by omega) (by omega)
      refine En_Ps 2 (pc' := 64) (lv' := [(3, .int z88), (2, .int z37), (0, .ref 3), (1, .ref a)]) (st' := [.ref a, .ref a]) rfl ?_
      refine En_getK (j := 3) ((h129 _ _ (inW ha (by decide +kernel))).trans ((h84 _ _ (inW ha (by decide +kernel))).trans ((h63 _ _ (inW ha (by decide +kernel))).trans ((h33 _ _ (inW ha (by decide +kernel))).trans ((h16 _ _ (inW ha (by decide +kernel))).trans h2))))) rfl rfl rfl ha (by decide +kernel) ?_
      refine En_Ps 2 (pc' := 69) (lv' := [(3, .int z88), (2, .int z37), (0, .ref 3), (1, .ref a)]) (st' := [.int ((z3 + ((Int32.ofInt 1)))), .ref a]) rfl ?_
      refine En_top (addI rfl (by decide : (Int32.ofInt 1).toInt = 1) (by first | exact q_465ab79ac1 h4 | omega) (by first | exact q_d8bf7f475a h7 | omega)) (fun z141 h142 => ?_)
      refine En_put (j := 3) rfl rfl rfl ha (by decide +kernel) rfl (vI (l := 0) (u := 4) (by decide +kernel) rfl (by first | exact q_35104ce9d3 h142 h4 | omega) (by first | exact q_ddc5c16a68 h142 h7 | omega)) h128 h132 (by decide +kernel) (fun σ143 h144 h145 h146 h147 => ?_)
      obtain ⟨S148, h149⟩ : ∃ q : PS, q = wst S133 (2) (Sp.2.2.2 2 + 1) := ⟨_, rfl⟩
      have h150 : CT By Nb σ143 S148 := by rw [h149]; exact CT_wst (CT_ne h135 h147 (by have := hP; unfold PLA at this; omega))
      have h151 : KN σ143 a (uPd (uPd (uPd (uPd (uPd Sp.2.2.2 (10 + 4 * Sp.2.2.2 2) (wyV By Nb S20)) (10 + 4 * Sp.2.2.2 2 + 1) (tV By Nb S70.2.2.1)) (10 + 4 * Sp.2.2.2 2 + 2) 0) (10 + 4 * Sp.2.2.2 2 + 3) (-1)) (2) (Sp.2.2.2 2 + 1)) (fun t => (((((act Sp.2.2.2 t ∨ t = 10 + 4 * Sp.2.2.2 2) ∨ t = 10 + 4 * Sp.2.2.2 2 + 1) ∨ t = 10 + 4 * Sp.2.2.2 2 + 2) ∨ t = 10 + 4 * Sp.2.2.2 2 + 3) ∨ t = 2)) := KN_st h136 h146 h147 (by omega) (by omega) (by rw [lcO_lt (by decide) (by decide), Nat.add_zero]) (by decide) (by (try have i0 := Imp_m h97 (by omega)); (try have i1 := Imp_m h96 (by omega)); (try have i2 := Imp_m h76 (by omega)); (try have i3 := Imp_m h75 (by omega)); (try have i4 := Imp_m h58 (by omega)); (try have i5 := Imp_m h45 (by omega)); (try have i6 := Imp_m h44 (by omega)); (try have i7 := Imp_m h64.2.2.2.1 (by omega)); (try have i8 := Imp_m h64.2.2.2.2.2.1 (by omega)); (try have i9 := Imp_m h85.2.2.2.2.2.2.1 (by omega)); omega)
      have h152 : S148.2.2.2 = (uPd (uPd (uPd (uPd (uPd Sp.2.2.2 (10 + 4 * Sp.2.2.2 2) (wyV By Nb S20)) (10 + 4 * Sp.2.2.2 2 + 1) (tV By Nb S70.2.2.1)) (10 + 4 * Sp.2.2.2 2 + 2) 0) (10 + 4 * Sp.2.2.2 2 + 3) (-1)) (2) (Sp.2.2.2 2 + 1)) := by rw [h149]; show uPd S133.2.2.2 _ _ = _; rw [h137]
      have h153 : S148.1 = S133.1 := by rw [h149]; rfl
      have h154 := CT_k h150 ((h147 _ _ (Or.inr (by decide))).trans ((h129 _ _ (inW tgz_3 (by decide +kernel))).trans h87))
      have o155 : OUT σ0 σ143 a := OUT_st o140 h147 (by omega)
      have h156 : fDoor By Nb Sp = S148 := by unfold fDoor; (try dsimp only); first | (rw [← h21, ← h41, ← h71, ← h93, ← h134, ← h149]; first | done | rfl) | (rw [← h21, ← h41, ← h71, ← h93, ← h134, ← h149]; rw [if_pos (by omega)]; first | done | rfl) | (rw [← h21, ← h41, ← h71, ← h93, ← h134, ← h149]; rw [if_neg (by omega)]; first | done | rfl) | (rw [← h21, ← h41, ← h71, ← h93, ← h134, ← h149]; rw [if_neg (by omega), if_pos (by omega)]; first | done | rfl) | (rw [← h21, ← h41, ← h71, ← h93, ← h134, ← h149]; rw [if_neg (by omega), if_neg (by omega)]; first | done | rfl) | (rw [← h21, ← h41, ← h71, ← h93, ← h134, ← h149]; rw [if_neg (by omega), if_neg (by omega), if_neg (by omega)]; first | done | rfl)
      exact En_ret (v := none) rfl rfl rfl ⟨h144, h145, z86, ((h147 _ _ (Or.inr (by decide))).trans ((h129 _ _ (inW tgz_3 (by decide +kernel))).trans h87)), rfl, ⟨o155, by first | exact q_a555021d16 h85.2.1 | omega, by first | exact q_bd3fa30443 h104 | omega, by first | exact q_06e02fd287 h34.2.2.2.2.1 h64.2.2.1 h85.2.2.2.1 | omega, by first | exact q_5ee31f9195 h34.2.2.2.2.1 h64.2.2.1 h85.2.2.2.1 | omega, (by rw [h156]; exact ⟨h150, fun zz => by rw [h152]; exact KN_sub h151 (fun t t0 t1 y => ADr (act_dr (by omega) (by omega) y))⟩)⟩⟩
  · refine En_Ps 2 (pc' := 10) (lv' := [(0, .ref 3), (1, .ref a)]) (st' := [.int ((Int32.ofInt 3)), .ref 3]) rfl ?_
    have := (by decide : ((Int32.ofInt 3)).toInt = 3)
    refine En_callV rfl rfl rfl rfl rfl rfl rfl rfl tgz_3 (by decide +kernel) rfl (c_54x σ0 hσ0 ((Int32.ofInt 3)) (geI (by decide : (Int32.ofInt 3).toInt = 3) (by decide)) (leI (by decide : (Int32.ofInt 3).toInt = 3) (by decide)) f h_f hC) (by decide) (by decide) (fun v158 σ159 h157 => ?_)
    obtain ⟨h160, h161, z163, h164, rfl, h162⟩ := h157
    have h165 := h162.2.2.2.2.2
    have h166 := Fr_trans hF0 h161 (by decide +kernel)
    obtain ⟨S167, h168⟩ : ∃ q : PS, q = err By Nb 3 Sp := ⟨_, rfl⟩
    have h169 : CT By Nb σ159 S167 := by rw [h168]; exact (CT_eq h165 (err_cg (by omega)))
    have h170 := CT_k h169 h164
    have h171 : S167.2.2.2 = Sp.2.2.2 := by rw [h168]; exact err_w
    have h172 := KN_fr hP hK h161 (by decide +kernel)
    have h173 : S167.2.2.2 = Sp.2.2.2 := h171.trans (rfl : Sp.2.2.2 = Sp.2.2.2)
    have o174 : OUT σ0 σ159 a := OUT_fr OUT_0 h161 (by decide +kernel)
    have h175 : fDoor By Nb Sp = S167 := by unfold fDoor; (try dsimp only); first | (rw [← h168]; first | done | rfl) | (rw [← h168]; rw [if_pos (by omega)]; first | done | rfl) | (rw [← h168]; rw [if_neg (by omega)]; first | done | rfl) | (rw [← h168]; rw [if_neg (by omega), if_pos (by omega)]; first | done | rfl) | (rw [← h168]; rw [if_neg (by omega), if_neg (by omega)]; first | done | rfl) | (rw [← h168]; rw [if_neg (by omega), if_neg (by omega), if_neg (by omega)]; first | done | rfl)
    exact En_ret (v := none) rfl rfl rfl ⟨h160, h166, z163, h164, rfl, ⟨o174, by first | exact q_1a6ee862c1 h162.1 | omega, by first | exact q_c733b715bf h162.2.1 | omega, by first | exact q_d22b102a8e h162.2.2.1 | omega, by first | exact q_83f4b1e050 h162.2.2.1 | omega, (by rw [h175]; exact ⟨h169, fun z => absurd z (by omega)⟩)⟩⟩

