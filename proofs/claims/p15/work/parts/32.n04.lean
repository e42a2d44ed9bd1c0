/-- DoorSchool$Reader.stands(Ljava/lang/String;)Z -/
abbrev P_71s13x (σ0 : SG) (By : Int → Int) (Nb : Int) (Sp : PS) : PO := fun v σ => WT σ ∧ Fr [] σ0 σ ∧ ∃ ret : Int32, v = some (.int ret) ∧ -ret.toInt ≤ 0 ∧ ret.toInt - 1 ≤ 0 ∧ Imp (Sp.1 = 0) (ret.toInt = iW By Nb 13 Sp)
set_option maxRecDepth 10000 in
set_option maxHeartbeats 4000000 in
theorem c_71s13x {By : Int → Int} {Nb : Int} {Sp : PS} (σ0 : SG) (hσ0 : WT σ0) (hC : CT By Nb σ0 Sp) : En 4 90 none mr_71 (P_71s13x σ0 By Nb Sp) 0 [(0, .ref 3), (1, .retAddr 27)] [] σ0 := by
  have hF0 : Fr [] σ0 σ0 := Fr_rfl
  obtain ⟨z2, h1, h3, h4⟩ := WT_peekI hσ0 tgz_3 (by decide +kernel : FT 3 1 = (0, 0, 4)) (by decide +kernel)
  obtain ⟨z6, h5, h7, h8⟩ := WT_peekI hσ0 tgz_3 (by decide +kernel : FT 3 3 = (0, 0, 1600)) (by decide +kernel)
  obtain ⟨z10, h9, h11, h12⟩ := WT_peekI hσ0 tgz_3 (by decide +kernel : FT 3 2 = (0, 0, 1600)) (by decide +kernel)
  have h13 : Imp (Sp.1 = 0) (tK By Nb Sp.2.2.1 = z2.toInt) := CT_t hC h1
  refine En_Ps 1 (pc' := 1) (lv' := [(0, .ref 3), (1, .retAddr 27)]) (st' := [.ref 3]) rfl ?_
  refine En_getK (j := 1) h1 rfl rfl rfl tgz_3 (by decide +kernel) ?_
  refine En_Ps 1 (pc' := 5) (lv' := [(0, .ref 3), (1, .retAddr 27)]) (st' := [.int ((Int32.ofInt 1)), .int z2]) rfl ?_
  refine En_icNe _ rfl (by decide : (Int32.ofInt 1).toInt = 1) rfl (fun h14 => ?_) (fun h14 => ?_)
  · refine En_Ps 1 (pc' := 25) (lv' := [(0, .ref 3), (1, .retAddr 27)]) (st' := [.int ((Int32.ofInt 0))]) rfl ?_
    refine En_top (by decide : (Int32.ofInt 0).toInt = 0) (fun z15 h16 => ?_)
    exact En_ret (v := some (.int z15)) rfl rfl (retZ rfl rfl (by omega) (by omega)) ⟨hσ0, hF0, z15, rfl, ⟨by omega, by omega, fun z => by have q1 := CT_t hC h1 z; have q2 := CT_fa hC h5 h9 z; have q := iW_0 (By := By) (Nb := Nb) (i := 13) (S := Sp) (by simp only [LWl]; omega); omega⟩⟩
  · refine En_Ps 1 (pc' := 9) (lv' := [(0, .ref 3), (1, .retAddr 27)]) (st' := [.ref 3]) rfl ?_
    refine En_getK (j := 3) h5 rfl rfl rfl tgz_3 (by decide +kernel) ?_
    refine En_Ps 1 (pc' := 13) (lv' := [(0, .ref 3), (1, .retAddr 27)]) (st' := [.ref 3, .int z6]) rfl ?_
    refine En_getK (j := 2) h9 rfl rfl rfl tgz_3 (by decide +kernel) ?_
    refine En_Ps 1 (pc' := 17) (lv' := [(0, .ref 3), (1, .retAddr 27)]) (st' := [.int ((z6 - z10))]) rfl ?_
    refine En_top (subI rfl rfl (by omega) (by omega)) (fun z17 h18 => ?_)
    refine En_Ps 1 (pc' := 18) (lv' := [(0, .ref 3), (1, .retAddr 27)]) (st' := [.retAddr 27, .int z17]) rfl ?_
    refine En_slen 13 5 rfl rfl (by decide) rfl ?_
    refine En_icEq _ rfl (by decide : (Int32.ofNat 5).toInt = 5) rfl (fun h19 => ?_) (fun h19 => ?_)
    · refine En_Ps 2 (pc' := 28) (lv' := [(2, .int ((Int32.ofInt 0))), (0, .ref 3), (1, .retAddr 27)]) (st' := []) rfl ?_
      have key28 : ∀ (n28 : Nat) (σ21 : SG) (y20 : Int32), WT σ21 → Fr [] σ0 σ21 → (σ21 3)[1]? = some (.int z2) → (σ21 3)[3]? = some (.int z6) → (σ21 3)[2]? = some (.int z10) → 0 ≤ y20.toInt → y20.toInt ≤ 5 → z6.toInt - y20.toInt < (n28 : Int) → Imp (Sp.1 = 0) (ISQ By Nb 13 Sp 1 y20.toInt) → En 4 90 none mr_71 (P_71s13x σ0 By Nb Sp) 28 [(0, .ref 3), (1, .retAddr 27), (2, .int y20)] [] σ21 := by
        intro n28
        induction n28 with
        | zero =>
          intro σ21 y20 h22 h23 h24 h25 h26 h27 h28 h29 h30
          exfalso; omega
        | succ n28 ih28 =>
          intro σ21 y20 h22 h23 h24 h25 h26 h27 h28 h29 h30
          refine En_Ps 2 (pc' := 30) (lv' := [(0, .ref 3), (1, .retAddr 27), (2, .int y20)]) (st' := [.retAddr 27, .int y20]) rfl ?_
          refine En_slen 13 5 rfl rfl (by decide) rfl ?_
          refine En_icGe _ rfl (by decide : (Int32.ofNat 5).toInt = 5) rfl (fun h31 => ?_) (fun h31 => ?_)
          · refine En_Ps 1 (pc' := 67) (lv' := [(0, .ref 3), (1, .retAddr 27), (2, .int y20)]) (st' := [.int ((Int32.ofInt 1))]) rfl ?_
            refine En_top (by decide : (Int32.ofInt 1).toInt = 1) (fun z32 h33 => ?_)
            exact En_ret (v := some (.int z32)) rfl rfl (retZ rfl rfl (by omega) (by omega)) ⟨h22, h23, z32, rfl, ⟨by omega, by omega, fun z => by have q := ISQ_x (Imp_m h30 z) (Or.inr (by simp only [LWl]; omega)); omega⟩⟩
          · refine En_Ps 1 (pc' := 37) (lv' := [(0, .ref 3), (1, .retAddr 27), (2, .int y20)]) (st' := [.ref 3]) rfl ?_
            refine En_getU (j := 0) (u := 1) (g' := 1) (q := 0) rfl rfl rfl tgz_3 (by decide +kernel) h22 (by decide +kernel) (by decide +kernel) (fun h34 => ?_)
            refine En_getU (j := 0) (u := 2) (g' := 2) (q := 0) rfl rfl rfl tgz_1 (by decide +kernel) h22 (by decide +kernel) (by decide +kernel) (fun h36 => ?_)
            refine En_Ps 1 (pc' := 44) (lv' := [(0, .ref 3), (1, .retAddr 27), (2, .int y20)]) (st' := [.ref 3, .ref 2]) rfl ?_
            refine En_getK (j := 2) h26 rfl rfl rfl tgz_3 (by decide +kernel) ?_
            refine En_Ps 2 (pc' := 49) (lv' := [(0, .ref 3), (1, .retAddr 27), (2, .int y20)]) (st' := [.int ((z10 + y20)), .ref 2]) rfl ?_
            refine En_top (addI rfl rfl (by omega) (by omega)) (fun z38 h39 => ?_)
            refine En_bald (l := (-128)) (u := 127) rfl rfl tgz_2 (by decide +kernel) h22 (by omega) (lnI (by decide +kernel : LN _ = 1600) (by omega)) (FTsgl (by decide +kernel)) (fun z41 h40 h42 h43 => ?_)
            refine En_Ps 2 (pc' := 52) (lv' := [(0, .ref 3), (1, .retAddr 27), (2, .int y20)]) (st' := [.int y20, .retAddr 27, .int z41]) rfl ?_
            refine En_scharX 13 5 rfl rfl rfl (by decide) (by omega) (by omega) rfl (fun z44 h45 h46 h47 => ?_)
            refine En_icEq _ rfl rfl rfl (fun h48 => ?_) (fun h48 => ?_)
            · refine En_Ps 1 (pc' := 63) (lv' := [(2, .int ((y20 + Int32.ofInt 1))), (0, .ref 3), (1, .retAddr 27)]) (st' := []) rfl ?_
              refine En_lv1 (addI rfl (by decide : (Int32.ofInt 1).toInt = 1) (by omega) (by omega)) (fun z49 h50 => ?_)
              refine En_Ps 1 (pc' := 28) (lv' := [(2, .int z49), (0, .ref 3), (1, .retAddr 27)]) (st' := []) rfl ?_
              refine En_lv (lv := [(0, .ref 3), (1, .retAddr 27), (2, .int z49)]) ⟨rfl, rfl, rfl, trivial⟩ ?_
              exact ih28 σ21 z49 h22 h23 h24 h25 h26 (by omega) (by omega) (by omega) (fun z => by have q1 := CT_t hC h1 z; have q2 := CT_fa hC h5 h9 z; exact ISQc_n (CT_fr hC h23 (by decide +kernel)) (Imp_m h30 z) (by simp only [LWl]; omega) (by omega) h40 h47 (by omega) (by omega))
            · refine En_Ps 1 (pc' := 59) (lv' := [(0, .ref 3), (1, .retAddr 27), (2, .int y20)]) (st' := [.int ((Int32.ofInt 0))]) rfl ?_
              refine En_top (by decide : (Int32.ofInt 0).toInt = 0) (fun z51 h52 => ?_)
              exact En_ret (v := some (.int z51)) rfl rfl (retZ rfl rfl (by omega) (by omega)) ⟨h22, h23, z51, rfl, ⟨by omega, by omega, fun z => by have q1 := CT_t hC h1 z; have q2 := CT_fa hC h5 h9 z; have q := ISQc_n (b' := 0) (CT_fr hC h23 (by decide +kernel)) (Imp_m h30 z) (by simp only [LWl]; omega) (by omega) h40 h47 rfl (Or.inr ⟨rfl, by omega⟩); have q2 := ISQ_x q (Or.inl rfl); omega⟩⟩
      have := (by decide : (Int32.ofInt 0).toInt = 0)
      refine En_lv (lv := [(0, .ref 3), (1, .retAddr 27), (2, .int ((Int32.ofInt 0)))]) ⟨rfl, rfl, rfl, trivial⟩ ?_
      exact key28 (Int.toNat (z6.toInt) + 1) σ0 ((Int32.ofInt 0)) hσ0 hF0 h1 h5 h9 (by omega) (by omega) (by omega) (fun z => by have q1 := CT_t hC h1 z; have q2 := CT_fa hC h5 h9 z; exact ISQc_s (by decide) z (by omega) (by simp only [LWl]; omega))
    · refine En_Ps 1 (pc' := 25) (lv' := [(0, .ref 3), (1, .retAddr 27)]) (st' := [.int ((Int32.ofInt 0))]) rfl ?_
      refine En_top (by decide : (Int32.ofInt 0).toInt = 0) (fun z53 h54 => ?_)
      exact En_ret (v := some (.int z53)) rfl rfl (retZ rfl rfl (by omega) (by omega)) ⟨hσ0, hF0, z53, rfl, ⟨by omega, by omega, fun z => by have q1 := CT_t hC h1 z; have q2 := CT_fa hC h5 h9 z; have q := iW_0 (By := By) (Nb := Nb) (i := 13) (S := Sp) (by simp only [LWl]; omega); omega⟩⟩
/-- DoorSchool$Reader.stands(Ljava/lang/String;)Z -/
abbrev P_71s14x (σ0 : SG) (By : Int → Int) (Nb : Int) (Sp : PS) : PO := fun v σ => WT σ ∧ Fr [] σ0 σ ∧ ∃ ret : Int32, v = some (.int ret) ∧ -ret.toInt ≤ 0 ∧ ret.toInt - 1 ≤ 0 ∧ Imp (Sp.1 = 0) (ret.toInt = iW By Nb 14 Sp)
set_option maxRecDepth 10000 in
set_option maxHeartbeats 4000000 in
theorem c_71s14x {By : Int → Int} {Nb : Int} {Sp : PS} (σ0 : SG) (hσ0 : WT σ0) (hC : CT By Nb σ0 Sp) : En 4 90 none mr_71 (P_71s14x σ0 By Nb Sp) 0 [(0, .ref 3), (1, .retAddr 29)] [] σ0 := by
  have hF0 : Fr [] σ0 σ0 := Fr_rfl
  obtain ⟨z2, h1, h3, h4⟩ := WT_peekI hσ0 tgz_3 (by decide +kernel : FT 3 1 = (0, 0, 4)) (by decide +kernel)
  obtain ⟨z6, h5, h7, h8⟩ := WT_peekI hσ0 tgz_3 (by decide +kernel : FT 3 3 = (0, 0, 1600)) (by decide +kernel)
  obtain ⟨z10, h9, h11, h12⟩ := WT_peekI hσ0 tgz_3 (by decide +kernel : FT 3 2 = (0, 0, 1600)) (by decide +kernel)
  have h13 : Imp (Sp.1 = 0) (tK By Nb Sp.2.2.1 = z2.toInt) := CT_t hC h1
  refine En_Ps 1 (pc' := 1) (lv' := [(0, .ref 3), (1, .retAddr 29)]) (st' := [.ref 3]) rfl ?_
  refine En_getK (j := 1) h1 rfl rfl rfl tgz_3 (by decide +kernel) ?_
  refine En_Ps 1 (pc' := 5) (lv' := [(0, .ref 3), (1, .retAddr 29)]) (st' := [.int ((Int32.ofInt 1)), .int z2]) rfl ?_
  refine En_icNe _ rfl (by decide : (Int32.ofInt 1).toInt = 1) rfl (fun h14 => ?_) (fun h14 => ?_)
  · refine En_Ps 1 (pc' := 25) (lv' := [(0, .ref 3), (1, .retAddr 29)]) (st' := [.int ((Int32.ofInt 0))]) rfl ?_
    refine En_top (by decide : (Int32.ofInt 0).toInt = 0) (fun z15 h16 => ?_)
    exact En_ret (v := some (.int z15)) rfl rfl (retZ rfl rfl (by omega) (by omega)) ⟨hσ0, hF0, z15, rfl, ⟨by omega, by omega, fun z => by have q1 := CT_t hC h1 z; have q2 := CT_fa hC h5 h9 z; have q := iW_0 (By := By) (Nb := Nb) (i := 14) (S := Sp) (by simp only [LWl]; omega); omega⟩⟩
  · refine En_Ps 1 (pc' := 9) (lv' := [(0, .ref 3), (1, .retAddr 29)]) (st' := [.ref 3]) rfl ?_
    refine En_getK (j := 3) h5 rfl rfl rfl tgz_3 (by decide +kernel) ?_
    refine En_Ps 1 (pc' := 13) (lv' := [(0, .ref 3), (1, .retAddr 29)]) (st' := [.ref 3, .int z6]) rfl ?_
    refine En_getK (j := 2) h9 rfl rfl rfl tgz_3 (by decide +kernel) ?_
    refine En_Ps 1 (pc' := 17) (lv' := [(0, .ref 3), (1, .retAddr 29)]) (st' := [.int ((z6 - z10))]) rfl ?_
    refine En_top (subI rfl rfl (by omega) (by omega)) (fun z17 h18 => ?_)
    refine En_Ps 1 (pc' := 18) (lv' := [(0, .ref 3), (1, .retAddr 29)]) (st' := [.retAddr 29, .int z17]) rfl ?_
    refine En_slen 14 5 rfl rfl (by decide) rfl ?_
    refine En_icEq _ rfl (by decide : (Int32.ofNat 5).toInt = 5) rfl (fun h19 => ?_) (fun h19 => ?_)
    · refine En_Ps 2 (pc' := 28) (lv' := [(2, .int ((Int32.ofInt 0))), (0, .ref 3), (1, .retAddr 29)]) (st' := []) rfl ?_
      have key28 : ∀ (n28 : Nat) (σ21 : SG) (y20 : Int32), WT σ21 → Fr [] σ0 σ21 → (σ21 3)[1]? = some (.int z2) → (σ21 3)[3]? = some (.int z6) → (σ21 3)[2]? = some (.int z10) → 0 ≤ y20.toInt → y20.toInt ≤ 5 → z6.toInt - y20.toInt < (n28 : Int) → Imp (Sp.1 = 0) (ISQ By Nb 14 Sp 1 y20.toInt) → En 4 90 none mr_71 (P_71s14x σ0 By Nb Sp) 28 [(0, .ref 3), (1, .retAddr 29), (2, .int y20)] [] σ21 := by
        intro n28
        induction n28 with
        | zero =>
          intro σ21 y20 h22 h23 h24 h25 h26 h27 h28 h29 h30
          exfalso; omega
        | succ n28 ih28 =>
          intro σ21 y20 h22 h23 h24 h25 h26 h27 h28 h29 h30
          refine En_Ps 2 (pc' := 30) (lv' := [(0, .ref 3), (1, .retAddr 29), (2, .int y20)]) (st' := [.retAddr 29, .int y20]) rfl ?_
          refine En_slen 14 5 rfl rfl (by decide) rfl ?_
          refine En_icGe _ rfl (by decide : (Int32.ofNat 5).toInt = 5) rfl (fun h31 => ?_) (fun h31 => ?_)
          · refine En_Ps 1 (pc' := 67) (lv' := [(0, .ref 3), (1, .retAddr 29), (2, .int y20)]) (st' := [.int ((Int32.ofInt 1))]) rfl ?_
            refine En_top (by decide : (Int32.ofInt 1).toInt = 1) (fun z32 h33 => ?_)
            exact En_ret (v := some (.int z32)) rfl rfl (retZ rfl rfl (by omega) (by omega)) ⟨h22, h23, z32, rfl, ⟨by omega, by omega, fun z => by have q := ISQ_x (Imp_m h30 z) (Or.inr (by simp only [LWl]; omega)); omega⟩⟩
          · refine En_Ps 1 (pc' := 37) (lv' := [(0, .ref 3), (1, .retAddr 29), (2, .int y20)]) (st' := [.ref 3]) rfl ?_
            refine En_getU (j := 0) (u := 1) (g' := 1) (q := 0) rfl rfl rfl tgz_3 (by decide +kernel) h22 (by decide +kernel) (by decide +kernel) (fun h34 => ?_)
            refine En_getU (j := 0) (u := 2) (g' := 2) (q := 0) rfl rfl rfl tgz_1 (by decide +kernel) h22 (by decide +kernel) (by decide +kernel) (fun h36 => ?_)
            refine En_Ps 1 (pc' := 44) (lv' := [(0, .ref 3), (1, .retAddr 29), (2, .int y20)]) (st' := [.ref 3, .ref 2]) rfl ?_
            refine En_getK (j := 2) h26 rfl rfl rfl tgz_3 (by decide +kernel) ?_
            refine En_Ps 2 (pc' := 49) (lv' := [(0, .ref 3), (1, .retAddr 29), (2, .int y20)]) (st' := [.int ((z10 + y20)), .ref 2]) rfl ?_
            refine En_top (addI rfl rfl (by omega) (by omega)) (fun z38 h39 => ?_)
            refine En_bald (l := (-128)) (u := 127) rfl rfl tgz_2 (by decide +kernel) h22 (by omega) (lnI (by decide +kernel : LN _ = 1600) (by omega)) (FTsgl (by decide +kernel)) (fun z41 h40 h42 h43 => ?_)
            refine En_Ps 2 (pc' := 52) (lv' := [(0, .ref 3), (1, .retAddr 29), (2, .int y20)]) (st' := [.int y20, .retAddr 29, .int z41]) rfl ?_
            refine En_scharX 14 5 rfl rfl rfl (by decide) (by omega) (by omega) rfl (fun z44 h45 h46 h47 => ?_)
            refine En_icEq _ rfl rfl rfl (fun h48 => ?_) (fun h48 => ?_)
            · refine En_Ps 1 (pc' := 63) (lv' := [(2, .int ((y20 + Int32.ofInt 1))), (0, .ref 3), (1, .retAddr 29)]) (st' := []) rfl ?_
              refine En_lv1 (addI rfl (by decide : (Int32.ofInt 1).toInt = 1) (by omega) (by omega)) (fun z49 h50 => ?_)
              refine En_Ps 1 (pc' := 28) (lv' := [(2, .int z49), (0, .ref 3), (1, .retAddr 29)]) (st' := []) rfl ?_
              refine En_lv (lv := [(0, .ref 3), (1, .retAddr 29), (2, .int z49)]) ⟨rfl, rfl, rfl, trivial⟩ ?_
              exact ih28 σ21 z49 h22 h23 h24 h25 h26 (by omega) (by omega) (by omega) (fun z => by have q1 := CT_t hC h1 z; have q2 := CT_fa hC h5 h9 z; exact ISQc_n (CT_fr hC h23 (by decide +kernel)) (Imp_m h30 z) (by simp only [LWl]; omega) (by omega) h40 h47 (by omega) (by omega))
            · refine En_Ps 1 (pc' := 59) (lv' := [(0, .ref 3), (1, .retAddr 29), (2, .int y20)]) (st' := [.int ((Int32.ofInt 0))]) rfl ?_
              refine En_top (by decide : (Int32.ofInt 0).toInt = 0) (fun z51 h52 => ?_)
              exact En_ret (v := some (.int z51)) rfl rfl (retZ rfl rfl (by omega) (by omega)) ⟨h22, h23, z51, rfl, ⟨by omega, by omega, fun z => by have q1 := CT_t hC h1 z; have q2 := CT_fa hC h5 h9 z; have q := ISQc_n (b' := 0) (CT_fr hC h23 (by decide +kernel)) (Imp_m h30 z) (by simp only [LWl]; omega) (by omega) h40 h47 rfl (Or.inr ⟨rfl, by omega⟩); have q2 := ISQ_x q (Or.inl rfl); omega⟩⟩
      have := (by decide : (Int32.ofInt 0).toInt = 0)
      refine En_lv (lv := [(0, .ref 3), (1, .retAddr 29), (2, .int ((Int32.ofInt 0)))]) ⟨rfl, rfl, rfl, trivial⟩ ?_
      exact key28 (Int.toNat (z6.toInt) + 1) σ0 ((Int32.ofInt 0)) hσ0 hF0 h1 h5 h9 (by omega) (by omega) (by omega) (fun z => by have q1 := CT_t hC h1 z; have q2 := CT_fa hC h5 h9 z; exact ISQc_s (by decide) z (by omega) (by simp only [LWl]; omega))
    · refine En_Ps 1 (pc' := 25) (lv' := [(0, .ref 3), (1, .retAddr 29)]) (st' := [.int ((Int32.ofInt 0))]) rfl ?_
      refine En_top (by decide : (Int32.ofInt 0).toInt = 0) (fun z53 h54 => ?_)
      exact En_ret (v := some (.int z53)) rfl rfl (retZ rfl rfl (by omega) (by omega)) ⟨hσ0, hF0, z53, rfl, ⟨by omega, by omega, fun z => by have q1 := CT_t hC h1 z; have q2 := CT_fa hC h5 h9 z; have q := iW_0 (By := By) (Nb := Nb) (i := 14) (S := Sp) (by simp only [LWl]; omega); omega⟩⟩
/-- DoorSchool$Reader.stands(Ljava/lang/String;)Z -/
abbrev P_71s15x (σ0 : SG) (By : Int → Int) (Nb : Int) (Sp : PS) : PO := fun v σ => WT σ ∧ Fr [] σ0 σ ∧ ∃ ret : Int32, v = some (.int ret) ∧ -ret.toInt ≤ 0 ∧ ret.toInt - 1 ≤ 0 ∧ Imp (Sp.1 = 0) (ret.toInt = iW By Nb 15 Sp)
set_option maxRecDepth 10000 in
set_option maxHeartbeats 4000000 in
theorem c_71s15x {By : Int → Int} {Nb : Int} {Sp : PS} (σ0 : SG) (hσ0 : WT σ0) (hC : CT By Nb σ0 Sp) : En 4 90 none mr_71 (P_71s15x σ0 By Nb Sp) 0 [(0, .ref 3), (1, .retAddr 31)] [] σ0 := by
  have hF0 : Fr [] σ0 σ0 := Fr_rfl
  obtain ⟨z2, h1, h3, h4⟩ := WT_peekI hσ0 tgz_3 (by decide +kernel : FT 3 1 = (0, 0, 4)) (by decide +kernel)
  obtain ⟨z6, h5, h7, h8⟩ := WT_peekI hσ0 tgz_3 (by decide +kernel : FT 3 3 = (0, 0, 1600)) (by decide +kernel)
  obtain ⟨z10, h9, h11, h12⟩ := WT_peekI hσ0 tgz_3 (by decide +kernel : FT 3 2 = (0, 0, 1600)) (by decide +kernel)
  have h13 : Imp (Sp.1 = 0) (tK By Nb Sp.2.2.1 = z2.toInt) := CT_t hC h1
  refine En_Ps 1 (pc' := 1) (lv' := [(0, .ref 3), (1, .retAddr 31)]) (st' := [.ref 3]) rfl ?_
  refine En_getK (j := 1) h1 rfl rfl rfl tgz_3 (by decide +kernel) ?_
  refine En_Ps 1 (pc' := 5) (lv' := [(0, .ref 3), (1, .retAddr 31)]) (st' := [.int ((Int32.ofInt 1)), .int z2]) rfl ?_
  refine En_icNe _ rfl (by decide : (Int32.ofInt 1).toInt = 1) rfl (fun h14 => ?_) (fun h14 => ?_)
  · refine En_Ps 1 (pc' := 25) (lv' := [(0, .ref 3), (1, .retAddr 31)]) (st' := [.int ((Int32.ofInt 0))]) rfl ?_
    refine En_top (by decide : (Int32.ofInt 0).toInt = 0) (fun z15 h16 => ?_)
    exact En_ret (v := some (.int z15)) rfl rfl (retZ rfl rfl (by omega) (by omega)) ⟨hσ0, hF0, z15, rfl, ⟨by omega, by omega, fun z => by have q1 := CT_t hC h1 z; have q2 := CT_fa hC h5 h9 z; have q := iW_0 (By := By) (Nb := Nb) (i := 15) (S := Sp) (by simp only [LWl]; omega); omega⟩⟩
  · refine En_Ps 1 (pc' := 9) (lv' := [(0, .ref 3), (1, .retAddr 31)]) (st' := [.ref 3]) rfl ?_
    refine En_getK (j := 3) h5 rfl rfl rfl tgz_3 (by decide +kernel) ?_
    refine En_Ps 1 (pc' := 13) (lv' := [(0, .ref 3), (1, .retAddr 31)]) (st' := [.ref 3, .int z6]) rfl ?_
    refine En_getK (j := 2) h9 rfl rfl rfl tgz_3 (by decide +kernel) ?_
    refine En_Ps 1 (pc' := 17) (lv' := [(0, .ref 3), (1, .retAddr 31)]) (st' := [.int ((z6 - z10))]) rfl ?_
    refine En_top (subI rfl rfl (by omega) (by omega)) (fun z17 h18 => ?_)
    refine En_Ps 1 (pc' := 18) (lv' := [(0, .ref 3), (1, .retAddr 31)]) (st' := [.retAddr 31, .int z17]) rfl ?_
    refine En_slen 15 5 rfl rfl (by decide) rfl ?_
    refine En_icEq _ rfl (by decide : (Int32.ofNat 5).toInt = 5) rfl (fun h19 => ?_) (fun h19 => ?_)
    · refine En_Ps 2 (pc' := 28) (lv' := [(2, .int ((Int32.ofInt 0))), (0, .ref 3), (1, .retAddr 31)]) (st' := []) rfl ?_
      have key28 : ∀ (n28 : Nat) (σ21 : SG) (y20 : Int32), WT σ21 → Fr [] σ0 σ21 → (σ21 3)[1]? = some (.int z2) → (σ21 3)[3]? = some (.int z6) → (σ21 3)[2]? = some (.int z10) → 0 ≤ y20.toInt → y20.toInt ≤ 5 → z6.toInt - y20.toInt < (n28 : Int) → Imp (Sp.1 = 0) (ISQ By Nb 15 Sp 1 y20.toInt) → En 4 90 none mr_71 (P_71s15x σ0 By Nb Sp) 28 [(0, .ref 3), (1, .retAddr 31), (2, .int y20)] [] σ21 := by
        intro n28
        induction n28 with
        | zero =>
          intro σ21 y20 h22 h23 h24 h25 h26 h27 h28 h29 h30
          exfalso; omega
        | succ n28 ih28 =>
          intro σ21 y20 h22 h23 h24 h25 h26 h27 h28 h29 h30
          refine En_Ps 2 (pc' := 30) (lv' := [(0, .ref 3), (1, .retAddr 31), (2, .int y20)]) (st' := [.retAddr 31, .int y20]) rfl ?_
          refine En_slen 15 5 rfl rfl (by decide) rfl ?_
          refine En_icGe _ rfl (by decide : (Int32.ofNat 5).toInt = 5) rfl (fun h31 => ?_) (fun h31 => ?_)
          · refine En_Ps 1 (pc' := 67) (lv' := [(0, .ref 3), (1, .retAddr 31), (2, .int y20)]) (st' := [.int ((Int32.ofInt 1))]) rfl ?_
            refine En_top (by decide : (Int32.ofInt 1).toInt = 1) (fun z32 h33 => ?_)
            exact En_ret (v := some (.int z32)) rfl rfl (retZ rfl rfl (by omega) (by omega)) ⟨h22, h23, z32, rfl, ⟨by omega, by omega, fun z => by have q := ISQ_x (Imp_m h30 z) (Or.inr (by simp only [LWl]; omega)); omega⟩⟩
          · refine En_Ps 1 (pc' := 37) (lv' := [(0, .ref 3), (1, .retAddr 31), (2, .int y20)]) (st' := [.ref 3]) rfl ?_
            refine En_getU (j := 0) (u := 1) (g' := 1) (q := 0) rfl rfl rfl tgz_3 (by decide +kernel) h22 (by decide +kernel) (by decide +kernel) (fun h34 => ?_)
            refine En_getU (j := 0) (u := 2) (g' := 2) (q := 0) rfl rfl rfl tgz_1 (by decide +kernel) h22 (by decide +kernel) (by decide +kernel) (fun h36 => ?_)
            refine En_Ps 1 (pc' := 44) (lv' := [(0, .ref 3), (1, .retAddr 31), (2, .int y20)]) (st' := [.ref 3, .ref 2]) rfl ?_
            refine En_getK (j := 2) h26 rfl rfl rfl tgz_3 (by decide +kernel) ?_
            refine En_Ps 2 (pc' := 49) (lv' := [(0, .ref 3), (1, .retAddr 31), (2, .int y20)]) (st' := [.int ((z10 + y20)), .ref 2]) rfl ?_
            refine En_top (addI rfl rfl (by omega) (by omega)) (fun z38 h39 => ?_)
            refine En_bald (l := (-128)) (u := 127) rfl rfl tgz_2 (by decide +kernel) h22 (by omega) (lnI (by decide +kernel : LN _ = 1600) (by omega)) (FTsgl (by decide +kernel)) (fun z41 h40 h42 h43 => ?_)
            refine En_Ps 2 (pc' := 52) (lv' := [(0, .ref 3), (1, .retAddr 31), (2, .int y20)]) (st' := [.int y20, .retAddr 31, .int z41]) rfl ?_
            refine En_scharX 15 5 rfl rfl rfl (by decide) (by omega) (by omega) rfl (fun z44 h45 h46 h47 => ?_)
            refine En_icEq _ rfl rfl rfl (fun h48 => ?_) (fun h48 => ?_)
            · refine En_Ps 1 (pc' := 63) (lv' := [(2, .int ((y20 + Int32.ofInt 1))), (0, .ref 3), (1, .retAddr 31)]) (st' := []) rfl ?_
              refine En_lv1 (addI rfl (by decide : (Int32.ofInt 1).toInt = 1) (by omega) (by omega)) (fun z49 h50 => ?_)
              refine En_Ps 1 (pc' := 28) (lv' := [(2, .int z49), (0, .ref 3), (1, .retAddr 31)]) (st' := []) rfl ?_
              refine En_lv (lv := [(0, .ref 3), (1, .retAddr 31), (2, .int z49)]) ⟨rfl, rfl, rfl, trivial⟩ ?_
              exact ih28 σ21 z49 h22 h23 h24 h25 h26 (by omega) (by omega) (by omega) (fun z => by have q1 := CT_t hC h1 z; have q2 := CT_fa hC h5 h9 z; exact ISQc_n (CT_fr hC h23 (by decide +kernel)) (Imp_m h30 z) (by simp only [LWl]; omega) (by omega) h40 h47 (by omega) (by omega))
            · refine En_Ps 1 (pc' := 59) (lv' := [(0, .ref 3), (1, .retAddr 31), (2, .int y20)]) (st' := [.int ((Int32.ofInt 0))]) rfl ?_
              refine En_top (by decide : (Int32.ofInt 0).toInt = 0) (fun z51 h52 => ?_)
              exact En_ret (v := some (.int z51)) rfl rfl (retZ rfl rfl (by omega) (by omega)) ⟨h22, h23, z51, rfl, ⟨by omega, by omega, fun z => by have q1 := CT_t hC h1 z; have q2 := CT_fa hC h5 h9 z; have q := ISQc_n (b' := 0) (CT_fr hC h23 (by decide +kernel)) (Imp_m h30 z) (by simp only [LWl]; omega) (by omega) h40 h47 rfl (Or.inr ⟨rfl, by omega⟩); have q2 := ISQ_x q (Or.inl rfl); omega⟩⟩
      have := (by decide : (Int32.ofInt 0).toInt = 0)
      refine En_lv (lv := [(0, .ref 3), (1, .retAddr 31), (2, .int ((Int32.ofInt 0)))]) ⟨rfl, rfl, rfl, trivial⟩ ?_
      exact key28 (Int.toNat (z6.toInt) + 1) σ0 ((Int32.ofInt 0)) hσ0 hF0 h1 h5 h9 (by omega) (by omega) (by omega) (fun z => by have q1 := CT_t hC h1 z; have q2 := CT_fa hC h5 h9 z; exact ISQc_s (by decide) z (by omega) (by simp only [LWl]; omega))
    · refine En_Ps 1 (pc' := 25) (lv' := [(0, .ref 3), (1, .retAddr 31)]) (st' := [.int ((Int32.ofInt 0))]) rfl ?_
      refine En_top (by decide : (Int32.ofInt 0).toInt = 0) (fun z53 h54 => ?_)
      exact En_ret (v := some (.int z53)) rfl rfl (retZ rfl rfl (by omega) (by omega)) ⟨hσ0, hF0, z53, rfl, ⟨by omega, by omega, fun z => by have q1 := CT_t hC h1 z; have q2 := CT_fa hC h5 h9 z; have q := iW_0 (By := By) (Nb := Nb) (i := 15) (S := Sp) (by simp only [LWl]; omega); omega⟩⟩
/-- DoorSchool$Reader.stands(Ljava/lang/String;)Z -/
abbrev P_71s16x (σ0 : SG) (By : Int → Int) (Nb : Int) (Sp : PS) : PO := fun v σ => WT σ ∧ Fr [] σ0 σ ∧ ∃ ret : Int32, v = some (.int ret) ∧ -ret.toInt ≤ 0 ∧ ret.toInt - 1 ≤ 0 ∧ Imp (Sp.1 = 0) (ret.toInt = iW By Nb 16 Sp)
set_option maxRecDepth 10000 in
set_option maxHeartbeats 4000000 in
theorem c_71s16x {By : Int → Int} {Nb : Int} {Sp : PS} (σ0 : SG) (hσ0 : WT σ0) (hC : CT By Nb σ0 Sp) : En 4 90 none mr_71 (P_71s16x σ0 By Nb Sp) 0 [(0, .ref 3), (1, .retAddr 33)] [] σ0 := by
  have hF0 : Fr [] σ0 σ0 := Fr_rfl
  obtain ⟨z2, h1, h3, h4⟩ := WT_peekI hσ0 tgz_3 (by decide +kernel : FT 3 1 = (0, 0, 4)) (by decide +kernel)
  obtain ⟨z6, h5, h7, h8⟩ := WT_peekI hσ0 tgz_3 (by decide +kernel : FT 3 3 = (0, 0, 1600)) (by decide +kernel)
  obtain ⟨z10, h9, h11, h12⟩ := WT_peekI hσ0 tgz_3 (by decide +kernel : FT 3 2 = (0, 0, 1600)) (by decide +kernel)
  have h13 : Imp (Sp.1 = 0) (tK By Nb Sp.2.2.1 = z2.toInt) := CT_t hC h1
  refine En_Ps 1 (pc' := 1) (lv' := [(0, .ref 3), (1, .retAddr 33)]) (st' := [.ref 3]) rfl ?_
  refine En_getK (j := 1) h1 rfl rfl rfl tgz_3 (by decide +kernel) ?_
  refine En_Ps 1 (pc' := 5) (lv' := [(0, .ref 3), (1, .retAddr 33)]) (st' := [.int ((Int32.ofInt 1)), .int z2]) rfl ?_
  refine En_icNe _ rfl (by decide : (Int32.ofInt 1).toInt = 1) rfl (fun h14 => ?_) (fun h14 => ?_)
  · refine En_Ps 1 (pc' := 25) (lv' := [(0, .ref 3), (1, .retAddr 33)]) (st' := [.int ((Int32.ofInt 0))]) rfl ?_
    refine En_top (by decide : (Int32.ofInt 0).toInt = 0) (fun z15 h16 => ?_)
    exact En_ret (v := some (.int z15)) rfl rfl (retZ rfl rfl (by omega) (by omega)) ⟨hσ0, hF0, z15, rfl, ⟨by omega, by omega, fun z => by have q1 := CT_t hC h1 z; have q2 := CT_fa hC h5 h9 z; have q := iW_0 (By := By) (Nb := Nb) (i := 16) (S := Sp) (by simp only [LWl]; omega); omega⟩⟩
  · refine En_Ps 1 (pc' := 9) (lv' := [(0, .ref 3), (1, .retAddr 33)]) (st' := [.ref 3]) rfl ?_
    refine En_getK (j := 3) h5 rfl rfl rfl tgz_3 (by decide +kernel) ?_
    refine En_Ps 1 (pc' := 13) (lv' := [(0, .ref 3), (1, .retAddr 33)]) (st' := [.ref 3, .int z6]) rfl ?_
    refine En_getK (j := 2) h9 rfl rfl rfl tgz_3 (by decide +kernel) ?_
    refine En_Ps 1 (pc' := 17) (lv' := [(0, .ref 3), (1, .retAddr 33)]) (st' := [.int ((z6 - z10))]) rfl ?_
    refine En_top (subI rfl rfl (by omega) (by omega)) (fun z17 h18 => ?_)
    refine En_Ps 1 (pc' := 18) (lv' := [(0, .ref 3), (1, .retAddr 33)]) (st' := [.retAddr 33, .int z17]) rfl ?_
    refine En_slen 16 8 rfl rfl (by decide) rfl ?_
    refine En_icEq _ rfl (by decide : (Int32.ofNat 8).toInt = 8) rfl (fun h19 => ?_) (fun h19 => ?_)
    · refine En_Ps 2 (pc' := 28) (lv' := [(2, .int ((Int32.ofInt 0))), (0, .ref 3), (1, .retAddr 33)]) (st' := []) rfl ?_
      have key28 : ∀ (n28 : Nat) (σ21 : SG) (y20 : Int32), WT σ21 → Fr [] σ0 σ21 → (σ21 3)[1]? = some (.int z2) → (σ21 3)[3]? = some (.int z6) → (σ21 3)[2]? = some (.int z10) → 0 ≤ y20.toInt → y20.toInt ≤ 8 → z6.toInt - y20.toInt < (n28 : Int) → Imp (Sp.1 = 0) (ISQ By Nb 16 Sp 1 y20.toInt) → En 4 90 none mr_71 (P_71s16x σ0 By Nb Sp) 28 [(0, .ref 3), (1, .retAddr 33), (2, .int y20)] [] σ21 := by
        intro n28
        induction n28 with
        | zero =>
          intro σ21 y20 h22 h23 h24 h25 h26 h27 h28 h29 h30
          exfalso; omega
        | succ n28 ih28 =>
          intro σ21 y20 h22 h23 h24 h25 h26 h27 h28 h29 h30
          refine En_Ps 2 (pc' := 30) (lv' := [(0, .ref 3), (1, .retAddr 33), (2, .int y20)]) (st' := [.retAddr 33, .int y20]) rfl ?_
          refine En_slen 16 8 rfl rfl (by decide) rfl ?_
          refine En_icGe _ rfl (by decide : (Int32.ofNat 8).toInt = 8) rfl (fun h31 => ?_) (fun h31 => ?_)
          · refine En_Ps 1 (pc' := 67) (lv' := [(0, .ref 3), (1, .retAddr 33), (2, .int y20)]) (st' := [.int ((Int32.ofInt 1))]) rfl ?_
            refine En_top (by decide : (Int32.ofInt 1).toInt = 1) (fun z32 h33 => ?_)
            exact En_ret (v := some (.int z32)) rfl rfl (retZ rfl rfl (by omega) (by omega)) ⟨h22, h23, z32, rfl, ⟨by omega, by omega, fun z => by have q := ISQ_x (Imp_m h30 z) (Or.inr (by simp only [LWl]; omega)); omega⟩⟩
          · refine En_Ps 1 (pc' := 37) (lv' := [(0, .ref 3), (1, .retAddr 33), (2, .int y20)]) (st' := [.ref 3]) rfl ?_
            refine En_getU (j := 0) (u := 1) (g' := 1) (q := 0) rfl rfl rfl tgz_3 (by decide +kernel) h22 (by decide +kernel) (by decide +kernel) (fun h34 => ?_)
            refine En_getU (j := 0) (u := 2) (g' := 2) (q := 0) rfl rfl rfl tgz_1 (by decide +kernel) h22 (by decide +kernel) (by decide +kernel) (fun h36 => ?_)
            refine En_Ps 1 (pc' := 44) (lv' := [(0, .ref 3), (1, .retAddr 33), (2, .int y20)]) (st' := [.ref 3, .ref 2]) rfl ?_
            refine En_getK (j := 2) h26 rfl rfl rfl tgz_3 (by decide +kernel) ?_
            refine En_Ps 2 (pc' := 49) (lv' := [(0, .ref 3), (1, .retAddr 33), (2, .int y20)]) (st' := [.int ((z10 + y20)), .ref 2]) rfl ?_
            refine En_top (addI rfl rfl (by omega) (by omega)) (fun z38 h39 => ?_)
            refine En_bald (l := (-128)) (u := 127) rfl rfl tgz_2 (by decide +kernel) h22 (by omega) (lnI (by decide +kernel : LN _ = 1600) (by omega)) (FTsgl (by decide +kernel)) (fun z41 h40 h42 h43 => ?_)
            refine En_Ps 2 (pc' := 52) (lv' := [(0, .ref 3), (1, .retAddr 33), (2, .int y20)]) (st' := [.int y20, .retAddr 33, .int z41]) rfl ?_
            refine En_scharX 16 8 rfl rfl rfl (by decide) (by omega) (by omega) rfl (fun z44 h45 h46 h47 => ?_)
            refine En_icEq _ rfl rfl rfl (fun h48 => ?_) (fun h48 => ?_)
            · refine En_Ps 1 (pc' := 63) (lv' := [(2, .int ((y20 + Int32.ofInt 1))), (0, .ref 3), (1, .retAddr 33)]) (st' := []) rfl ?_
              refine En_lv1 (addI rfl (by decide : (Int32.ofInt 1).toInt = 1) (by omega) (by omega)) (fun z49 h50 => ?_)
              refine En_Ps 1 (pc' := 28) (lv' := [(2, .int z49), (0, .ref 3), (1, .retAddr 33)]) (st' := []) rfl ?_
              refine En_lv (lv := [(0, .ref 3), (1, .retAddr 33), (2, .int z49)]) ⟨rfl, rfl, rfl, trivial⟩ ?_
              exact ih28 σ21 z49 h22 h23 h24 h25 h26 (by omega) (by omega) (by omega) (fun z => by have q1 := CT_t hC h1 z; have q2 := CT_fa hC h5 h9 z; exact ISQc_n (CT_fr hC h23 (by decide +kernel)) (Imp_m h30 z) (by simp only [LWl]; omega) (by omega) h40 h47 (by omega) (by omega))
            · refine En_Ps 1 (pc' := 59) (lv' := [(0, .ref 3), (1, .retAddr 33), (2, .int y20)]) (st' := [.int ((Int32.ofInt 0))]) rfl ?_
              refine En_top (by decide : (Int32.ofInt 0).toInt = 0) (fun z51 h52 => ?_)
              exact En_ret (v := some (.int z51)) rfl rfl (retZ rfl rfl (by omega) (by omega)) ⟨h22, h23, z51, rfl, ⟨by omega, by omega, fun z => by have q1 := CT_t hC h1 z; have q2 := CT_fa hC h5 h9 z; have q := ISQc_n (b' := 0) (CT_fr hC h23 (by decide +kernel)) (Imp_m h30 z) (by simp only [LWl]; omega) (by omega) h40 h47 rfl (Or.inr ⟨rfl, by omega⟩); have q2 := ISQ_x q (Or.inl rfl); omega⟩⟩
      have := (by decide : (Int32.ofInt 0).toInt = 0)
      refine En_lv (lv := [(0, .ref 3), (1, .retAddr 33), (2, .int ((Int32.ofInt 0)))]) ⟨rfl, rfl, rfl, trivial⟩ ?_
      exact key28 (Int.toNat (z6.toInt) + 1) σ0 ((Int32.ofInt 0)) hσ0 hF0 h1 h5 h9 (by omega) (by omega) (by omega) (fun z => by have q1 := CT_t hC h1 z; have q2 := CT_fa hC h5 h9 z; exact ISQc_s (by decide) z (by omega) (by simp only [LWl]; omega))
    · refine En_Ps 1 (pc' := 25) (lv' := [(0, .ref 3), (1, .retAddr 33)]) (st' := [.int ((Int32.ofInt 0))]) rfl ?_
      refine En_top (by decide : (Int32.ofInt 0).toInt = 0) (fun z53 h54 => ?_)
      exact En_ret (v := some (.int z53)) rfl rfl (retZ rfl rfl (by omega) (by omega)) ⟨hσ0, hF0, z53, rfl, ⟨by omega, by omega, fun z => by have q1 := CT_t hC h1 z; have q2 := CT_fa hC h5 h9 z; have q := iW_0 (By := By) (Nb := Nb) (i := 16) (S := Sp) (by simp only [LWl]; omega); omega⟩⟩
/-- DoorSchool$Reader.stands(Ljava/lang/String;)Z -/
abbrev P_71s17x (σ0 : SG) (By : Int → Int) (Nb : Int) (Sp : PS) : PO := fun v σ => WT σ ∧ Fr [] σ0 σ ∧ ∃ ret : Int32, v = some (.int ret) ∧ -ret.toInt ≤ 0 ∧ ret.toInt - 1 ≤ 0 ∧ Imp (Sp.1 = 0) (ret.toInt = iW By Nb 17 Sp)
set_option maxRecDepth 10000 in
set_option maxHeartbeats 4000000 in
theorem c_71s17x {By : Int → Int} {Nb : Int} {Sp : PS} (σ0 : SG) (hσ0 : WT σ0) (hC : CT By Nb σ0 Sp) : En 4 90 none mr_71 (P_71s17x σ0 By Nb Sp) 0 [(0, .ref 3), (1, .retAddr 35)] [] σ0 := by
  have hF0 : Fr [] σ0 σ0 := Fr_rfl
  obtain ⟨z2, h1, h3, h4⟩ := WT_peekI hσ0 tgz_3 (by decide +kernel : FT 3 1 = (0, 0, 4)) (by decide +kernel)
  obtain ⟨z6, h5, h7, h8⟩ := WT_peekI hσ0 tgz_3 (by decide +kernel : FT 3 3 = (0, 0, 1600)) (by decide +kernel)
  obtain ⟨z10, h9, h11, h12⟩ := WT_peekI hσ0 tgz_3 (by decide +kernel : FT 3 2 = (0, 0, 1600)) (by decide +kernel)
  have h13 : Imp (Sp.1 = 0) (tK By Nb Sp.2.2.1 = z2.toInt) := CT_t hC h1
  refine En_Ps 1 (pc' := 1) (lv' := [(0, .ref 3), (1, .retAddr 35)]) (st' := [.ref 3]) rfl ?_
  refine En_getK (j := 1) h1 rfl rfl rfl tgz_3 (by decide +kernel) ?_
  refine En_Ps 1 (pc' := 5) (lv' := [(0, .ref 3), (1, .retAddr 35)]) (st' := [.int ((Int32.ofInt 1)), .int z2]) rfl ?_
  refine En_icNe _ rfl (by decide : (Int32.ofInt 1).toInt = 1) rfl (fun h14 => ?_) (fun h14 => ?_)
  · refine En_Ps 1 (pc' := 25) (lv' := [(0, .ref 3), (1, .retAddr 35)]) (st' := [.int ((Int32.ofInt 0))]) rfl ?_
    refine En_top (by decide : (Int32.ofInt 0).toInt = 0) (fun z15 h16 => ?_)
    exact En_ret (v := some (.int z15)) rfl rfl (retZ rfl rfl (by omega) (by omega)) ⟨hσ0, hF0, z15, rfl, ⟨by omega, by omega, fun z => by have q1 := CT_t hC h1 z; have q2 := CT_fa hC h5 h9 z; have q := iW_0 (By := By) (Nb := Nb) (i := 17) (S := Sp) (by simp only [LWl]; omega); omega⟩⟩
  · refine En_Ps 1 (pc' := 9) (lv' := [(0, .ref 3), (1, .retAddr 35)]) (st' := [.ref 3]) rfl ?_
    refine En_getK (j := 3) h5 rfl rfl rfl tgz_3 (by decide +kernel) ?_
    refine En_Ps 1 (pc' := 13) (lv' := [(0, .ref 3), (1, .retAddr 35)]) (st' := [.ref 3, .int z6]) rfl ?_
    refine En_getK (j := 2) h9 rfl rfl rfl tgz_3 (by decide +kernel) ?_
    refine En_Ps 1 (pc' := 17) (lv' := [(0, .ref 3), (1, .retAddr 35)]) (st' := [.int ((z6 - z10))]) rfl ?_
    refine En_top (subI rfl rfl (by omega) (by omega)) (fun z17 h18 => ?_)
    refine En_Ps 1 (pc' := 18) (lv' := [(0, .ref 3), (1, .retAddr 35)]) (st' := [.retAddr 35, .int z17]) rfl ?_
    refine En_slen 17 4 rfl rfl (by decide) rfl ?_
    refine En_icEq _ rfl (by decide : (Int32.ofNat 4).toInt = 4) rfl (fun h19 => ?_) (fun h19 => ?_)
    · refine En_Ps 2 (pc' := 28) (lv' := [(2, .int ((Int32.ofInt 0))), (0, .ref 3), (1, .retAddr 35)]) (st' := []) rfl ?_
      have key28 : ∀ (n28 : Nat) (σ21 : SG) (y20 : Int32), WT σ21 → Fr [] σ0 σ21 → (σ21 3)[1]? = some (.int z2) → (σ21 3)[3]? = some (.int z6) → (σ21 3)[2]? = some (.int z10) → 0 ≤ y20.toInt → y20.toInt ≤ 4 → z6.toInt - y20.toInt < (n28 : Int) → Imp (Sp.1 = 0) (ISQ By Nb 17 Sp 1 y20.toInt) → En 4 90 none mr_71 (P_71s17x σ0 By Nb Sp) 28 [(0, .ref 3), (1, .retAddr 35), (2, .int y20)] [] σ21 := by
        intro n28
        induction n28 with
        | zero =>
          intro σ21 y20 h22 h23 h24 h25 h26 h27 h28 h29 h30
          exfalso; omega
        | succ n28 ih28 =>
          intro σ21 y20 h22 h23 h24 h25 h26 h27 h28 h29 h30
          refine En_Ps 2 (pc' := 30) (lv' := [(0, .ref 3), (1, .retAddr 35), (2, .int y20)]) (st' := [.retAddr 35, .int y20]) rfl ?_
          refine En_slen 17 4 rfl rfl (by decide) rfl ?_
          refine En_icGe _ rfl (by decide : (Int32.ofNat 4).toInt = 4) rfl (fun h31 => ?_) (fun h31 => ?_)
          · refine En_Ps 1 (pc' := 67) (lv' := [(0, .ref 3), (1, .retAddr 35), (2, .int y20)]) (st' := [.int ((Int32.ofInt 1))]) rfl ?_
            refine En_top (by decide : (Int32.ofInt 1).toInt = 1) (fun z32 h33 => ?_)
            exact En_ret (v := some (.int z32)) rfl rfl (retZ rfl rfl (by omega) (by omega)) ⟨h22, h23, z32, rfl, ⟨by omega, by omega, fun z => by have q := ISQ_x (Imp_m h30 z) (Or.inr (by simp only [LWl]; omega)); omega⟩⟩
          · refine En_Ps 1 (pc' := 37) (lv' := [(0, .ref 3), (1, .retAddr 35), (2, .int y20)]) (st' := [.ref 3]) rfl ?_
            refine En_getU (j := 0) (u := 1) (g' := 1) (q := 0) rfl rfl rfl tgz_3 (by decide +kernel) h22 (by decide +kernel) (by decide +kernel) (fun h34 => ?_)
            refine En_getU (j := 0) (u := 2) (g' := 2) (q := 0) rfl rfl rfl tgz_1 (by decide +kernel) h22 (by decide +kernel) (by decide +kernel) (fun h36 => ?_)
            refine En_Ps 1 (pc' := 44) (lv' := [(0, .ref 3), (1, .retAddr 35), (2, .int y20)]) (st' := [.ref 3, .ref 2]) rfl ?_
            refine En_getK (j := 2) h26 rfl rfl rfl tgz_3 (by decide +kernel) ?_
            refine En_Ps 2 (pc' := 49) (lv' := [(0, .ref 3), (1, .retAddr 35), (2, .int y20)]) (st' := [.int ((z10 + y20)), .ref 2]) rfl ?_
            refine En_top (addI rfl rfl (by omega) (by omega)) (fun z38 h39 => ?_)
            refine En_bald (l := (-128)) (u := 127) rfl rfl tgz_2 (by decide +kernel) h22 (by omega) (lnI (by decide +kernel : LN _ = 1600) (by omega)) (FTsgl (by decide +kernel)) (fun z41 h40 h42 h43 => ?_)
            refine En_Ps 2 (pc' := 52) (lv' := [(0, .ref 3), (1, .retAddr 35), (2, .int y20)]) (st' := [.int y20, .retAddr 35, .int z41]) rfl ?_
            refine En_scharX 17 4 rfl rfl rfl (by decide) (by omega) (by omega) rfl (fun z44 h45 h46 h47 => ?_)
            refine En_icEq _ rfl rfl rfl (fun h48 => ?_) (fun h48 => ?_)
            · refine En_Ps 1 (pc' := 63) (lv' := [(2, .int ((y20 + Int32.ofInt 1))), (0, .ref 3), (1, .retAddr 35)]) (st' := []) rfl ?_
              refine En_lv1 (addI rfl (by decide : (Int32.ofInt 1).toInt = 1) (by omega) (by omega)) (fun z49 h50 => ?_)
              refine En_Ps 1 (pc' := 28) (lv' := [(2, .int z49), (0, .ref 3), (1, .retAddr 35)]) (st' := []) rfl ?_
              refine En_lv (lv := [(0, .ref 3), (1, .retAddr 35), (2, .int z49)]) ⟨rfl, rfl, rfl, trivial⟩ ?_
              exact ih28 σ21 z49 h22 h23 h24 h25 h26 (by omega) (by omega) (by omega) (fun z => by have q1 := CT_t hC h1 z; have q2 := CT_fa hC h5 h9 z; exact ISQc_n (CT_fr hC h23 (by decide +kernel)) (Imp_m h30 z) (by simp only [LWl]; omega) (by omega) h40 h47 (by omega) (by omega))
            · refine En_Ps 1 (pc' := 59) (lv' := [(0, .ref 3), (1, .retAddr 35), (2, .int y20)]) (st' := [.int ((Int32.ofInt 0))]) rfl ?_
              refine En_top (by decide : (Int32.ofInt 0).toInt = 0) (fun z51 h52 => ?_)
              exact En_ret (v := some (.int z51)) rfl rfl (retZ rfl rfl (by omega) (by omega)) ⟨h22, h23, z51, rfl, ⟨by omega, by omega, fun z => by have q1 := CT_t hC h1 z; have q2 := CT_fa hC h5 h9 z; have q := ISQc_n (b' := 0) (CT_fr hC h23 (by decide +kernel)) (Imp_m h30 z) (by simp only [LWl]; omega) (by omega) h40 h47 rfl (Or.inr ⟨rfl, by omega⟩); have q2 := ISQ_x q (Or.inl rfl); omega⟩⟩
      have := (by decide : (Int32.ofInt 0).toInt = 0)
      refine En_lv (lv := [(0, .ref 3), (1, .retAddr 35), (2, .int ((Int32.ofInt 0)))]) ⟨rfl, rfl, rfl, trivial⟩ ?_
      exact key28 (Int.toNat (z6.toInt) + 1) σ0 ((Int32.ofInt 0)) hσ0 hF0 h1 h5 h9 (by omega) (by omega) (by omega) (fun z => by have q1 := CT_t hC h1 z; have q2 := CT_fa hC h5 h9 z; exact ISQc_s (by decide) z (by omega) (by simp only [LWl]; omega))
    · refine En_Ps 1 (pc' := 25) (lv' := [(0, .ref 3), (1, .retAddr 35)]) (st' := [.int ((Int32.ofInt 0))]) rfl ?_
      refine En_top (by decide : (Int32.ofInt 0).toInt = 0) (fun z53 h54 => ?_)
      exact En_ret (v := some (.int z53)) rfl rfl (retZ rfl rfl (by omega) (by omega)) ⟨hσ0, hF0, z53, rfl, ⟨by omega, by omega, fun z => by have q1 := CT_t hC h1 z; have q2 := CT_fa hC h5 h9 z; have q := iW_0 (By := By) (Nb := Nb) (i := 17) (S := Sp) (by simp only [LWl]; omega); omega⟩⟩
/-- DoorSchool$Reader.takeNumber(II)I -/
abbrev P_73x (σ0 : SG) (By : Int → Int) (Nb : Int) (Sp : PS) (a : Int32) (b : Int32) (f : Int32) : PO := fun v σ => WT σ ∧ Fr [(3, 1), (3, 2), (3, 3), (3, 4), (3, 5), (3, 6)] σ0 σ ∧ ∃ f1 : Int32, (σ 3)[5]? = some (.int f1) ∧ ∃ ret : Int32, v = some (.int ret) ∧ ret.toInt - 1000000 ≤ 0 ∧ -f1.toInt ≤ 0 ∧ f1.toInt - 3 ≤ 0 ∧ -f1.toInt + f.toInt ≤ 0 ∧ f1.toInt - f.toInt - 3 ≤ 0 ∧ f.toInt - f1.toInt ≤ 0 ∧ Imp (f1.toInt ≤ 0) (a.toInt - ret.toInt ≤ 0 ∧ ret.toInt - b.toInt ≤ 0) ∧ Imp (-f1.toInt + 1 ≤ 0) (ret.toInt + 1 ≤ 0 ∧ -ret.toInt - 1 ≤ 0) ∧ Imp (-b.toInt - 1 ≤ 0) (ret.toInt - b.toInt ≤ 0) ∧ Imp (-a.toInt - 1 ≤ 0) (-ret.toInt - 1 ≤ 0) ∧ (CT By Nb σ (tN By Nb a.toInt b.toInt Sp) ∧ Imp ((tN By Nb a.toInt b.toInt Sp).1 = 0) (ret.toInt = tV By Nb Sp.2.2.1))
set_option maxRecDepth 10000 in
set_option maxHeartbeats 4000000 in
theorem c_73x {By : Int → Int} {Nb : Int} {Sp : PS} (σ0 : SG) (hσ0 : WT σ0) (a : Int32) (b : Int32) (f : Int32) (h_f : (σ0 3)[5]? = some (.int f)) (hC : CT By Nb σ0 Sp) : En 2 43 none mr_73 (P_73x σ0 By Nb Sp a b f) 0 [(0, .ref 3), (1, .int a), (2, .int b)] [] σ0 := by
  obtain ⟨hl_f, hu_f⟩ := WT_int hσ0 (g := 3) (by decide +kernel) (by decide +kernel) (l := 0) (u := 3) (by decide +kernel) h_f
  have hF0 : Fr [(3, 1), (3, 2), (3, 3), (3, 4), (3, 5), (3, 6)] σ0 σ0 := Fr_rfl
  have h1 := CT_k hC h_f
  refine En_Ps 3 (pc' := 3) (lv' := [(0, .ref 3), (1, .int a), (2, .int b)]) (st' := [.int b, .int a, .ref 3]) rfl ?_
  refine En_callV rfl rfl rfl rfl rfl rfl rfl rfl tgz_3 (by decide +kernel) rfl (c_58x σ0 hσ0 a b f h_f hC) (by decide) (by decide) (fun v3 σ4 h2 => ?_)
  obtain ⟨h5, h6, z8, h9, z10, rfl, h7⟩ := h2
  have h11 := h7.2.2.2.2.2.2.2.2.2.2
  have h12 := Fr_trans hF0 h6 (by decide +kernel)
  have h13 : nH By Nb a.toInt b.toInt Sp = nH By Nb (a.toInt) (b.toInt) Sp := nH_cg2 (fun zz => by omega) (fun zz => by omega)
  obtain ⟨S14, h15⟩ : ∃ q : PS, q = nH By Nb (a.toInt) (b.toInt) Sp := ⟨_, rfl⟩
  have h16 : CT By Nb σ4 S14 := by rw [h15]; exact (CT_eq h11.1 h13)
  have h17 := CT_k h16 h9
  have h18 : Imp (S14.1 = 0) (z10.toInt = tV By Nb Sp.2.2.1) := fun z => Imp_m h11.2 (by rw [h13, ← h15]; exact z)
  have h19 : Imp (S14.1 = 0) (Sp.1 = 0 ∧ tK By Nb Sp.2.2.1 = 2 ∧ a.toInt ≤ tV By Nb Sp.2.2.1 ∧ tV By Nb Sp.2.2.1 ≤ b.toInt) := fun z => nH_gg (by rw [← h15]; exact z)
  have h20 : S14.2.2.2 = Sp.2.2.2 := by rw [h15]; exact nH_w
  refine En_Ps 2 (pc' := 8) (lv' := [(3, .int z10), (0, .ref 3), (1, .int a), (2, .int b)]) (st' := [.ref 3]) rfl ?_
  refine En_getK (j := 5) h9 rfl rfl rfl tgz_3 (by decide +kernel) ?_
  refine En_iNe _ rfl rfl (fun h21 => ?_) (fun h21 => ?_)
  · have h22 := Imp_m h7.2.2.2.2.2.2.2.1 (by omega)
    refine En_Ps 1 (pc' := 19) (lv' := [(3, .int z10), (0, .ref 3), (1, .int a), (2, .int b)]) (st' := [.int z10]) rfl ?_
    exact En_ret (v := some (.int z10)) rfl rfl rfl ⟨h5, h12, z8, h9, z10, rfl, ⟨by omega, by omega, by omega, by omega, by omega, by omega, fun _ => by have := Imp_m h7.2.2.2.2.2.2.1 (by omega); have := Imp_m h7.2.2.2.2.2.2.2.2.1 (by omega); omega, fun _ => by omega, fun _ => by omega, fun _ => by omega, (by have q0 : tN By Nb a.toInt b.toInt Sp = S14 := (by first | (subst h15; rfl) | (subst h15; unfold tN; exact adv_bad (by omega))); rw [q0]; exact ⟨h16, fun zz => by (try have i0 := Imp_m h19 (by omega)); (try have i1 := Imp_m h18 (by omega)); (try have i2 := Imp_m h7.2.2.2.2.2.2.1 (by omega)); (try have i3 := Imp_m h7.2.2.2.2.2.2.2.2.1 (by omega)); (try have i4 := Imp_m h7.2.2.2.2.2.2.2.2.2.1 (by omega)); omega⟩)⟩⟩
  · have h23 := Imp_m h7.2.2.2.2.2.2.1 (by omega)
    refine En_Ps 1 (pc' := 15) (lv' := [(3, .int z10), (0, .ref 3), (1, .int a), (2, .int b)]) (st' := [.ref 3]) rfl ?_
    obtain ⟨z25, h24, h26, h27⟩ := WT_peekI h5 tgz_3 (by decide +kernel : FT 3 3 = (0, 0, 1600)) (by decide +kernel)
    refine En_callV rfl rfl rfl rfl rfl rfl rfl rfl tgz_3 (by decide +kernel) rfl (c_72x σ4 h5 z25 h24 h16.1 (CT_at h16 (by omega) h24)) (by decide) (by decide) (fun v29 σ30 h28 => ?_)
    obtain ⟨h31, h32, rfl, h33⟩ := h28
    have h34 := h33
    have h35 := Fr_trans h12 h32 (by decide +kernel)
    obtain ⟨S36, h37⟩ : ∃ q : PS, q = adv By Nb S14 := ⟨_, rfl⟩
    have h38 : CT By Nb σ30 S36 := by rw [h37]; exact (CT_adv h16 (by omega) h24 h32 (by decide +kernel) h34.2)
    have h39 := CT_k h38 ((h32 _ _ (inW tgz_3 (by decide +kernel))).trans h9)
    have h40 : S36.2.2.2 = S14.2.2.2 := by rw [h37]; exact adv_w
    have h41 : S36.1 = S14.1 := by rw [h37]; exact adv_1
    refine En_Ps 1 (pc' := 19) (lv' := [(3, .int z10), (0, .ref 3), (1, .int a), (2, .int b)]) (st' := [.int z10]) rfl ?_
    exact En_ret (v := some (.int z10)) rfl rfl rfl ⟨h31, h35, z8, ((h32 _ _ (inW tgz_3 (by decide +kernel))).trans h9), z10, rfl, ⟨by omega, by omega, by omega, by omega, by omega, by omega, fun _ => by omega, fun _ => by have := Imp_m h7.2.2.2.2.2.2.2.1 (by omega); have := Imp_m h7.2.2.2.2.2.2.2.2.1 (by omega); omega, fun _ => by omega, fun _ => by omega, (by have q0 : tN By Nb a.toInt b.toInt Sp = S36 := (by first | (subst h37; subst h15; rfl) | (subst h37; subst h15; unfold tN; exact adv_bad (by omega))); rw [q0]; exact ⟨h38, fun zz => by (try have i0 := Imp_m h19 (by omega)); (try have i1 := Imp_m h18 (by omega)); (try have i2 := Imp_m h7.2.2.2.2.2.2.2.1 (by omega)); (try have i3 := Imp_m h7.2.2.2.2.2.2.2.2.1 (by omega)); (try have i4 := Imp_m h7.2.2.2.2.2.2.2.2.2.1 (by omega)); omega⟩)⟩⟩
/-- DoorSchool$Reader.readFirst(LDoorSchool$Plan;)V -/
abbrev P_65x (σ0 : SG) (By : Int → Int) (Nb : Int) (Sp : PS) (a : Nat) (f : Int32) : PO := fun v σ => WT σ ∧ Fr [(3, 1), (3, 2), (3, 3), (3, 4), (3, 5), (3, 6), (18, 1), (18, 2)] σ0 σ ∧ ∃ f1 : Int32, (σ 3)[5]? = some (.int f1) ∧ ∃ sg1 : Int32, (σ a)[1]? = some (.int sg1) ∧ v = none ∧ OUT σ0 σ a ∧ -f1.toInt ≤ 0 ∧ f1.toInt - 3 ≤ 0 ∧ -f1.toInt + f.toInt ≤ 0 ∧ f1.toInt - f.toInt - 3 ≤ 0 ∧ -sg1.toInt - 1 ≤ 0 ∧ sg1.toInt - 4 ≤ 0 ∧ -sg1.toInt + f.toInt - 4 ≤ 0 ∧ sg1.toInt - f.toInt - 4 ≤ 0 ∧ f.toInt - f1.toInt ≤ 0 ∧ -sg1.toInt - f1.toInt ≤ 0 ∧ (OTH a σ0 σ ∧ CT By Nb σ (fFirst By Nb Sp) ∧ ((fFirst By Nb Sp).1 = 0 → KN σ a (fFirst By Nb Sp).2.2.2 (act (fFirst By Nb Sp).2.2.2)))
set_option maxRecDepth 10000 in
set_option maxHeartbeats 4000000 in
theorem c_65x {By : Int → Int} {Nb : Int} {Sp : PS} (σ0 : SG) (hσ0 : WT σ0) (a : Nat) (ha : TG a = 18) (f : Int32) (h_f : (σ0 3)[5]? = some (.int f)) (hC : CT By Nb σ0 Sp) (hg : Sp.1 = 0) (hP : PLA a) (hX : FXP σ0 a) (hK : KN σ0 a Sp.2.2.2 (act Sp.2.2.2)) : En 5 112 none mr_65 (P_65x σ0 By Nb Sp a f) 0 [(0, .ref 3), (1, .ref a)] [] σ0 := by
  obtain ⟨hl_f, hu_f⟩ := WT_int hσ0 (g := 3) (by decide +kernel) (by decide +kernel) (l := 0) (u := 3) (by decide +kernel) h_f
  have hF0 : Fr [(3, 1), (3, 2), (3, 3), (3, 4), (3, 5), (3, 6), (18, 1), (18, 2)] σ0 σ0 := Fr_rfl
  have h1 := CT_k hC h_f
  have h2 : Imp (Sp.1 = 0) (KN σ0 a Sp.2.2.2 (fun t => act Sp.2.2.2 t)) := fun _ => hK
  refine En_Ps 2 (pc' := 2) (lv' := [(0, .ref 3), (1, .ref a)]) (st' := [.ref 3, .ref 3]) rfl ?_
  refine En_ldcS (i := 10) rfl rfl rfl ?_
  refine En_callV rfl rfl rfl rfl rfl rfl rfl rfl tgz_3 (by decide +kernel) rfl (c_71s10x σ0 hσ0 hC) (by decide) (by decide) (fun v4 σ5 h3 => ?_)
  obtain ⟨h6, h7, z9, rfl, h8⟩ := h3
  have h10 := h8.2.2
  obtain rfl : σ0 = σ5 := Fr_nil h7
  have h11 := h10
  refine En_callV rfl rfl rfl rfl rfl rfl rfl rfl tgz_3 (by decide +kernel) rfl (c_59x σ0 hσ0 z9 (geI rfl (by omega)) (leI rfl (by omega)) f h_f hC) (by decide) (by decide) (fun v13 σ14 h12 => ?_)
  obtain ⟨h15, h16, z18, h19, rfl, h17⟩ := h12
  have h20 := h17.2.2.2.2.2.2.2
  have h21 := Fr_trans hF0 h16 (by decide +kernel)
  have h22 := OTH_fr (OTH_0 (a := a) (σ := σ0)) h16 (by decide +kernel)
  have h23 : pss By Nb z9.toInt Sp = pss By Nb (iW By Nb 10 Sp) Sp := pss_cg2 (fun zz => by (try have i0 := Imp_m h11 (by omega)); omega)
  obtain ⟨S24, h25⟩ : ∃ q : PS, q = pss By Nb (iW By Nb 10 Sp) Sp := ⟨_, rfl⟩
  have h26 : CT By Nb σ14 S24 := by rw [h25]; exact (CT_eq h20 h23)
  have h27 := CT_k h26 h19
  have h28 : S24.2.2.2 = Sp.2.2.2 := by rw [h25]; exact pss_w
  have h29 : Imp (S24.1 = 0) (Sp.1 = 0) := fun z => (pss_g (by rw [h23, ← h25]; exact z)).1
  have h30 : Imp (S24.1 = 0) (z9.toInt = 1) := fun z => (pss_g (by rw [h23, ← h25]; exact z)).2.1
  have h31 : Imp (S24.1 = 0) (KN σ14 a Sp.2.2.2 (fun t => act Sp.2.2.2 t)) := fun zz => KN_fr hP (Imp_m h2 (by (try have i0 := Imp_m h30 (by omega)); (try have i1 := Imp_m h29 (by omega)); (try have i2 := Imp_m h11 (by omega)); omega)) h16 (by decide +kernel)
  have h32 : S24.2.2.2 = Sp.2.2.2 := h28.trans (rfl : Sp.2.2.2 = Sp.2.2.2)
  have o33 : OUT σ0 σ14 a := OUT_fr OUT_0 h16 (by decide +kernel)
  refine En_Ps 2 (pc' := 12) (lv' := [(0, .ref 3), (1, .ref a)]) (st' := [.ref 3, .ref 3]) rfl ?_
  refine En_ldcS (i := 13) rfl rfl rfl ?_
  refine En_callV rfl rfl rfl rfl rfl rfl rfl rfl tgz_3 (by decide +kernel) rfl (c_71s13x σ14 h15 h26) (by decide) (by decide) (fun v35 σ36 h34 => ?_)
  obtain ⟨h37, h38, z40, rfl, h39⟩ := h34
  have h41 := h39.2.2
  obtain rfl : σ14 = σ36 := Fr_nil h38
  have h42 := h41
  refine En_callV rfl rfl rfl rfl rfl rfl rfl rfl tgz_3 (by decide +kernel) rfl (c_59x σ14 h15 z40 (geI rfl (by omega)) (leI rfl (by omega)) z18 h19 h26) (by decide) (by decide) (fun v44 σ45 h43 => ?_)
  obtain ⟨h46, h47, z49, h50, rfl, h48⟩ := h43
  have h51 := h48.2.2.2.2.2.2.2
  have h52 := Fr_trans h21 h47 (by decide +kernel)
  have h53 := OTH_fr h22 h47 (by decide +kernel)
  have h54 : pss By Nb z40.toInt S24 = pss By Nb (iW By Nb 13 S24) S24 := pss_cg2 (fun zz => by (try have i0 := Imp_m h42 (by omega)); (try have i1 := Imp_m h30 (by omega)); (try have i2 := Imp_m h29 (by omega)); (try have i3 := Imp_m h11 (by omega)); (try have i4 := Imp_m h17.2.2.2.2.1 (by omega)); (try have i5 := Imp_m h17.2.2.2.2.2.2.1 (by omega)); omega)
  obtain ⟨S55, h56⟩ : ∃ q : PS, q = pss By Nb (iW By Nb 13 S24) S24 := ⟨_, rfl⟩
  have h57 : CT By Nb σ45 S55 := by rw [h56]; exact (CT_eq h51 h54)
  have h58 := CT_k h57 h50
  have h59 : S55.2.2.2 = S24.2.2.2 := by rw [h56]; exact pss_w
  have h60 : Imp (S55.1 = 0) (S24.1 = 0) := fun z => (pss_g (by rw [h54, ← h56]; exact z)).1
  have h61 : Imp (S55.1 = 0) (z40.toInt = 1) := fun z => (pss_g (by rw [h54, ← h56]; exact z)).2.1
  have h62 : Imp (S55.1 = 0) (KN σ45 a Sp.2.2.2 (fun t => act Sp.2.2.2 t)) := fun zz => KN_fr hP (Imp_m h31 (by (try have i0 := Imp_m h61 (by omega)); (try have i1 := Imp_m h60 (by omega)); (try have i2 := Imp_m h42 (by omega)); (try have i3 := Imp_m h30 (by omega)); (try have i4 := Imp_m h29 (by omega)); (try have i5 := Imp_m h11 (by omega)); (try have i6 := Imp_m h17.2.2.2.2.1 (by omega)); (try have i7 := Imp_m h17.2.2.2.2.2.2.1 (by omega)); omega)) h47 (by decide +kernel)
  have h63 : S55.2.2.2 = Sp.2.2.2 := h59.trans h32
  have o64 : OUT σ0 σ45 a := OUT_fr o33 h47 (by decide +kernel)
  refine En_Ps 4 (pc' := 24) (lv' := [(0, .ref 3), (1, .ref a)]) (st' := [.int ((Int32.ofInt 4)), .int ((Int32.ofInt 2)), .ref 3, .ref a]) rfl ?_
  have := (by decide : ((Int32.ofInt 2)).toInt = 2)
  have := (by decide : ((Int32.ofInt 4)).toInt = 4)
  refine En_callV rfl rfl rfl rfl rfl rfl rfl rfl tgz_3 (by decide +kernel) rfl (c_73x σ45 h46 ((Int32.ofInt 2)) ((Int32.ofInt 4)) z49 h50 h57) (by decide) (by decide) (fun v66 σ67 h65 => ?_)
  obtain ⟨h68, h69, z71, h72, z73, rfl, h70⟩ := h65
  have h74 := h70.2.2.2.2.2.2.2.2.2.2
  have h75 := Fr_trans h52 h69 (by decide +kernel)
  have h76 := Imp_m h70.2.2.2.2.2.2.1
  have h77 := Imp_m h70.2.2.2.2.2.2.2.1
  have h78 := Imp_m h70.2.2.2.2.2.2.2.2.1
  have h79 := Imp_m h70.2.2.2.2.2.2.2.2.2.1
  have h80 := OTH_fr h53 h69 (by decide +kernel)
  have h81 : tN By Nb ((Int32.ofInt 2)).toInt ((Int32.ofInt 4)).toInt S55 = tN By Nb (2) (4) S55 := tN_cg2 (fun zz => by omega) (fun zz => by omega)
  obtain ⟨S82, h83⟩ : ∃ q : PS, q = tN By Nb (2) (4) S55 := ⟨_, rfl⟩
  have h84 : CT By Nb σ67 S82 := by rw [h83]; exact (CT_eq h74.1 h81)
  have h85 := CT_k h84 h72
  have h86 : Imp (S82.1 = 0) (z73.toInt = tV By Nb S55.2.2.1) := fun z => Imp_m h74.2 (by rw [h81, ← h83]; exact z)
  have h87 : Imp (S82.1 = 0) (S55.1 = 0 ∧ tK By Nb S55.2.2.1 = 2 ∧ 2 ≤ tV By Nb S55.2.2.1 ∧ tV By Nb S55.2.2.1 ≤ 4) := fun z => tN_gg (by rw [← h83]; exact z)
  have h88 : S82.2.2.2 = S55.2.2.2 := by rw [h83]; exact tN_w
  have h89 : Imp (S82.1 = 0) (KN σ67 a Sp.2.2.2 (fun t => act Sp.2.2.2 t)) := fun zz => KN_fr hP (Imp_m h62 (by (try have i0 := Imp_m h87 (by omega)); (try have i1 := Imp_m h86 (by omega)); (try have i2 := Imp_m h61 (by omega)); (try have i3 := Imp_m h60 (by omega)); (try have i4 := Imp_m h42 (by omega)); (try have i5 := Imp_m h30 (by omega)); (try have i6 := Imp_m h29 (by omega)); (try have i7 := Imp_m h11 (by omega)); (try have i8 := Imp_m h17.2.2.2.2.1 (by omega)); (try have i9 := Imp_m h17.2.2.2.2.2.2.1 (by omega)); (try have i10 := Imp_m h48.2.2.2.2.1 (by omega)); (try have i11 := Imp_m h48.2.2.2.2.2.2.1 (by omega)); omega)) h69 (by decide +kernel)
  have h90 : S82.2.2.2 = Sp.2.2.2 := h88.trans h63
  have o91 : OUT σ0 σ67 a := OUT_fr o64 h69 (by decide +kernel)
  have h92 := Imp_m h70.2.2.2.2.2.2.2.2.1 (by omega)
  have h93 := Imp_m h70.2.2.2.2.2.2.2.2.2.1 (by omega)
  refine En_put (j := 1) rfl rfl rfl ha (by decide +kernel) rfl (vI (l := (-1)) (u := 4) (by decide +kernel) rfl (by omega) (by omega)) h68 h75 (by decide +kernel) (fun σ94 h95 h96 h97 h98 => ?_)
  have h99 := OTH_pt h80 h98
  obtain ⟨S100, h101⟩ : ∃ q : PS, q = wst S82 (0) ((tV By Nb S55.2.2.1)) := ⟨_, rfl⟩
  have h102 : CT By Nb σ94 S100 := by rw [h101]; exact CT_wst (CT_ne h84 h98 (by have := hP; unfold PLA at this; omega))
  have h103 : Imp (S100.1 = 0) (KN σ94 a (uPd Sp.2.2.2 (0) ((tV By Nb S55.2.2.1))) (fun t => (act Sp.2.2.2 t ∨ t = 0))) := fun zz => KN_st (Imp_m h89 (by rw [h101] at zz; exact zz)) h97 h98 (by omega) (by omega) (by rw [lcO_lt (by decide) (by decide), Nat.add_zero]) (by decide) (by have z2 : S82.1 = 0 := (by rw [h101] at zz; exact zz); (try have i0 := Imp_m h87 (by omega)); (try have i1 := Imp_m h86 (by omega)); (try have i2 := Imp_m h61 (by omega)); (try have i3 := Imp_m h60 (by omega)); (try have i4 := Imp_m h42 (by omega)); (try have i5 := Imp_m h30 (by omega)); (try have i6 := Imp_m h29 (by omega)); (try have i7 := Imp_m h11 (by omega)); (try have i8 := Imp_m h17.2.2.2.2.1 (by omega)); (try have i9 := Imp_m h17.2.2.2.2.2.2.1 (by omega)); (try have i10 := Imp_m h48.2.2.2.2.1 (by omega)); (try have i11 := Imp_m h48.2.2.2.2.2.2.1 (by omega)); (try have i12 := Imp_m h70.2.2.2.2.2.2.1 (by omega)); (try have i13 := Imp_m h70.2.2.2.2.2.2.2.1 (by omega)); omega)
  have h104 : S100.2.2.2 = (uPd Sp.2.2.2 (0) ((tV By Nb S55.2.2.1))) := by rw [h101]; show uPd S82.2.2.2 _ _ = _; rw [h90]
  have h105 : S100.1 = S82.1 := by rw [h101]; rfl
  have h106 := CT_k h102 ((h98 _ _ (Or.inr (by decide))).trans h72)
  have o107 : OUT σ0 σ94 a := OUT_st o91 h98 (by omega)
  refine En_Ps 2 (pc' := 32) (lv' := [(0, .ref 3), (1, .ref a)]) (st' := [.ref 3, .ref 3]) rfl ?_
  refine En_ldcS (i := 16) rfl rfl rfl ?_
  refine En_callV rfl rfl rfl rfl rfl rfl rfl rfl tgz_3 (by decide +kernel) rfl (c_71s16x σ94 h95 h102) (by decide) (by decide) (fun v109 σ110 h108 => ?_)
  obtain ⟨h111, h112, z114, rfl, h113⟩ := h108
  have h115 := h113.2.2
  obtain rfl : σ94 = σ110 := Fr_nil h112
  have h116 := h115
  refine En_callV rfl rfl rfl rfl rfl rfl rfl rfl tgz_3 (by decide +kernel) rfl (c_59x σ94 h95 z114 (geI rfl (by omega)) (leI rfl (by omega)) z71 ((h98 _ _ (Or.inr (by decide))).trans h72) h102) (by decide) (by decide) (fun v118 σ119 h117 => ?_)
  obtain ⟨h120, h121, z123, h124, rfl, h122⟩ := h117
  have h125 := h122.2.2.2.2.2.2.2
  have h126 := Fr_trans h96 h121 (by decide +kernel)
  have h127 := OTH_fr h99 h121 (by decide +kernel)
  have h128 : pss By Nb z114.toInt S100 = pss By Nb (iW By Nb 16 S100) S100 := pss_cg2 (fun zz => by (try have i0 := Imp_m h116 (by omega)); (try have i1 := Imp_m h87 (by omega)); (try have i2 := Imp_m h86 (by omega)); (try have i3 := Imp_m h61 (by omega)); (try have i4 := Imp_m h60 (by omega)); (try have i5 := Imp_m h42 (by omega)); (try have i6 := Imp_m h30 (by omega)); (try have i7 := Imp_m h29 (by omega)); (try have i8 := Imp_m h11 (by omega)); (try have i9 := Imp_m h17.2.2.2.2.1 (by omega)); (try have i10 := Imp_m h17.2.2.2.2.2.2.1 (by omega)); (try have i11 := Imp_m h48.2.2.2.2.1 (by omega)); (try have i12 := Imp_m h48.2.2.2.2.2.2.1 (by omega)); (try have i13 := Imp_m h70.2.2.2.2.2.2.1 (by omega)); (try have i14 := Imp_m h70.2.2.2.2.2.2.2.1 (by omega)); omega)
  obtain ⟨S129, h130⟩ : ∃ q : PS, q = pss By Nb (iW By Nb 16 S100) S100 := ⟨_, rfl⟩
  have h131 : CT By Nb σ119 S129 := by rw [h130]; exact (CT_eq h125 h128)
  have h132 := CT_k h131 h124
  have h133 : S129.2.2.2 = S100.2.2.2 := by rw [h130]; exact pss_w
  have h134 : Imp (S129.1 = 0) (S100.1 = 0) := fun z => (pss_g (by rw [h128, ← h130]; exact z)).1
  have h135 : Imp (S129.1 = 0) (z114.toInt = 1) := fun z => (pss_g (by rw [h128, ← h130]; exact z)).2.1
  have h136 : Imp (S129.1 = 0) (KN σ119 a (uPd Sp.2.2.2 (0) ((tV By Nb S55.2.2.1))) (fun t => (act Sp.2.2.2 t ∨ t = 0))) := fun zz => KN_fr hP (Imp_m h103 (by (try have i0 := Imp_m h135 (by omega)); (try have i1 := Imp_m h134 (by omega)); (try have i2 := Imp_m h116 (by omega)); (try have i3 := Imp_m h87 (by omega)); (try have i4 := Imp_m h86 (by omega)); (try have i5 := Imp_m h61 (by omega)); (try have i6 := Imp_m h60 (by omega)); (try have i7 := Imp_m h42 (by omega)); (try have i8 := Imp_m h30 (by omega)); (try have i9 := Imp_m h29 (by omega)); (try have i10 := Imp_m h11 (by omega)); (try have i11 := Imp_m h17.2.2.2.2.1 (by omega)); (try have i12 := Imp_m h17.2.2.2.2.2.2.1 (by omega)); (try have i13 := Imp_m h48.2.2.2.2.1 (by omega)); (try have i14 := Imp_m h48.2.2.2.2.2.2.1 (by omega)); (try have i15 := Imp_m h70.2.2.2.2.2.2.1 (by omega)); (try have i16 := Imp_m h70.2.2.2.2.2.2.2.1 (by omega)); omega)) h121 (by decide +kernel)
  have h137 : S129.2.2.2 = (uPd Sp.2.2.2 (0) ((tV By Nb S55.2.2.1))) := h133.trans h104
  have o138 : OUT σ0 σ119 a := OUT_fr o107 h121 (by decide +kernel)
  refine En_Ps 4 (pc' := 44) (lv' := [(0, .ref 3), (1, .ref a)]) (st' := [.int ((Int32.ofInt 3)), .int ((Int32.ofInt 1)), .ref 3, .ref a]) rfl ?_
  have := (by decide : ((Int32.ofInt 1)).toInt = 1)
  have := (by decide : ((Int32.ofInt 3)).toInt = 3)
  refine En_callV rfl rfl rfl rfl rfl rfl rfl rfl tgz_3 (by decide +kernel) rfl (c_73x σ119 h120 ((Int32.ofInt 1)) ((Int32.ofInt 3)) z123 h124 h131) (by decide) (by decide) (fun v140 σ141 h139 => ?_)
  obtain ⟨h142, h143, z145, h146, z147, rfl, h144⟩ := h139
  have h148 := h144.2.2.2.2.2.2.2.2.2.2
  have h149 := Fr_trans h126 h143 (by decide +kernel)
  have h150 := Imp_m h144.2.2.2.2.2.2.1
  have h151 := Imp_m h144.2.2.2.2.2.2.2.1
  have h152 := Imp_m h144.2.2.2.2.2.2.2.2.1
  have h153 := Imp_m h144.2.2.2.2.2.2.2.2.2.1
  have h154 := OTH_fr h127 h143 (by decide +kernel)
  have h155 : tN By Nb ((Int32.ofInt 1)).toInt ((Int32.ofInt 3)).toInt S129 = tN By Nb (1) (3) S129 := tN_cg2 (fun zz => by omega) (fun zz => by omega)
  obtain ⟨S156, h157⟩ : ∃ q : PS, q = tN By Nb (1) (3) S129 := ⟨_, rfl⟩
  have h158 : CT By Nb σ141 S156 := by rw [h157]; exact (CT_eq h148.1 h155)
  have h159 := CT_k h158 h146
  have h160 : Imp (S156.1 = 0) (z147.toInt = tV By Nb S129.2.2.1) := fun z => Imp_m h148.2 (by rw [h155, ← h157]; exact z)
  have h161 : Imp (S156.1 = 0) (S129.1 = 0 ∧ tK By Nb S129.2.2.1 = 2 ∧ 1 ≤ tV By Nb S129.2.2.1 ∧ tV By Nb S129.2.2.1 ≤ 3) := fun z => tN_gg (by rw [← h157]; exact z)
  have h162 : S156.2.2.2 = S129.2.2.2 := by rw [h157]; exact tN_w
  have h163 : Imp (S156.1 = 0) (KN σ141 a (uPd Sp.2.2.2 (0) ((tV By Nb S55.2.2.1))) (fun t => (act Sp.2.2.2 t ∨ t = 0))) := fun zz => KN_fr hP (Imp_m h136 (by (try have i0 := Imp_m h161 (by omega)); (try have i1 := Imp_m h160 (by omega)); (try have i2 := Imp_m h135 (by omega)); (try have i3 := Imp_m h134 (by omega)); (try have i4 := Imp_m h116 (by omega)); (try have i5 := Imp_m h87 (by omega)); (try have i6 := Imp_m h86 (by omega)); (try have i7 := Imp_m h61 (by omega)); (try have i8 := Imp_m h60 (by omega)); (try have i9 := Imp_m h42 (by omega)); (try have i10 := Imp_m h30 (by omega)); (try have i11 := Imp_m h29 (by omega)); (try have i12 := Imp_m h11 (by omega)); (try have i13 := Imp_m h17.2.2.2.2.1 (by omega)); (try have i14 := Imp_m h17.2.2.2.2.2.2.1 (by omega)); (try have i15 := Imp_m h48.2.2.2.2.1 (by omega)); (try have i16 := Imp_m h48.2.2.2.2.2.2.1 (by omega)); (try have i17 := Imp_m h70.2.2.2.2.2.2.1 (by omega)); (try have i18 := Imp_m h70.2.2.2.2.2.2.2.1 (by omega)); (try have i19 := Imp_m h122.2.2.2.2.1 (by omega)); (try have i20 := Imp_m h122.2.2.2.2.2.2.1 (by omega)); omega)) h143 (by decide +kernel)
  have h164 : S156.2.2.2 = (uPd Sp.2.2.2 (0) ((tV By Nb S55.2.2.1))) := h162.trans h137
  have o165 : OUT σ0 σ141 a := OUT_fr o138 h143 (by decide +kernel)
  have h166 := Imp_m h144.2.2.2.2.2.2.2.2.1 (by omega)
  have h167 := Imp_m h144.2.2.2.2.2.2.2.2.2.1 (by omega)
  refine En_put (j := 2) rfl rfl rfl ha (by decide +kernel) rfl (vI (l := (-1)) (u := 3) (by decide +kernel) rfl (by omega) (by omega)) h142 h149 (by decide +kernel) (fun σ168 h169 h170 h171 h172 => ?_)
  have h173 := OTH_pj h154 h172 (by decide)
  obtain ⟨S174, h175⟩ : ∃ q : PS, q = wst S156 (1) ((tV By Nb S129.2.2.1)) := ⟨_, rfl⟩
  have h176 : CT By Nb σ168 S174 := by rw [h175]; exact CT_wst (CT_ne h158 h172 (by have := hP; unfold PLA at this; omega))
  have h177 : Imp (S174.1 = 0) (KN σ168 a (uPd (uPd Sp.2.2.2 (0) ((tV By Nb S55.2.2.1))) (1) ((tV By Nb S129.2.2.1))) (fun t => ((act Sp.2.2.2 t ∨ t = 0) ∨ t = 1))) := fun zz => KN_st (Imp_m h163 (by rw [h175] at zz; exact zz)) h171 h172 (by omega) (by omega) (by rw [lcO_lt (by decide) (by decide), Nat.add_zero]) (by decide) (by have z2 : S156.1 = 0 := (by rw [h175] at zz; exact zz); (try have i0 := Imp_m h161 (by omega)); (try have i1 := Imp_m h160 (by omega)); (try have i2 := Imp_m h135 (by omega)); (try have i3 := Imp_m h134 (by omega)); (try have i4 := Imp_m h116 (by omega)); (try have i5 := Imp_m h87 (by omega)); (try have i6 := Imp_m h86 (by omega)); (try have i7 := Imp_m h61 (by omega)); (try have i8 := Imp_m h60 (by omega)); (try have i9 := Imp_m h42 (by omega)); (try have i10 := Imp_m h30 (by omega)); (try have i11 := Imp_m h29 (by omega)); (try have i12 := Imp_m h11 (by omega)); (try have i13 := Imp_m h17.2.2.2.2.1 (by omega)); (try have i14 := Imp_m h17.2.2.2.2.2.2.1 (by omega)); (try have i15 := Imp_m h48.2.2.2.2.1 (by omega)); (try have i16 := Imp_m h48.2.2.2.2.2.2.1 (by omega)); (try have i17 := Imp_m h70.2.2.2.2.2.2.1 (by omega)); (try have i18 := Imp_m h70.2.2.2.2.2.2.2.1 (by omega)); (try have i19 := Imp_m h122.2.2.2.2.1 (by omega)); (try have i20 := Imp_m h122.2.2.2.2.2.2.1 (by omega)); (try have i21 := Imp_m h144.2.2.2.2.2.2.1 (by omega)); (try have i22 := Imp_m h144.2.2.2.2.2.2.2.1 (by omega)); omega)
  have h178 : S174.2.2.2 = (uPd (uPd Sp.2.2.2 (0) ((tV By Nb S55.2.2.1))) (1) ((tV By Nb S129.2.2.1))) := by rw [h175]; show uPd S156.2.2.2 _ _ = _; rw [h164]
  have h179 : S174.1 = S156.1 := by rw [h175]; rfl
  have h180 := CT_k h176 ((h172 _ _ (Or.inr (by decide))).trans h146)
  have o181 : OUT σ0 σ168 a := OUT_st o165 h172 (by omega)
  have h182 : fFirst By Nb Sp = S174 := by unfold fFirst; (try dsimp only); first | (rw [← h25, ← h56, ← h83, ← h101, ← h130, ← h157, ← h175]; first | done | rfl) | (rw [← h25, ← h56, ← h83, ← h101, ← h130, ← h157, ← h175]; rw [if_pos (by omega)]; first | done | rfl) | (rw [← h25, ← h56, ← h83, ← h101, ← h130, ← h157, ← h175]; rw [if_neg (by omega)]; first | done | rfl) | (rw [← h25, ← h56, ← h83, ← h101, ← h130, ← h157, ← h175]; rw [if_neg (by omega), if_pos (by omega)]; first | done | rfl) | (rw [← h25, ← h56, ← h83, ← h101, ← h130, ← h157, ← h175]; rw [if_neg (by omega), if_neg (by omega)]; first | done | rfl) | (rw [← h25, ← h56, ← h83, ← h101, ← h130, ← h157, ← h175]; rw [if_neg (by omega), if_neg (by omega), if_neg (by omega)]; first | done | rfl)
  exact En_ret (v := none) rfl rfl rfl ⟨h169, h170, z145, ((h172 _ _ (Or.inr (by decide))).trans h146), z73, ((h172 _ _ (Or.inr (by decide))).trans ((h143 _ _ (inW ha (by decide +kernel))).trans ((h121 _ _ (inW ha (by decide +kernel))).trans h97))), rfl, ⟨o181, by omega, by omega, by omega, by omega, by omega, by omega, by omega, by omega, by omega, by omega, (by rw [h182]; exact ⟨h173, h176, fun zz => by rw [h178]; exact KN_sub (Imp_m h177 zz) (fun t t0 t1 y => Or.inl (Or.inl (act_low (by omega) (act_low (by omega) y))))⟩)⟩⟩
/-- DoorSchool$Reader.takeWay()I -/
abbrev P_75x (σ0 : SG) (By : Int → Int) (Nb : Int) (Sp : PS) (f : Int32) : PO := fun v σ => WT σ ∧ Fr [(3, 1), (3, 2), (3, 3), (3, 4), (3, 5), (3, 6)] σ0 σ ∧ ∃ f1 : Int32, (σ 3)[5]? = some (.int f1) ∧ ∃ ret : Int32, v = some (.int ret) ∧ -ret.toInt - 1 ≤ 0 ∧ ret.toInt - 2 ≤ 0 ∧ -f1.toInt ≤ 0 ∧ f1.toInt - 3 ≤ 0 ∧ -f1.toInt + f.toInt ≤ 0 ∧ f1.toInt - f.toInt - 3 ≤ 0 ∧ f.toInt - f1.toInt ≤ 0 ∧ Imp (f1.toInt ≤ 0) (-ret.toInt ≤ 0) ∧ (CT By Nb σ (tW By Nb Sp) ∧ Imp ((tW By Nb Sp).1 = 0) (ret.toInt = wyV By Nb Sp))
set_option maxRecDepth 10000 in
set_option maxHeartbeats 4000000 in
theorem c_75x {By : Int → Int} {Nb : Int} {Sp : PS} (σ0 : SG) (hσ0 : WT σ0) (f : Int32) (h_f : (σ0 3)[5]? = some (.int f)) (hC : CT By Nb σ0 Sp) : En 5 112 none mr_75 (P_75x σ0 By Nb Sp f) 0 [(0, .ref 3)] [] σ0 := by
  obtain ⟨hl_f, hu_f⟩ := WT_int hσ0 (g := 3) (by decide +kernel) (by decide +kernel) (l := 0) (u := 3) (by decide +kernel) h_f
  have hF0 : Fr [(3, 1), (3, 2), (3, 3), (3, 4), (3, 5), (3, 6)] σ0 σ0 := Fr_rfl
  have h1 := CT_k hC h_f
  refine En_Ps 3 (pc' := 3) (lv' := [(1, .int ((Int32.ofInt (-1)))), (0, .ref 3)]) (st' := [.ref 3]) rfl ?_
  refine En_ldcS (i := 4) rfl rfl rfl ?_
  refine En_callV rfl rfl rfl rfl rfl rfl rfl rfl tgz_3 (by decide +kernel) rfl (c_71s4x σ0 hσ0 hC) (by decide) (by decide) (fun v3 σ4 h2 => ?_)
  obtain ⟨h5, h6, z8, rfl, h7⟩ := h2
  have h9 := h7.2.2
  obtain rfl : σ0 = σ4 := Fr_nil h6
  have h10 := h9
  refine En_iEq _ rfl rfl (fun h11 => ?_) (fun h11 => ?_)
  · refine En_Ps 1 (pc' := 17) (lv' := [(1, .int ((Int32.ofInt (-1)))), (0, .ref 3)]) (st' := [.ref 3]) rfl ?_
    refine En_ldcS (i := 11) rfl rfl rfl ?_
    refine En_callV rfl rfl rfl rfl rfl rfl rfl rfl tgz_3 (by decide +kernel) rfl (c_71s11x σ0 hσ0 hC) (by decide) (by decide) (fun v13 σ14 h12 => ?_)
    obtain ⟨h15, h16, z18, rfl, h17⟩ := h12
    have h19 := h17.2.2
    obtain rfl : σ0 = σ14 := Fr_nil h16
    have h20 := h19
    refine En_iEq _ rfl rfl (fun h21 => ?_) (fun h21 => ?_)
    · refine En_Ps 1 (pc' := 31) (lv' := [(1, .int ((Int32.ofInt (-1)))), (0, .ref 3)]) (st' := [.ref 3]) rfl ?_
      refine En_ldcS (i := 7) rfl rfl rfl ?_
      refine En_callV rfl rfl rfl rfl rfl rfl rfl rfl tgz_3 (by decide +kernel) rfl (c_71s7x σ0 hσ0 hC) (by decide) (by decide) (fun v23 σ24 h22 => ?_)
      obtain ⟨h25, h26, z28, rfl, h27⟩ := h22
      have h29 := h27.2.2
      obtain rfl : σ0 = σ24 := Fr_nil h26
      have h30 := h29
      refine En_iEq _ rfl rfl (fun h31 => ?_) (fun h31 => ?_)
      · refine En_Ps 3 (pc' := 44) (lv' := [(1, .int ((Int32.ofInt (-1)))), (0, .ref 3)]) (st' := [.int ((Int32.ofInt (-1))), .int ((Int32.ofInt (-1))), .ref 3]) rfl ?_
        refine En_icEq _ (by decide : (Int32.ofInt (-1)).toInt = -1) (by decide : (Int32.ofInt (-1)).toInt = -1) rfl (fun h32 => ?_) (fun hx => by exfalso; omega)
        refine En_Ps 1 (pc' := 52) (lv' := [(1, .int ((Int32.ofInt (-1)))), (0, .ref 3)]) (st' := [.int ((Int32.ofInt 0)), .ref 3]) rfl ?_
        have := (by decide : ((Int32.ofInt 0)).toInt = 0)
        refine En_callV rfl rfl rfl rfl rfl rfl rfl rfl tgz_3 (by decide +kernel) rfl (c_59x σ0 hσ0 ((Int32.ofInt 0)) (geI (by decide : (Int32.ofInt 0).toInt = 0) (by omega)) (leI (by decide : (Int32.ofInt 0).toInt = 0) (by omega)) f h_f hC) (by decide) (by decide) (fun v34 σ35 h33 => ?_)
        obtain ⟨h36, h37, z39, h40, rfl, h38⟩ := h33
        have h41 := h38.2.2.2.2.2.2.2
        have h42 := Fr_trans hF0 h37 (by decide +kernel)
        have h43 : pss By Nb ((Int32.ofInt 0)).toInt Sp = tW By Nb Sp := tWc (fun zz => by (try have i0 := Imp_m h30 (by omega)); (try have i1 := Imp_m h20 (by omega)); (try have i2 := Imp_m h10 (by omega)); omega)
        obtain ⟨S44, h45⟩ : ∃ q : PS, q = tW By Nb Sp := ⟨_, rfl⟩
        have h46 : CT By Nb σ35 S44 := by rw [h45]; exact (CT_eq h41 h43)
        have h47 := CT_k h46 h40
        have h48 : S44.2.2.2 = Sp.2.2.2 := by rw [h45]; exact pss_w
        have h49 : Imp (S44.1 = 0) (Sp.1 = 0) := fun z => (pss_g (by rw [h43, ← h45]; exact z)).1
        have h50 : Imp (S44.1 = 0) (((Int32.ofInt 0)).toInt = 1) := fun z => (pss_g (by rw [h43, ← h45]; exact z)).2.1
        have h51 := Imp_m h38.2.2.2.2.2.2.1 (by omega)
        refine En_Ps 1 (pc' := 56) (lv' := [(1, .int ((Int32.ofInt (-1)))), (0, .ref 3)]) (st' := [.int ((Int32.ofInt (-1)))]) rfl ?_
        refine En_top (by decide : (Int32.ofInt (-1)).toInt = -1) (fun z52 h53 => ?_)
        exact En_ret (v := some (.int z52)) rfl rfl rfl ⟨h36, h42, z39, h40, z52, rfl, ⟨by omega, by omega, by omega, by omega, by omega, by omega, by omega, fun _ => by omega, ⟨CT_eq h46 (by subst h45; rfl), fun zz => wyVc (by subst h45; (try have i0 := Imp_m h50 (by omega)); (try have i1 := Imp_m h49 (by omega)); (try have i2 := Imp_m h30 (by omega)); (try have i3 := Imp_m h20 (by omega)); (try have i4 := Imp_m h10 (by omega)); (try have i5 := Imp_m h38.2.2.2.2.1 (by omega)); omega)⟩⟩⟩
      · refine En_Ps 5 (pc' := 44) (lv' := [(1, .int ((Int32.ofInt 2))), (0, .ref 3)]) (st' := [.int ((Int32.ofInt (-1))), .int ((Int32.ofInt 2)), .ref 3]) rfl ?_
        refine En_icEq _ (by decide : (Int32.ofInt 2).toInt = 2) (by decide : (Int32.ofInt (-1)).toInt = -1) rfl (fun hx => by exfalso; omega) (fun h54 => ?_)
        refine En_Ps 2 (pc' := 52) (lv' := [(1, .int ((Int32.ofInt 2))), (0, .ref 3)]) (st' := [.int ((Int32.ofInt 1)), .ref 3]) rfl ?_
        have := (by decide : ((Int32.ofInt 1)).toInt = 1)
        refine En_callV rfl rfl rfl rfl rfl rfl rfl rfl tgz_3 (by decide +kernel) rfl (c_59x σ0 hσ0 ((Int32.ofInt 1)) (geI (by decide : (Int32.ofInt 1).toInt = 1) (by omega)) (leI (by decide : (Int32.ofInt 1).toInt = 1) (by omega)) f h_f hC) (by decide) (by decide) (fun v56 σ57 h55 => ?_)
        obtain ⟨h58, h59, z61, h62, rfl, h60⟩ := h55
        have h63 := h60.2.2.2.2.2.2.2
        have h64 := Fr_trans hF0 h59 (by decide +kernel)
        have h65 : pss By Nb ((Int32.ofInt 1)).toInt Sp = tW By Nb Sp := tWc (fun zz => by (try have i0 := Imp_m h30 (by omega)); (try have i1 := Imp_m h20 (by omega)); (try have i2 := Imp_m h10 (by omega)); omega)
        obtain ⟨S66, h67⟩ : ∃ q : PS, q = tW By Nb Sp := ⟨_, rfl⟩
        have h68 : CT By Nb σ57 S66 := by rw [h67]; exact (CT_eq h63 h65)
        have h69 := CT_k h68 h62
        have h70 : S66.2.2.2 = Sp.2.2.2 := by rw [h67]; exact pss_w
        have h71 : Imp (S66.1 = 0) (Sp.1 = 0) := fun z => (pss_g (by rw [h65, ← h67]; exact z)).1
        have h72 : Imp (S66.1 = 0) (((Int32.ofInt 1)).toInt = 1) := fun z => (pss_g (by rw [h65, ← h67]; exact z)).2.1
        have h73 := Imp_m h60.2.2.2.2.1 (by omega)
        refine En_Ps 1 (pc' := 56) (lv' := [(1, .int ((Int32.ofInt 2))), (0, .ref 3)]) (st' := [.int ((Int32.ofInt 2))]) rfl ?_
        refine En_top (by decide : (Int32.ofInt 2).toInt = 2) (fun z74 h75 => ?_)
        exact En_ret (v := some (.int z74)) rfl rfl rfl ⟨h58, h64, z61, h62, z74, rfl, ⟨by omega, by omega, by omega, by omega, by omega, by omega, by omega, fun _ => by omega, ⟨CT_eq h68 (by subst h67; rfl), fun zz => wyVc (by subst h67; (try have i0 := Imp_m h72 (by omega)); (try have i1 := Imp_m h71 (by omega)); (try have i2 := Imp_m h30 (by omega)); (try have i3 := Imp_m h20 (by omega)); (try have i4 := Imp_m h10 (by omega)); (try have i5 := Imp_m h60.2.2.2.2.2.2.1 (by omega)); omega)⟩⟩⟩
    · refine En_Ps 6 (pc' := 44) (lv' := [(1, .int ((Int32.ofInt 1))), (0, .ref 3)]) (st' := [.int ((Int32.ofInt (-1))), .int ((Int32.ofInt 1)), .ref 3]) rfl ?_
      refine En_icEq _ (by decide : (Int32.ofInt 1).toInt = 1) (by decide : (Int32.ofInt (-1)).toInt = -1) rfl (fun hx => by exfalso; omega) (fun h76 => ?_)
      refine En_Ps 2 (pc' := 52) (lv' := [(1, .int ((Int32.ofInt 1))), (0, .ref 3)]) (st' := [.int ((Int32.ofInt 1)), .ref 3]) rfl ?_
      have := (by decide : ((Int32.ofInt 1)).toInt = 1)
      refine En_callV rfl rfl rfl rfl rfl rfl rfl rfl tgz_3 (by decide +kernel) rfl (c_59x σ0 hσ0 ((Int32.ofInt 1)) (geI (by decide : (Int32.ofInt 1).toInt = 1) (by omega)) (leI (by decide : (Int32.ofInt 1).toInt = 1) (by omega)) f h_f hC) (by decide) (by decide) (fun v78 σ79 h77 => ?_)
      obtain ⟨h80, h81, z83, h84, rfl, h82⟩ := h77
      have h85 := h82.2.2.2.2.2.2.2
      have h86 := Fr_trans hF0 h81 (by decide +kernel)
      have h87 : pss By Nb ((Int32.ofInt 1)).toInt Sp = tW By Nb Sp := tWc (fun zz => by (try have i0 := Imp_m h20 (by omega)); (try have i1 := Imp_m h10 (by omega)); omega)
      obtain ⟨S88, h89⟩ : ∃ q : PS, q = tW By Nb Sp := ⟨_, rfl⟩
      have h90 : CT By Nb σ79 S88 := by rw [h89]; exact (CT_eq h85 h87)
      have h91 := CT_k h90 h84
      have h92 : S88.2.2.2 = Sp.2.2.2 := by rw [h89]; exact pss_w
      have h93 : Imp (S88.1 = 0) (Sp.1 = 0) := fun z => (pss_g (by rw [h87, ← h89]; exact z)).1
      have h94 : Imp (S88.1 = 0) (((Int32.ofInt 1)).toInt = 1) := fun z => (pss_g (by rw [h87, ← h89]; exact z)).2.1
      have h95 := Imp_m h82.2.2.2.2.1 (by omega)
      refine En_Ps 1 (pc' := 56) (lv' := [(1, .int ((Int32.ofInt 1))), (0, .ref 3)]) (st' := [.int ((Int32.ofInt 1))]) rfl ?_
      refine En_top (by decide : (Int32.ofInt 1).toInt = 1) (fun z96 h97 => ?_)
      exact En_ret (v := some (.int z96)) rfl rfl rfl ⟨h80, h86, z83, h84, z96, rfl, ⟨by omega, by omega, by omega, by omega, by omega, by omega, by omega, fun _ => by omega, ⟨CT_eq h90 (by subst h89; rfl), fun zz => wyVc (by subst h89; (try have i0 := Imp_m h94 (by omega)); (try have i1 := Imp_m h93 (by omega)); (try have i2 := Imp_m h20 (by omega)); (try have i3 := Imp_m h10 (by omega)); (try have i4 := Imp_m h82.2.2.2.2.2.2.1 (by omega)); omega)⟩⟩⟩
  · refine En_Ps 6 (pc' := 44) (lv' := [(1, .int ((Int32.ofInt 0))), (0, .ref 3)]) (st' := [.int ((Int32.ofInt (-1))), .int ((Int32.ofInt 0)), .ref 3]) rfl ?_
    refine En_icEq _ (by decide : (Int32.ofInt 0).toInt = 0) (by decide : (Int32.ofInt (-1)).toInt = -1) rfl (fun hx => by exfalso; omega) (fun h98 => ?_)
    refine En_Ps 2 (pc' := 52) (lv' := [(1, .int ((Int32.ofInt 0))), (0, .ref 3)]) (st' := [.int ((Int32.ofInt 1)), .ref 3]) rfl ?_
    have := (by decide : ((Int32.ofInt 1)).toInt = 1)
    refine En_callV rfl rfl rfl rfl rfl rfl rfl rfl tgz_3 (by decide +kernel) rfl (c_59x σ0 hσ0 ((Int32.ofInt 1)) (geI (by decide : (Int32.ofInt 1).toInt = 1) (by omega)) (leI (by decide : (Int32.ofInt 1).toInt = 1) (by omega)) f h_f hC) (by decide) (by decide) (fun v100 σ101 h99 => ?_)
    obtain ⟨h102, h103, z105, h106, rfl, h104⟩ := h99
    have h107 := h104.2.2.2.2.2.2.2
    have h108 := Fr_trans hF0 h103 (by decide +kernel)
    have h109 : pss By Nb ((Int32.ofInt 1)).toInt Sp = tW By Nb Sp := tWc (fun zz => by (try have i0 := Imp_m h10 (by omega)); omega)
    obtain ⟨S110, h111⟩ : ∃ q : PS, q = tW By Nb Sp := ⟨_, rfl⟩
    have h112 : CT By Nb σ101 S110 := by rw [h111]; exact (CT_eq h107 h109)
    have h113 := CT_k h112 h106
    have h114 : S110.2.2.2 = Sp.2.2.2 := by rw [h111]; exact pss_w
    have h115 : Imp (S110.1 = 0) (Sp.1 = 0) := fun z => (pss_g (by rw [h109, ← h111]; exact z)).1
    have h116 : Imp (S110.1 = 0) (((Int32.ofInt 1)).toInt = 1) := fun z => (pss_g (by rw [h109, ← h111]; exact z)).2.1
    have h117 := Imp_m h104.2.2.2.2.1 (by omega)
    refine En_Ps 1 (pc' := 56) (lv' := [(1, .int ((Int32.ofInt 0))), (0, .ref 3)]) (st' := [.int ((Int32.ofInt 0))]) rfl ?_
    refine En_top (by decide : (Int32.ofInt 0).toInt = 0) (fun z118 h119 => ?_)
    exact En_ret (v := some (.int z118)) rfl rfl rfl ⟨h102, h108, z105, h106, z118, rfl, ⟨by omega, by omega, by omega, by omega, by omega, by omega, by omega, fun _ => by omega, ⟨CT_eq h112 (by subst h111; rfl), fun zz => wyVc (by subst h111; (try have i0 := Imp_m h116 (by omega)); (try have i1 := Imp_m h115 (by omega)); (try have i2 := Imp_m h10 (by omega)); (try have i3 := Imp_m h104.2.2.2.2.2.2.1 (by omega)); omega)⟩⟩⟩

