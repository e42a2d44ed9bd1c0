/-- DoorSchool$Reader.stands(Ljava/lang/String;)Z -/
abbrev P_71s3x (σ0 : SG) (By : Int → Int) (Nb : Int) (Sp : PS) : PO := fun v σ => WT σ ∧ Fr [] σ0 σ ∧ ∃ ret : Int32, v = some (.int ret) ∧ -ret.toInt ≤ 0 ∧ ret.toInt - 1 ≤ 0 ∧ Imp (Sp.1 = 0) (ret.toInt = iW By Nb 3 Sp)
set_option maxRecDepth 10000 in
set_option maxHeartbeats 4000000 in
theorem c_71s3x {By : Int → Int} {Nb : Int} {Sp : PS} (σ0 : SG) (hσ0 : WT σ0) (hC : CT By Nb σ0 Sp) : En 4 90 none mr_71 (P_71s3x σ0 By Nb Sp) 0 [(0, .ref 3), (1, .retAddr 7)] [] σ0 := by
  have hF0 : Fr [] σ0 σ0 := Fr_rfl
  obtain ⟨z2, h1, h3, h4⟩ := WT_peekI hσ0 tgz_3 (by decide +kernel : FT 3 1 = (0, 0, 4)) (by decide +kernel)
  obtain ⟨z6, h5, h7, h8⟩ := WT_peekI hσ0 tgz_3 (by decide +kernel : FT 3 3 = (0, 0, 1600)) (by decide +kernel)
  obtain ⟨z10, h9, h11, h12⟩ := WT_peekI hσ0 tgz_3 (by decide +kernel : FT 3 2 = (0, 0, 1600)) (by decide +kernel)
  have h13 : Imp (Sp.1 = 0) (tK By Nb Sp.2.2.1 = z2.toInt) := CT_t hC h1
  refine En_Ps 1 (pc' := 1) (lv' := [(0, .ref 3), (1, .retAddr 7)]) (st' := [.ref 3]) rfl ?_
  refine En_getK (j := 1) h1 rfl rfl rfl tgz_3 (by decide +kernel) ?_
  refine En_Ps 1 (pc' := 5) (lv' := [(0, .ref 3), (1, .retAddr 7)]) (st' := [.int ((Int32.ofInt 1)), .int z2]) rfl ?_
  refine En_icNe _ rfl (by decide : (Int32.ofInt 1).toInt = 1) rfl (fun h14 => ?_) (fun h14 => ?_)
  · refine En_Ps 1 (pc' := 25) (lv' := [(0, .ref 3), (1, .retAddr 7)]) (st' := [.int ((Int32.ofInt 0))]) rfl ?_
    refine En_top (by decide : (Int32.ofInt 0).toInt = 0) (fun z15 h16 => ?_)
    exact En_ret (v := some (.int z15)) rfl rfl (retZ rfl rfl (by omega) (by omega)) ⟨hσ0, hF0, z15, rfl, ⟨by omega, by omega, fun z => by have q1 := CT_t hC h1 z; have q2 := CT_fa hC h5 h9 z; have q := iW_0 (By := By) (Nb := Nb) (i := 3) (S := Sp) (by simp only [LWl]; omega); omega⟩⟩
  · refine En_Ps 1 (pc' := 9) (lv' := [(0, .ref 3), (1, .retAddr 7)]) (st' := [.ref 3]) rfl ?_
    refine En_getK (j := 3) h5 rfl rfl rfl tgz_3 (by decide +kernel) ?_
    refine En_Ps 1 (pc' := 13) (lv' := [(0, .ref 3), (1, .retAddr 7)]) (st' := [.ref 3, .int z6]) rfl ?_
    refine En_getK (j := 2) h9 rfl rfl rfl tgz_3 (by decide +kernel) ?_
    refine En_Ps 1 (pc' := 17) (lv' := [(0, .ref 3), (1, .retAddr 7)]) (st' := [.int ((z6 - z10))]) rfl ?_
    refine En_top (subI rfl rfl (by omega) (by omega)) (fun z17 h18 => ?_)
    refine En_Ps 1 (pc' := 18) (lv' := [(0, .ref 3), (1, .retAddr 7)]) (st' := [.retAddr 7, .int z17]) rfl ?_
    refine En_slen 3 4 rfl rfl (by decide) rfl ?_
    refine En_icEq _ rfl (by decide : (Int32.ofNat 4).toInt = 4) rfl (fun h19 => ?_) (fun h19 => ?_)
    · refine En_Ps 2 (pc' := 28) (lv' := [(2, .int ((Int32.ofInt 0))), (0, .ref 3), (1, .retAddr 7)]) (st' := []) rfl ?_
      have key28 : ∀ (n28 : Nat) (σ21 : SG) (y20 : Int32), WT σ21 → Fr [] σ0 σ21 → (σ21 3)[1]? = some (.int z2) → (σ21 3)[3]? = some (.int z6) → (σ21 3)[2]? = some (.int z10) → 0 ≤ y20.toInt → y20.toInt ≤ 4 → z6.toInt - y20.toInt < (n28 : Int) → Imp (Sp.1 = 0) (ISQ By Nb 3 Sp 1 y20.toInt) → En 4 90 none mr_71 (P_71s3x σ0 By Nb Sp) 28 [(0, .ref 3), (1, .retAddr 7), (2, .int y20)] [] σ21 := by
        intro n28
        induction n28 with
        | zero =>
          intro σ21 y20 h22 h23 h24 h25 h26 h27 h28 h29 h30
          exfalso; omega
        | succ n28 ih28 =>
          intro σ21 y20 h22 h23 h24 h25 h26 h27 h28 h29 h30
          refine En_Ps 2 (pc' := 30) (lv' := [(0, .ref 3), (1, .retAddr 7), (2, .int y20)]) (st' := [.retAddr 7, .int y20]) rfl ?_
          refine En_slen 3 4 rfl rfl (by decide) rfl ?_
          refine En_icGe _ rfl (by decide : (Int32.ofNat 4).toInt = 4) rfl (fun h31 => ?_) (fun h31 => ?_)
          · refine En_Ps 1 (pc' := 67) (lv' := [(0, .ref 3), (1, .retAddr 7), (2, .int y20)]) (st' := [.int ((Int32.ofInt 1))]) rfl ?_
            refine En_top (by decide : (Int32.ofInt 1).toInt = 1) (fun z32 h33 => ?_)
            exact En_ret (v := some (.int z32)) rfl rfl (retZ rfl rfl (by omega) (by omega)) ⟨h22, h23, z32, rfl, ⟨by omega, by omega, fun z => by have q := ISQ_x (Imp_m h30 z) (Or.inr (by simp only [LWl]; omega)); omega⟩⟩
          · refine En_Ps 1 (pc' := 37) (lv' := [(0, .ref 3), (1, .retAddr 7), (2, .int y20)]) (st' := [.ref 3]) rfl ?_
            refine En_getU (j := 0) (u := 1) (g' := 1) (q := 0) rfl rfl rfl tgz_3 (by decide +kernel) h22 (by decide +kernel) (by decide +kernel) (fun h34 => ?_)
            refine En_getU (j := 0) (u := 2) (g' := 2) (q := 0) rfl rfl rfl tgz_1 (by decide +kernel) h22 (by decide +kernel) (by decide +kernel) (fun h36 => ?_)
            refine En_Ps 1 (pc' := 44) (lv' := [(0, .ref 3), (1, .retAddr 7), (2, .int y20)]) (st' := [.ref 3, .ref 2]) rfl ?_
            refine En_getK (j := 2) h26 rfl rfl rfl tgz_3 (by decide +kernel) ?_
            refine En_Ps 2 (pc' := 49) (lv' := [(0, .ref 3), (1, .retAddr 7), (2, .int y20)]) (st' := [.int ((z10 + y20)), .ref 2]) rfl ?_
            refine En_top (addI rfl rfl (by omega) (by omega)) (fun z38 h39 => ?_)
            refine En_bald (l := (-128)) (u := 127) rfl rfl tgz_2 (by decide +kernel) h22 (by omega) (lnI (by decide +kernel : LN _ = 1600) (by omega)) (FTsgl (by decide +kernel)) (fun z41 h40 h42 h43 => ?_)
            refine En_Ps 2 (pc' := 52) (lv' := [(0, .ref 3), (1, .retAddr 7), (2, .int y20)]) (st' := [.int y20, .retAddr 7, .int z41]) rfl ?_
            refine En_scharX 3 4 rfl rfl rfl (by decide) (by omega) (by omega) rfl (fun z44 h45 h46 h47 => ?_)
            refine En_icEq _ rfl rfl rfl (fun h48 => ?_) (fun h48 => ?_)
            · refine En_Ps 1 (pc' := 63) (lv' := [(2, .int ((y20 + Int32.ofInt 1))), (0, .ref 3), (1, .retAddr 7)]) (st' := []) rfl ?_
              refine En_lv1 (addI rfl (by decide : (Int32.ofInt 1).toInt = 1) (by omega) (by omega)) (fun z49 h50 => ?_)
              refine En_Ps 1 (pc' := 28) (lv' := [(2, .int z49), (0, .ref 3), (1, .retAddr 7)]) (st' := []) rfl ?_
              refine En_lv (lv := [(0, .ref 3), (1, .retAddr 7), (2, .int z49)]) ⟨rfl, rfl, rfl, trivial⟩ ?_
              exact ih28 σ21 z49 h22 h23 h24 h25 h26 (by omega) (by omega) (by omega) (fun z => by have q1 := CT_t hC h1 z; have q2 := CT_fa hC h5 h9 z; exact ISQc_n (CT_fr hC h23 (by decide +kernel)) (Imp_m h30 z) (by simp only [LWl]; omega) (by omega) h40 h47 (by omega) (by omega))
            · refine En_Ps 1 (pc' := 59) (lv' := [(0, .ref 3), (1, .retAddr 7), (2, .int y20)]) (st' := [.int ((Int32.ofInt 0))]) rfl ?_
              refine En_top (by decide : (Int32.ofInt 0).toInt = 0) (fun z51 h52 => ?_)
              exact En_ret (v := some (.int z51)) rfl rfl (retZ rfl rfl (by omega) (by omega)) ⟨h22, h23, z51, rfl, ⟨by omega, by omega, fun z => by have q1 := CT_t hC h1 z; have q2 := CT_fa hC h5 h9 z; have q := ISQc_n (b' := 0) (CT_fr hC h23 (by decide +kernel)) (Imp_m h30 z) (by simp only [LWl]; omega) (by omega) h40 h47 rfl (Or.inr ⟨rfl, by omega⟩); have q2 := ISQ_x q (Or.inl rfl); omega⟩⟩
      have := (by decide : (Int32.ofInt 0).toInt = 0)
      refine En_lv (lv := [(0, .ref 3), (1, .retAddr 7), (2, .int ((Int32.ofInt 0)))]) ⟨rfl, rfl, rfl, trivial⟩ ?_
      exact key28 (Int.toNat (z6.toInt) + 1) σ0 ((Int32.ofInt 0)) hσ0 hF0 h1 h5 h9 (by omega) (by omega) (by omega) (fun z => by have q1 := CT_t hC h1 z; have q2 := CT_fa hC h5 h9 z; exact ISQc_s (by decide) z (by omega) (by simp only [LWl]; omega))
    · refine En_Ps 1 (pc' := 25) (lv' := [(0, .ref 3), (1, .retAddr 7)]) (st' := [.int ((Int32.ofInt 0))]) rfl ?_
      refine En_top (by decide : (Int32.ofInt 0).toInt = 0) (fun z53 h54 => ?_)
      exact En_ret (v := some (.int z53)) rfl rfl (retZ rfl rfl (by omega) (by omega)) ⟨hσ0, hF0, z53, rfl, ⟨by omega, by omega, fun z => by have q1 := CT_t hC h1 z; have q2 := CT_fa hC h5 h9 z; have q := iW_0 (By := By) (Nb := Nb) (i := 3) (S := Sp) (by simp only [LWl]; omega); omega⟩⟩
/-- DoorSchool$Reader.stands(Ljava/lang/String;)Z -/
abbrev P_71s4x (σ0 : SG) (By : Int → Int) (Nb : Int) (Sp : PS) : PO := fun v σ => WT σ ∧ Fr [] σ0 σ ∧ ∃ ret : Int32, v = some (.int ret) ∧ -ret.toInt ≤ 0 ∧ ret.toInt - 1 ≤ 0 ∧ Imp (Sp.1 = 0) (ret.toInt = iW By Nb 4 Sp)
set_option maxRecDepth 10000 in
set_option maxHeartbeats 4000000 in
theorem c_71s4x {By : Int → Int} {Nb : Int} {Sp : PS} (σ0 : SG) (hσ0 : WT σ0) (hC : CT By Nb σ0 Sp) : En 4 90 none mr_71 (P_71s4x σ0 By Nb Sp) 0 [(0, .ref 3), (1, .retAddr 9)] [] σ0 := by
  have hF0 : Fr [] σ0 σ0 := Fr_rfl
  obtain ⟨z2, h1, h3, h4⟩ := WT_peekI hσ0 tgz_3 (by decide +kernel : FT 3 1 = (0, 0, 4)) (by decide +kernel)
  obtain ⟨z6, h5, h7, h8⟩ := WT_peekI hσ0 tgz_3 (by decide +kernel : FT 3 3 = (0, 0, 1600)) (by decide +kernel)
  obtain ⟨z10, h9, h11, h12⟩ := WT_peekI hσ0 tgz_3 (by decide +kernel : FT 3 2 = (0, 0, 1600)) (by decide +kernel)
  have h13 : Imp (Sp.1 = 0) (tK By Nb Sp.2.2.1 = z2.toInt) := CT_t hC h1
  refine En_Ps 1 (pc' := 1) (lv' := [(0, .ref 3), (1, .retAddr 9)]) (st' := [.ref 3]) rfl ?_
  refine En_getK (j := 1) h1 rfl rfl rfl tgz_3 (by decide +kernel) ?_
  refine En_Ps 1 (pc' := 5) (lv' := [(0, .ref 3), (1, .retAddr 9)]) (st' := [.int ((Int32.ofInt 1)), .int z2]) rfl ?_
  refine En_icNe _ rfl (by decide : (Int32.ofInt 1).toInt = 1) rfl (fun h14 => ?_) (fun h14 => ?_)
  · refine En_Ps 1 (pc' := 25) (lv' := [(0, .ref 3), (1, .retAddr 9)]) (st' := [.int ((Int32.ofInt 0))]) rfl ?_
    refine En_top (by decide : (Int32.ofInt 0).toInt = 0) (fun z15 h16 => ?_)
    exact En_ret (v := some (.int z15)) rfl rfl (retZ rfl rfl (by omega) (by omega)) ⟨hσ0, hF0, z15, rfl, ⟨by omega, by omega, fun z => by have q1 := CT_t hC h1 z; have q2 := CT_fa hC h5 h9 z; have q := iW_0 (By := By) (Nb := Nb) (i := 4) (S := Sp) (by simp only [LWl]; omega); omega⟩⟩
  · refine En_Ps 1 (pc' := 9) (lv' := [(0, .ref 3), (1, .retAddr 9)]) (st' := [.ref 3]) rfl ?_
    refine En_getK (j := 3) h5 rfl rfl rfl tgz_3 (by decide +kernel) ?_
    refine En_Ps 1 (pc' := 13) (lv' := [(0, .ref 3), (1, .retAddr 9)]) (st' := [.ref 3, .int z6]) rfl ?_
    refine En_getK (j := 2) h9 rfl rfl rfl tgz_3 (by decide +kernel) ?_
    refine En_Ps 1 (pc' := 17) (lv' := [(0, .ref 3), (1, .retAddr 9)]) (st' := [.int ((z6 - z10))]) rfl ?_
    refine En_top (subI rfl rfl (by omega) (by omega)) (fun z17 h18 => ?_)
    refine En_Ps 1 (pc' := 18) (lv' := [(0, .ref 3), (1, .retAddr 9)]) (st' := [.retAddr 9, .int z17]) rfl ?_
    refine En_slen 4 5 rfl rfl (by decide) rfl ?_
    refine En_icEq _ rfl (by decide : (Int32.ofNat 5).toInt = 5) rfl (fun h19 => ?_) (fun h19 => ?_)
    · refine En_Ps 2 (pc' := 28) (lv' := [(2, .int ((Int32.ofInt 0))), (0, .ref 3), (1, .retAddr 9)]) (st' := []) rfl ?_
      have key28 : ∀ (n28 : Nat) (σ21 : SG) (y20 : Int32), WT σ21 → Fr [] σ0 σ21 → (σ21 3)[1]? = some (.int z2) → (σ21 3)[3]? = some (.int z6) → (σ21 3)[2]? = some (.int z10) → 0 ≤ y20.toInt → y20.toInt ≤ 5 → z6.toInt - y20.toInt < (n28 : Int) → Imp (Sp.1 = 0) (ISQ By Nb 4 Sp 1 y20.toInt) → En 4 90 none mr_71 (P_71s4x σ0 By Nb Sp) 28 [(0, .ref 3), (1, .retAddr 9), (2, .int y20)] [] σ21 := by
        intro n28
        induction n28 with
        | zero =>
          intro σ21 y20 h22 h23 h24 h25 h26 h27 h28 h29 h30
          exfalso; omega
        | succ n28 ih28 =>
          intro σ21 y20 h22 h23 h24 h25 h26 h27 h28 h29 h30
          refine En_Ps 2 (pc' := 30) (lv' := [(0, .ref 3), (1, .retAddr 9), (2, .int y20)]) (st' := [.retAddr 9, .int y20]) rfl ?_
          refine En_slen 4 5 rfl rfl (by decide) rfl ?_
          refine En_icGe _ rfl (by decide : (Int32.ofNat 5).toInt = 5) rfl (fun h31 => ?_) (fun h31 => ?_)
          · refine En_Ps 1 (pc' := 67) (lv' := [(0, .ref 3), (1, .retAddr 9), (2, .int y20)]) (st' := [.int ((Int32.ofInt 1))]) rfl ?_
            refine En_top (by decide : (Int32.ofInt 1).toInt = 1) (fun z32 h33 => ?_)
            exact En_ret (v := some (.int z32)) rfl rfl (retZ rfl rfl (by omega) (by omega)) ⟨h22, h23, z32, rfl, ⟨by omega, by omega, fun z => by have q := ISQ_x (Imp_m h30 z) (Or.inr (by simp only [LWl]; omega)); omega⟩⟩
          · refine En_Ps 1 (pc' := 37) (lv' := [(0, .ref 3), (1, .retAddr 9), (2, .int y20)]) (st' := [.ref 3]) rfl ?_
            refine En_getU (j := 0) (u := 1) (g' := 1) (q := 0) rfl rfl rfl tgz_3 (by decide +kernel) h22 (by decide +kernel) (by decide +kernel) (fun h34 => ?_)
            refine En_getU (j := 0) (u := 2) (g' := 2) (q := 0) rfl rfl rfl tgz_1 (by decide +kernel) h22 (by decide +kernel) (by decide +kernel) (fun h36 => ?_)
            refine En_Ps 1 (pc' := 44) (lv' := [(0, .ref 3), (1, .retAddr 9), (2, .int y20)]) (st' := [.ref 3, .ref 2]) rfl ?_
            refine En_getK (j := 2) h26 rfl rfl rfl tgz_3 (by decide +kernel) ?_
            refine En_Ps 2 (pc' := 49) (lv' := [(0, .ref 3), (1, .retAddr 9), (2, .int y20)]) (st' := [.int ((z10 + y20)), .ref 2]) rfl ?_
            refine En_top (addI rfl rfl (by omega) (by omega)) (fun z38 h39 => ?_)
            refine En_bald (l := (-128)) (u := 127) rfl rfl tgz_2 (by decide +kernel) h22 (by omega) (lnI (by decide +kernel : LN _ = 1600) (by omega)) (FTsgl (by decide +kernel)) (fun z41 h40 h42 h43 => ?_)
            refine En_Ps 2 (pc' := 52) (lv' := [(0, .ref 3), (1, .retAddr 9), (2, .int y20)]) (st' := [.int y20, .retAddr 9, .int z41]) rfl ?_
            refine En_scharX 4 5 rfl rfl rfl (by decide) (by omega) (by omega) rfl (fun z44 h45 h46 h47 => ?_)
            refine En_icEq _ rfl rfl rfl (fun h48 => ?_) (fun h48 => ?_)
            · refine En_Ps 1 (pc' := 63) (lv' := [(2, .int ((y20 + Int32.ofInt 1))), (0, .ref 3), (1, .retAddr 9)]) (st' := []) rfl ?_
              refine En_lv1 (addI rfl (by decide : (Int32.ofInt 1).toInt = 1) (by omega) (by omega)) (fun z49 h50 => ?_)
              refine En_Ps 1 (pc' := 28) (lv' := [(2, .int z49), (0, .ref 3), (1, .retAddr 9)]) (st' := []) rfl ?_
              refine En_lv (lv := [(0, .ref 3), (1, .retAddr 9), (2, .int z49)]) ⟨rfl, rfl, rfl, trivial⟩ ?_
              exact ih28 σ21 z49 h22 h23 h24 h25 h26 (by omega) (by omega) (by omega) (fun z => by have q1 := CT_t hC h1 z; have q2 := CT_fa hC h5 h9 z; exact ISQc_n (CT_fr hC h23 (by decide +kernel)) (Imp_m h30 z) (by simp only [LWl]; omega) (by omega) h40 h47 (by omega) (by omega))
            · refine En_Ps 1 (pc' := 59) (lv' := [(0, .ref 3), (1, .retAddr 9), (2, .int y20)]) (st' := [.int ((Int32.ofInt 0))]) rfl ?_
              refine En_top (by decide : (Int32.ofInt 0).toInt = 0) (fun z51 h52 => ?_)
              exact En_ret (v := some (.int z51)) rfl rfl (retZ rfl rfl (by omega) (by omega)) ⟨h22, h23, z51, rfl, ⟨by omega, by omega, fun z => by have q1 := CT_t hC h1 z; have q2 := CT_fa hC h5 h9 z; have q := ISQc_n (b' := 0) (CT_fr hC h23 (by decide +kernel)) (Imp_m h30 z) (by simp only [LWl]; omega) (by omega) h40 h47 rfl (Or.inr ⟨rfl, by omega⟩); have q2 := ISQ_x q (Or.inl rfl); omega⟩⟩
      have := (by decide : (Int32.ofInt 0).toInt = 0)
      refine En_lv (lv := [(0, .ref 3), (1, .retAddr 9), (2, .int ((Int32.ofInt 0)))]) ⟨rfl, rfl, rfl, trivial⟩ ?_
      exact key28 (Int.toNat (z6.toInt) + 1) σ0 ((Int32.ofInt 0)) hσ0 hF0 h1 h5 h9 (by omega) (by omega) (by omega) (fun z => by have q1 := CT_t hC h1 z; have q2 := CT_fa hC h5 h9 z; exact ISQc_s (by decide) z (by omega) (by simp only [LWl]; omega))
    · refine En_Ps 1 (pc' := 25) (lv' := [(0, .ref 3), (1, .retAddr 9)]) (st' := [.int ((Int32.ofInt 0))]) rfl ?_
      refine En_top (by decide : (Int32.ofInt 0).toInt = 0) (fun z53 h54 => ?_)
      exact En_ret (v := some (.int z53)) rfl rfl (retZ rfl rfl (by omega) (by omega)) ⟨hσ0, hF0, z53, rfl, ⟨by omega, by omega, fun z => by have q1 := CT_t hC h1 z; have q2 := CT_fa hC h5 h9 z; have q := iW_0 (By := By) (Nb := Nb) (i := 4) (S := Sp) (by simp only [LWl]; omega); omega⟩⟩
/-- DoorSchool$Reader.stands(Ljava/lang/String;)Z -/
abbrev P_71s5x (σ0 : SG) (By : Int → Int) (Nb : Int) (Sp : PS) : PO := fun v σ => WT σ ∧ Fr [] σ0 σ ∧ ∃ ret : Int32, v = some (.int ret) ∧ -ret.toInt ≤ 0 ∧ ret.toInt - 1 ≤ 0 ∧ Imp (Sp.1 = 0) (ret.toInt = iW By Nb 5 Sp)
set_option maxRecDepth 10000 in
set_option maxHeartbeats 4000000 in
theorem c_71s5x {By : Int → Int} {Nb : Int} {Sp : PS} (σ0 : SG) (hσ0 : WT σ0) (hC : CT By Nb σ0 Sp) : En 4 90 none mr_71 (P_71s5x σ0 By Nb Sp) 0 [(0, .ref 3), (1, .retAddr 11)] [] σ0 := by
  have hF0 : Fr [] σ0 σ0 := Fr_rfl
  obtain ⟨z2, h1, h3, h4⟩ := WT_peekI hσ0 tgz_3 (by decide +kernel : FT 3 1 = (0, 0, 4)) (by decide +kernel)
  obtain ⟨z6, h5, h7, h8⟩ := WT_peekI hσ0 tgz_3 (by decide +kernel : FT 3 3 = (0, 0, 1600)) (by decide +kernel)
  obtain ⟨z10, h9, h11, h12⟩ := WT_peekI hσ0 tgz_3 (by decide +kernel : FT 3 2 = (0, 0, 1600)) (by decide +kernel)
  have h13 : Imp (Sp.1 = 0) (tK By Nb Sp.2.2.1 = z2.toInt) := CT_t hC h1
  refine En_Ps 1 (pc' := 1) (lv' := [(0, .ref 3), (1, .retAddr 11)]) (st' := [.ref 3]) rfl ?_
  refine En_getK (j := 1) h1 rfl rfl rfl tgz_3 (by decide +kernel) ?_
  refine En_Ps 1 (pc' := 5) (lv' := [(0, .ref 3), (1, .retAddr 11)]) (st' := [.int ((Int32.ofInt 1)), .int z2]) rfl ?_
  refine En_icNe _ rfl (by decide : (Int32.ofInt 1).toInt = 1) rfl (fun h14 => ?_) (fun h14 => ?_)
  · refine En_Ps 1 (pc' := 25) (lv' := [(0, .ref 3), (1, .retAddr 11)]) (st' := [.int ((Int32.ofInt 0))]) rfl ?_
    refine En_top (by decide : (Int32.ofInt 0).toInt = 0) (fun z15 h16 => ?_)
    exact En_ret (v := some (.int z15)) rfl rfl (retZ rfl rfl (by omega) (by omega)) ⟨hσ0, hF0, z15, rfl, ⟨by omega, by omega, fun z => by have q1 := CT_t hC h1 z; have q2 := CT_fa hC h5 h9 z; have q := iW_0 (By := By) (Nb := Nb) (i := 5) (S := Sp) (by simp only [LWl]; omega); omega⟩⟩
  · refine En_Ps 1 (pc' := 9) (lv' := [(0, .ref 3), (1, .retAddr 11)]) (st' := [.ref 3]) rfl ?_
    refine En_getK (j := 3) h5 rfl rfl rfl tgz_3 (by decide +kernel) ?_
    refine En_Ps 1 (pc' := 13) (lv' := [(0, .ref 3), (1, .retAddr 11)]) (st' := [.ref 3, .int z6]) rfl ?_
    refine En_getK (j := 2) h9 rfl rfl rfl tgz_3 (by decide +kernel) ?_
    refine En_Ps 1 (pc' := 17) (lv' := [(0, .ref 3), (1, .retAddr 11)]) (st' := [.int ((z6 - z10))]) rfl ?_
    refine En_top (subI rfl rfl (by omega) (by omega)) (fun z17 h18 => ?_)
    refine En_Ps 1 (pc' := 18) (lv' := [(0, .ref 3), (1, .retAddr 11)]) (st' := [.retAddr 11, .int z17]) rfl ?_
    refine En_slen 5 5 rfl rfl (by decide) rfl ?_
    refine En_icEq _ rfl (by decide : (Int32.ofNat 5).toInt = 5) rfl (fun h19 => ?_) (fun h19 => ?_)
    · refine En_Ps 2 (pc' := 28) (lv' := [(2, .int ((Int32.ofInt 0))), (0, .ref 3), (1, .retAddr 11)]) (st' := []) rfl ?_
      have key28 : ∀ (n28 : Nat) (σ21 : SG) (y20 : Int32), WT σ21 → Fr [] σ0 σ21 → (σ21 3)[1]? = some (.int z2) → (σ21 3)[3]? = some (.int z6) → (σ21 3)[2]? = some (.int z10) → 0 ≤ y20.toInt → y20.toInt ≤ 5 → z6.toInt - y20.toInt < (n28 : Int) → Imp (Sp.1 = 0) (ISQ By Nb 5 Sp 1 y20.toInt) → En 4 90 none mr_71 (P_71s5x σ0 By Nb Sp) 28 [(0, .ref 3), (1, .retAddr 11), (2, .int y20)] [] σ21 := by
        intro n28
        induction n28 with
        | zero =>
          intro σ21 y20 h22 h23 h24 h25 h26 h27 h28 h29 h30
          exfalso; omega
        | succ n28 ih28 =>
          intro σ21 y20 h22 h23 h24 h25 h26 h27 h28 h29 h30
          refine En_Ps 2 (pc' := 30) (lv' := [(0, .ref 3), (1, .retAddr 11), (2, .int y20)]) (st' := [.retAddr 11, .int y20]) rfl ?_
          refine En_slen 5 5 rfl rfl (by decide) rfl ?_
          refine En_icGe _ rfl (by decide : (Int32.ofNat 5).toInt = 5) rfl (fun h31 => ?_) (fun h31 => ?_)
          · refine En_Ps 1 (pc' := 67) (lv' := [(0, .ref 3), (1, .retAddr 11), (2, .int y20)]) (st' := [.int ((Int32.ofInt 1))]) rfl ?_
            refine En_top (by decide : (Int32.ofInt 1).toInt = 1) (fun z32 h33 => ?_)
            exact En_ret (v := some (.int z32)) rfl rfl (retZ rfl rfl (by omega) (by omega)) ⟨h22, h23, z32, rfl, ⟨by omega, by omega, fun z => by have q := ISQ_x (Imp_m h30 z) (Or.inr (by simp only [LWl]; omega)); omega⟩⟩
          · refine En_Ps 1 (pc' := 37) (lv' := [(0, .ref 3), (1, .retAddr 11), (2, .int y20)]) (st' := [.ref 3]) rfl ?_
            refine En_getU (j := 0) (u := 1) (g' := 1) (q := 0) rfl rfl rfl tgz_3 (by decide +kernel) h22 (by decide +kernel) (by decide +kernel) (fun h34 => ?_)
            refine En_getU (j := 0) (u := 2) (g' := 2) (q := 0) rfl rfl rfl tgz_1 (by decide +kernel) h22 (by decide +kernel) (by decide +kernel) (fun h36 => ?_)
            refine En_Ps 1 (pc' := 44) (lv' := [(0, .ref 3), (1, .retAddr 11), (2, .int y20)]) (st' := [.ref 3, .ref 2]) rfl ?_
            refine En_getK (j := 2) h26 rfl rfl rfl tgz_3 (by decide +kernel) ?_
            refine En_Ps 2 (pc' := 49) (lv' := [(0, .ref 3), (1, .retAddr 11), (2, .int y20)]) (st' := [.int ((z10 + y20)), .ref 2]) rfl ?_
            refine En_top (addI rfl rfl (by omega) (by omega)) (fun z38 h39 => ?_)
            refine En_bald (l := (-128)) (u := 127) rfl rfl tgz_2 (by decide +kernel) h22 (by omega) (lnI (by decide +kernel : LN _ = 1600) (by omega)) (FTsgl (by decide +kernel)) (fun z41 h40 h42 h43 => ?_)
            refine En_Ps 2 (pc' := 52) (lv' := [(0, .ref 3), (1, .retAddr 11), (2, .int y20)]) (st' := [.int y20, .retAddr 11, .int z41]) rfl ?_
            refine En_scharX 5 5 rfl rfl rfl (by decide) (by omega) (by omega) rfl (fun z44 h45 h46 h47 => ?_)
            refine En_icEq _ rfl rfl rfl (fun h48 => ?_) (fun h48 => ?_)
            · refine En_Ps 1 (pc' := 63) (lv' := [(2, .int ((y20 + Int32.ofInt 1))), (0, .ref 3), (1, .retAddr 11)]) (st' := []) rfl ?_
              refine En_lv1 (addI rfl (by decide : (Int32.ofInt 1).toInt = 1) (by omega) (by omega)) (fun z49 h50 => ?_)
              refine En_Ps 1 (pc' := 28) (lv' := [(2, .int z49), (0, .ref 3), (1, .retAddr 11)]) (st' := []) rfl ?_
              refine En_lv (lv := [(0, .ref 3), (1, .retAddr 11), (2, .int z49)]) ⟨rfl, rfl, rfl, trivial⟩ ?_
              exact ih28 σ21 z49 h22 h23 h24 h25 h26 (by omega) (by omega) (by omega) (fun z => by have q1 := CT_t hC h1 z; have q2 := CT_fa hC h5 h9 z; exact ISQc_n (CT_fr hC h23 (by decide +kernel)) (Imp_m h30 z) (by simp only [LWl]; omega) (by omega) h40 h47 (by omega) (by omega))
            · refine En_Ps 1 (pc' := 59) (lv' := [(0, .ref 3), (1, .retAddr 11), (2, .int y20)]) (st' := [.int ((Int32.ofInt 0))]) rfl ?_
              refine En_top (by decide : (Int32.ofInt 0).toInt = 0) (fun z51 h52 => ?_)
              exact En_ret (v := some (.int z51)) rfl rfl (retZ rfl rfl (by omega) (by omega)) ⟨h22, h23, z51, rfl, ⟨by omega, by omega, fun z => by have q1 := CT_t hC h1 z; have q2 := CT_fa hC h5 h9 z; have q := ISQc_n (b' := 0) (CT_fr hC h23 (by decide +kernel)) (Imp_m h30 z) (by simp only [LWl]; omega) (by omega) h40 h47 rfl (Or.inr ⟨rfl, by omega⟩); have q2 := ISQ_x q (Or.inl rfl); omega⟩⟩
      have := (by decide : (Int32.ofInt 0).toInt = 0)
      refine En_lv (lv := [(0, .ref 3), (1, .retAddr 11), (2, .int ((Int32.ofInt 0)))]) ⟨rfl, rfl, rfl, trivial⟩ ?_
      exact key28 (Int.toNat (z6.toInt) + 1) σ0 ((Int32.ofInt 0)) hσ0 hF0 h1 h5 h9 (by omega) (by omega) (by omega) (fun z => by have q1 := CT_t hC h1 z; have q2 := CT_fa hC h5 h9 z; exact ISQc_s (by decide) z (by omega) (by simp only [LWl]; omega))
    · refine En_Ps 1 (pc' := 25) (lv' := [(0, .ref 3), (1, .retAddr 11)]) (st' := [.int ((Int32.ofInt 0))]) rfl ?_
      refine En_top (by decide : (Int32.ofInt 0).toInt = 0) (fun z53 h54 => ?_)
      exact En_ret (v := some (.int z53)) rfl rfl (retZ rfl rfl (by omega) (by omega)) ⟨hσ0, hF0, z53, rfl, ⟨by omega, by omega, fun z => by have q1 := CT_t hC h1 z; have q2 := CT_fa hC h5 h9 z; have q := iW_0 (By := By) (Nb := Nb) (i := 5) (S := Sp) (by simp only [LWl]; omega); omega⟩⟩
/-- DoorSchool$Reader.stands(Ljava/lang/String;)Z -/
abbrev P_71s6x (σ0 : SG) (By : Int → Int) (Nb : Int) (Sp : PS) : PO := fun v σ => WT σ ∧ Fr [] σ0 σ ∧ ∃ ret : Int32, v = some (.int ret) ∧ -ret.toInt ≤ 0 ∧ ret.toInt - 1 ≤ 0 ∧ Imp (Sp.1 = 0) (ret.toInt = iW By Nb 6 Sp)
set_option maxRecDepth 10000 in
set_option maxHeartbeats 4000000 in
theorem c_71s6x {By : Int → Int} {Nb : Int} {Sp : PS} (σ0 : SG) (hσ0 : WT σ0) (hC : CT By Nb σ0 Sp) : En 4 90 none mr_71 (P_71s6x σ0 By Nb Sp) 0 [(0, .ref 3), (1, .retAddr 13)] [] σ0 := by
  have hF0 : Fr [] σ0 σ0 := Fr_rfl
  obtain ⟨z2, h1, h3, h4⟩ := WT_peekI hσ0 tgz_3 (by decide +kernel : FT 3 1 = (0, 0, 4)) (by decide +kernel)
  obtain ⟨z6, h5, h7, h8⟩ := WT_peekI hσ0 tgz_3 (by decide +kernel : FT 3 3 = (0, 0, 1600)) (by decide +kernel)
  obtain ⟨z10, h9, h11, h12⟩ := WT_peekI hσ0 tgz_3 (by decide +kernel : FT 3 2 = (0, 0, 1600)) (by decide +kernel)
  have h13 : Imp (Sp.1 = 0) (tK By Nb Sp.2.2.1 = z2.toInt) := CT_t hC h1
  refine En_Ps 1 (pc' := 1) (lv' := [(0, .ref 3), (1, .retAddr 13)]) (st' := [.ref 3]) rfl ?_
  refine En_getK (j := 1) h1 rfl rfl rfl tgz_3 (by decide +kernel) ?_
  refine En_Ps 1 (pc' := 5) (lv' := [(0, .ref 3), (1, .retAddr 13)]) (st' := [.int ((Int32.ofInt 1)), .int z2]) rfl ?_
  refine En_icNe _ rfl (by decide : (Int32.ofInt 1).toInt = 1) rfl (fun h14 => ?_) (fun h14 => ?_)
  · refine En_Ps 1 (pc' := 25) (lv' := [(0, .ref 3), (1, .retAddr 13)]) (st' := [.int ((Int32.ofInt 0))]) rfl ?_
    refine En_top (by decide : (Int32.ofInt 0).toInt = 0) (fun z15 h16 => ?_)
    exact En_ret (v := some (.int z15)) rfl rfl (retZ rfl rfl (by omega) (by omega)) ⟨hσ0, hF0, z15, rfl, ⟨by omega, by omega, fun z => by have q1 := CT_t hC h1 z; have q2 := CT_fa hC h5 h9 z; have q := iW_0 (By := By) (Nb := Nb) (i := 6) (S := Sp) (by simp only [LWl]; omega); omega⟩⟩
  · refine En_Ps 1 (pc' := 9) (lv' := [(0, .ref 3), (1, .retAddr 13)]) (st' := [.ref 3]) rfl ?_
    refine En_getK (j := 3) h5 rfl rfl rfl tgz_3 (by decide +kernel) ?_
    refine En_Ps 1 (pc' := 13) (lv' := [(0, .ref 3), (1, .retAddr 13)]) (st' := [.ref 3, .int z6]) rfl ?_
    refine En_getK (j := 2) h9 rfl rfl rfl tgz_3 (by decide +kernel) ?_
    refine En_Ps 1 (pc' := 17) (lv' := [(0, .ref 3), (1, .retAddr 13)]) (st' := [.int ((z6 - z10))]) rfl ?_
    refine En_top (subI rfl rfl (by omega) (by omega)) (fun z17 h18 => ?_)
    refine En_Ps 1 (pc' := 18) (lv' := [(0, .ref 3), (1, .retAddr 13)]) (st' := [.retAddr 13, .int z17]) rfl ?_
    refine En_slen 6 6 rfl rfl (by decide) rfl ?_
    refine En_icEq _ rfl (by decide : (Int32.ofNat 6).toInt = 6) rfl (fun h19 => ?_) (fun h19 => ?_)
    · refine En_Ps 2 (pc' := 28) (lv' := [(2, .int ((Int32.ofInt 0))), (0, .ref 3), (1, .retAddr 13)]) (st' := []) rfl ?_
      have key28 : ∀ (n28 : Nat) (σ21 : SG) (y20 : Int32), WT σ21 → Fr [] σ0 σ21 → (σ21 3)[1]? = some (.int z2) → (σ21 3)[3]? = some (.int z6) → (σ21 3)[2]? = some (.int z10) → 0 ≤ y20.toInt → y20.toInt ≤ 6 → z6.toInt - y20.toInt < (n28 : Int) → Imp (Sp.1 = 0) (ISQ By Nb 6 Sp 1 y20.toInt) → En 4 90 none mr_71 (P_71s6x σ0 By Nb Sp) 28 [(0, .ref 3), (1, .retAddr 13), (2, .int y20)] [] σ21 := by
        intro n28
        induction n28 with
        | zero =>
          intro σ21 y20 h22 h23 h24 h25 h26 h27 h28 h29 h30
          exfalso; omega
        | succ n28 ih28 =>
          intro σ21 y20 h22 h23 h24 h25 h26 h27 h28 h29 h30
          refine En_Ps 2 (pc' := 30) (lv' := [(0, .ref 3), (1, .retAddr 13), (2, .int y20)]) (st' := [.retAddr 13, .int y20]) rfl ?_
          refine En_slen 6 6 rfl rfl (by decide) rfl ?_
          refine En_icGe _ rfl (by decide : (Int32.ofNat 6).toInt = 6) rfl (fun h31 => ?_) (fun h31 => ?_)
          · refine En_Ps 1 (pc' := 67) (lv' := [(0, .ref 3), (1, .retAddr 13), (2, .int y20)]) (st' := [.int ((Int32.ofInt 1))]) rfl ?_
            refine En_top (by decide : (Int32.ofInt 1).toInt = 1) (fun z32 h33 => ?_)
            exact En_ret (v := some (.int z32)) rfl rfl (retZ rfl rfl (by omega) (by omega)) ⟨h22, h23, z32, rfl, ⟨by omega, by omega, fun z => by have q := ISQ_x (Imp_m h30 z) (Or.inr (by simp only [LWl]; omega)); omega⟩⟩
          · refine En_Ps 1 (pc' := 37) (lv' := [(0, .ref 3), (1, .retAddr 13), (2, .int y20)]) (st' := [.ref 3]) rfl ?_
            refine En_getU (j := 0) (u := 1) (g' := 1) (q := 0) rfl rfl rfl tgz_3 (by decide +kernel) h22 (by decide +kernel) (by decide +kernel) (fun h34 => ?_)
            refine En_getU (j := 0) (u := 2) (g' := 2) (q := 0) rfl rfl rfl tgz_1 (by decide +kernel) h22 (by decide +kernel) (by decide +kernel) (fun h36 => ?_)
            refine En_Ps 1 (pc' := 44) (lv' := [(0, .ref 3), (1, .retAddr 13), (2, .int y20)]) (st' := [.ref 3, .ref 2]) rfl ?_
            refine En_getK (j := 2) h26 rfl rfl rfl tgz_3 (by decide +kernel) ?_
            refine En_Ps 2 (pc' := 49) (lv' := [(0, .ref 3), (1, .retAddr 13), (2, .int y20)]) (st' := [.int ((z10 + y20)), .ref 2]) rfl ?_
            refine En_top (addI rfl rfl (by omega) (by omega)) (fun z38 h39 => ?_)
            refine En_bald (l := (-128)) (u := 127) rfl rfl tgz_2 (by decide +kernel) h22 (by omega) (lnI (by decide +kernel : LN _ = 1600) (by omega)) (FTsgl (by decide +kernel)) (fun z41 h40 h42 h43 => ?_)
            refine En_Ps 2 (pc' := 52) (lv' := [(0, .ref 3), (1, .retAddr 13), (2, .int y20)]) (st' := [.int y20, .retAddr 13, .int z41]) rfl ?_
            refine En_scharX 6 6 rfl rfl rfl (by decide) (by omega) (by omega) rfl (fun z44 h45 h46 h47 => ?_)
            refine En_icEq _ rfl rfl rfl (fun h48 => ?_) (fun h48 => ?_)
            · refine En_Ps 1 (pc' := 63) (lv' := [(2, .int ((y20 + Int32.ofInt 1))), (0, .ref 3), (1, .retAddr 13)]) (st' := []) rfl ?_
              refine En_lv1 (addI rfl (by decide : (Int32.ofInt 1).toInt = 1) (by omega) (by omega)) (fun z49 h50 => ?_)
              refine En_Ps 1 (pc' := 28) (lv' := [(2, .int z49), (0, .ref 3), (1, .retAddr 13)]) (st' := []) rfl ?_
              refine En_lv (lv := [(0, .ref 3), (1, .retAddr 13), (2, .int z49)]) ⟨rfl, rfl, rfl, trivial⟩ ?_
              exact ih28 σ21 z49 h22 h23 h24 h25 h26 (by omega) (by omega) (by omega) (fun z => by have q1 := CT_t hC h1 z; have q2 := CT_fa hC h5 h9 z; exact ISQc_n (CT_fr hC h23 (by decide +kernel)) (Imp_m h30 z) (by simp only [LWl]; omega) (by omega) h40 h47 (by omega) (by omega))
            · refine En_Ps 1 (pc' := 59) (lv' := [(0, .ref 3), (1, .retAddr 13), (2, .int y20)]) (st' := [.int ((Int32.ofInt 0))]) rfl ?_
              refine En_top (by decide : (Int32.ofInt 0).toInt = 0) (fun z51 h52 => ?_)
              exact En_ret (v := some (.int z51)) rfl rfl (retZ rfl rfl (by omega) (by omega)) ⟨h22, h23, z51, rfl, ⟨by omega, by omega, fun z => by have q1 := CT_t hC h1 z; have q2 := CT_fa hC h5 h9 z; have q := ISQc_n (b' := 0) (CT_fr hC h23 (by decide +kernel)) (Imp_m h30 z) (by simp only [LWl]; omega) (by omega) h40 h47 rfl (Or.inr ⟨rfl, by omega⟩); have q2 := ISQ_x q (Or.inl rfl); omega⟩⟩
      have := (by decide : (Int32.ofInt 0).toInt = 0)
      refine En_lv (lv := [(0, .ref 3), (1, .retAddr 13), (2, .int ((Int32.ofInt 0)))]) ⟨rfl, rfl, rfl, trivial⟩ ?_
      exact key28 (Int.toNat (z6.toInt) + 1) σ0 ((Int32.ofInt 0)) hσ0 hF0 h1 h5 h9 (by omega) (by omega) (by omega) (fun z => by have q1 := CT_t hC h1 z; have q2 := CT_fa hC h5 h9 z; exact ISQc_s (by decide) z (by omega) (by simp only [LWl]; omega))
    · refine En_Ps 1 (pc' := 25) (lv' := [(0, .ref 3), (1, .retAddr 13)]) (st' := [.int ((Int32.ofInt 0))]) rfl ?_
      refine En_top (by decide : (Int32.ofInt 0).toInt = 0) (fun z53 h54 => ?_)
      exact En_ret (v := some (.int z53)) rfl rfl (retZ rfl rfl (by omega) (by omega)) ⟨hσ0, hF0, z53, rfl, ⟨by omega, by omega, fun z => by have q1 := CT_t hC h1 z; have q2 := CT_fa hC h5 h9 z; have q := iW_0 (By := By) (Nb := Nb) (i := 6) (S := Sp) (by simp only [LWl]; omega); omega⟩⟩
/-- DoorSchool$Reader.stands(Ljava/lang/String;)Z -/
abbrev P_71s7x (σ0 : SG) (By : Int → Int) (Nb : Int) (Sp : PS) : PO := fun v σ => WT σ ∧ Fr [] σ0 σ ∧ ∃ ret : Int32, v = some (.int ret) ∧ -ret.toInt ≤ 0 ∧ ret.toInt - 1 ≤ 0 ∧ Imp (Sp.1 = 0) (ret.toInt = iW By Nb 7 Sp)
set_option maxRecDepth 10000 in
set_option maxHeartbeats 4000000 in
theorem c_71s7x {By : Int → Int} {Nb : Int} {Sp : PS} (σ0 : SG) (hσ0 : WT σ0) (hC : CT By Nb σ0 Sp) : En 4 90 none mr_71 (P_71s7x σ0 By Nb Sp) 0 [(0, .ref 3), (1, .retAddr 15)] [] σ0 := by
  have hF0 : Fr [] σ0 σ0 := Fr_rfl
  obtain ⟨z2, h1, h3, h4⟩ := WT_peekI hσ0 tgz_3 (by decide +kernel : FT 3 1 = (0, 0, 4)) (by decide +kernel)
  obtain ⟨z6, h5, h7, h8⟩ := WT_peekI hσ0 tgz_3 (by decide +kernel : FT 3 3 = (0, 0, 1600)) (by decide +kernel)
  obtain ⟨z10, h9, h11, h12⟩ := WT_peekI hσ0 tgz_3 (by decide +kernel : FT 3 2 = (0, 0, 1600)) (by decide +kernel)
  have h13 : Imp (Sp.1 = 0) (tK By Nb Sp.2.2.1 = z2.toInt) := CT_t hC h1
  refine En_Ps 1 (pc' := 1) (lv' := [(0, .ref 3), (1, .retAddr 15)]) (st' := [.ref 3]) rfl ?_
  refine En_getK (j := 1) h1 rfl rfl rfl tgz_3 (by decide +kernel) ?_
  refine En_Ps 1 (pc' := 5) (lv' := [(0, .ref 3), (1, .retAddr 15)]) (st' := [.int ((Int32.ofInt 1)), .int z2]) rfl ?_
  refine En_icNe _ rfl (by decide : (Int32.ofInt 1).toInt = 1) rfl (fun h14 => ?_) (fun h14 => ?_)
  · refine En_Ps 1 (pc' := 25) (lv' := [(0, .ref 3), (1, .retAddr 15)]) (st' := [.int ((Int32.ofInt 0))]) rfl ?_
    refine En_top (by decide : (Int32.ofInt 0).toInt = 0) (fun z15 h16 => ?_)
    exact En_ret (v := some (.int z15)) rfl rfl (retZ rfl rfl (by omega) (by omega)) ⟨hσ0, hF0, z15, rfl, ⟨by omega, by omega, fun z => by have q1 := CT_t hC h1 z; have q2 := CT_fa hC h5 h9 z; have q := iW_0 (By := By) (Nb := Nb) (i := 7) (S := Sp) (by simp only [LWl]; omega); omega⟩⟩
  · refine En_Ps 1 (pc' := 9) (lv' := [(0, .ref 3), (1, .retAddr 15)]) (st' := [.ref 3]) rfl ?_
    refine En_getK (j := 3) h5 rfl rfl rfl tgz_3 (by decide +kernel) ?_
    refine En_Ps 1 (pc' := 13) (lv' := [(0, .ref 3), (1, .retAddr 15)]) (st' := [.ref 3, .int z6]) rfl ?_
    refine En_getK (j := 2) h9 rfl rfl rfl tgz_3 (by decide +kernel) ?_
    refine En_Ps 1 (pc' := 17) (lv' := [(0, .ref 3), (1, .retAddr 15)]) (st' := [.int ((z6 - z10))]) rfl ?_
    refine En_top (subI rfl rfl (by omega) (by omega)) (fun z17 h18 => ?_)
    refine En_Ps 1 (pc' := 18) (lv' := [(0, .ref 3), (1, .retAddr 15)]) (st' := [.retAddr 15, .int z17]) rfl ?_
    refine En_slen 7 7 rfl rfl (by decide) rfl ?_
    refine En_icEq _ rfl (by decide : (Int32.ofNat 7).toInt = 7) rfl (fun h19 => ?_) (fun h19 => ?_)
    · refine En_Ps 2 (pc' := 28) (lv' := [(2, .int ((Int32.ofInt 0))), (0, .ref 3), (1, .retAddr 15)]) (st' := []) rfl ?_
      have key28 : ∀ (n28 : Nat) (σ21 : SG) (y20 : Int32), WT σ21 → Fr [] σ0 σ21 → (σ21 3)[1]? = some (.int z2) → (σ21 3)[3]? = some (.int z6) → (σ21 3)[2]? = some (.int z10) → 0 ≤ y20.toInt → y20.toInt ≤ 7 → z6.toInt - y20.toInt < (n28 : Int) → Imp (Sp.1 = 0) (ISQ By Nb 7 Sp 1 y20.toInt) → En 4 90 none mr_71 (P_71s7x σ0 By Nb Sp) 28 [(0, .ref 3), (1, .retAddr 15), (2, .int y20)] [] σ21 := by
        intro n28
        induction n28 with
        | zero =>
          intro σ21 y20 h22 h23 h24 h25 h26 h27 h28 h29 h30
          exfalso; omega
        | succ n28 ih28 =>
          intro σ21 y20 h22 h23 h24 h25 h26 h27 h28 h29 h30
          refine En_Ps 2 (pc' := 30) (lv' := [(0, .ref 3), (1, .retAddr 15), (2, .int y20)]) (st' := [.retAddr 15, .int y20]) rfl ?_
          refine En_slen 7 7 rfl rfl (by decide) rfl ?_
          refine En_icGe _ rfl (by decide : (Int32.ofNat 7).toInt = 7) rfl (fun h31 => ?_) (fun h31 => ?_)
          · refine En_Ps 1 (pc' := 67) (lv' := [(0, .ref 3), (1, .retAddr 15), (2, .int y20)]) (st' := [.int ((Int32.ofInt 1))]) rfl ?_
            refine En_top (by decide : (Int32.ofInt 1).toInt = 1) (fun z32 h33 => ?_)
            exact En_ret (v := some (.int z32)) rfl rfl (retZ rfl rfl (by omega) (by omega)) ⟨h22, h23, z32, rfl, ⟨by omega, by omega, fun z => by have q := ISQ_x (Imp_m h30 z) (Or.inr (by simp only [LWl]; omega)); omega⟩⟩
          · refine En_Ps 1 (pc' := 37) (lv' := [(0, .ref 3), (1, .retAddr 15), (2, .int y20)]) (st' := [.ref 3]) rfl ?_
            refine En_getU (j := 0) (u := 1) (g' := 1) (q := 0) rfl rfl rfl tgz_3 (by decide +kernel) h22 (by decide +kernel) (by decide +kernel) (fun h34 => ?_)
            refine En_getU (j := 0) (u := 2) (g' := 2) (q := 0) rfl rfl rfl tgz_1 (by decide +kernel) h22 (by decide +kernel) (by decide +kernel) (fun h36 => ?_)
            refine En_Ps 1 (pc' := 44) (lv' := [(0, .ref 3), (1, .retAddr 15), (2, .int y20)]) (st' := [.ref 3, .ref 2]) rfl ?_
            refine En_getK (j := 2) h26 rfl rfl rfl tgz_3 (by decide +kernel) ?_
            refine En_Ps 2 (pc' := 49) (lv' := [(0, .ref 3), (1, .retAddr 15), (2, .int y20)]) (st' := [.int ((z10 + y20)), .ref 2]) rfl ?_
            refine En_top (addI rfl rfl (by omega) (by omega)) (fun z38 h39 => ?_)
            refine En_bald (l := (-128)) (u := 127) rfl rfl tgz_2 (by decide +kernel) h22 (by omega) (lnI (by decide +kernel : LN _ = 1600) (by omega)) (FTsgl (by decide +kernel)) (fun z41 h40 h42 h43 => ?_)
            refine En_Ps 2 (pc' := 52) (lv' := [(0, .ref 3), (1, .retAddr 15), (2, .int y20)]) (st' := [.int y20, .retAddr 15, .int z41]) rfl ?_
            refine En_scharX 7 7 rfl rfl rfl (by decide) (by omega) (by omega) rfl (fun z44 h45 h46 h47 => ?_)
            refine En_icEq _ rfl rfl rfl (fun h48 => ?_) (fun h48 => ?_)
            · refine En_Ps 1 (pc' := 63) (lv' := [(2, .int ((y20 + Int32.ofInt 1))), (0, .ref 3), (1, .retAddr 15)]) (st' := []) rfl ?_
              refine En_lv1 (addI rfl (by decide : (Int32.ofInt 1).toInt = 1) (by omega) (by omega)) (fun z49 h50 => ?_)
              refine En_Ps 1 (pc' := 28) (lv' := [(2, .int z49), (0, .ref 3), (1, .retAddr 15)]) (st' := []) rfl ?_
              refine En_lv (lv := [(0, .ref 3), (1, .retAddr 15), (2, .int z49)]) ⟨rfl, rfl, rfl, trivial⟩ ?_
              exact ih28 σ21 z49 h22 h23 h24 h25 h26 (by omega) (by omega) (by omega) (fun z => by have q1 := CT_t hC h1 z; have q2 := CT_fa hC h5 h9 z; exact ISQc_n (CT_fr hC h23 (by decide +kernel)) (Imp_m h30 z) (by simp only [LWl]; omega) (by omega) h40 h47 (by omega) (by omega))
            · refine En_Ps 1 (pc' := 59) (lv' := [(0, .ref 3), (1, .retAddr 15), (2, .int y20)]) (st' := [.int ((Int32.ofInt 0))]) rfl ?_
              refine En_top (by decide : (Int32.ofInt 0).toInt = 0) (fun z51 h52 => ?_)
              exact En_ret (v := some (.int z51)) rfl rfl (retZ rfl rfl (by omega) (by omega)) ⟨h22, h23, z51, rfl, ⟨by omega, by omega, fun z => by have q1 := CT_t hC h1 z; have q2 := CT_fa hC h5 h9 z; have q := ISQc_n (b' := 0) (CT_fr hC h23 (by decide +kernel)) (Imp_m h30 z) (by simp only [LWl]; omega) (by omega) h40 h47 rfl (Or.inr ⟨rfl, by omega⟩); have q2 := ISQ_x q (Or.inl rfl); omega⟩⟩
      have := (by decide : (Int32.ofInt 0).toInt = 0)
      refine En_lv (lv := [(0, .ref 3), (1, .retAddr 15), (2, .int ((Int32.ofInt 0)))]) ⟨rfl, rfl, rfl, trivial⟩ ?_
      exact key28 (Int.toNat (z6.toInt) + 1) σ0 ((Int32.ofInt 0)) hσ0 hF0 h1 h5 h9 (by omega) (by omega) (by omega) (fun z => by have q1 := CT_t hC h1 z; have q2 := CT_fa hC h5 h9 z; exact ISQc_s (by decide) z (by omega) (by simp only [LWl]; omega))
    · refine En_Ps 1 (pc' := 25) (lv' := [(0, .ref 3), (1, .retAddr 15)]) (st' := [.int ((Int32.ofInt 0))]) rfl ?_
      refine En_top (by decide : (Int32.ofInt 0).toInt = 0) (fun z53 h54 => ?_)
      exact En_ret (v := some (.int z53)) rfl rfl (retZ rfl rfl (by omega) (by omega)) ⟨hσ0, hF0, z53, rfl, ⟨by omega, by omega, fun z => by have q1 := CT_t hC h1 z; have q2 := CT_fa hC h5 h9 z; have q := iW_0 (By := By) (Nb := Nb) (i := 7) (S := Sp) (by simp only [LWl]; omega); omega⟩⟩
/-- DoorSchool$Reader.stands(Ljava/lang/String;)Z -/
abbrev P_71s8x (σ0 : SG) (By : Int → Int) (Nb : Int) (Sp : PS) : PO := fun v σ => WT σ ∧ Fr [] σ0 σ ∧ ∃ ret : Int32, v = some (.int ret) ∧ -ret.toInt ≤ 0 ∧ ret.toInt - 1 ≤ 0 ∧ Imp (Sp.1 = 0) (ret.toInt = iW By Nb 8 Sp)
set_option maxRecDepth 10000 in
set_option maxHeartbeats 4000000 in
theorem c_71s8x {By : Int → Int} {Nb : Int} {Sp : PS} (σ0 : SG) (hσ0 : WT σ0) (hC : CT By Nb σ0 Sp) : En 4 90 none mr_71 (P_71s8x σ0 By Nb Sp) 0 [(0, .ref 3), (1, .retAddr 17)] [] σ0 := by
  have hF0 : Fr [] σ0 σ0 := Fr_rfl
  obtain ⟨z2, h1, h3, h4⟩ := WT_peekI hσ0 tgz_3 (by decide +kernel : FT 3 1 = (0, 0, 4)) (by decide +kernel)
  obtain ⟨z6, h5, h7, h8⟩ := WT_peekI hσ0 tgz_3 (by decide +kernel : FT 3 3 = (0, 0, 1600)) (by decide +kernel)
  obtain ⟨z10, h9, h11, h12⟩ := WT_peekI hσ0 tgz_3 (by decide +kernel : FT 3 2 = (0, 0, 1600)) (by decide +kernel)
  have h13 : Imp (Sp.1 = 0) (tK By Nb Sp.2.2.1 = z2.toInt) := CT_t hC h1
  refine En_Ps 1 (pc' := 1) (lv' := [(0, .ref 3), (1, .retAddr 17)]) (st' := [.ref 3]) rfl ?_
  refine En_getK (j := 1) h1 rfl rfl rfl tgz_3 (by decide +kernel) ?_
  refine En_Ps 1 (pc' := 5) (lv' := [(0, .ref 3), (1, .retAddr 17)]) (st' := [.int ((Int32.ofInt 1)), .int z2]) rfl ?_
  refine En_icNe _ rfl (by decide : (Int32.ofInt 1).toInt = 1) rfl (fun h14 => ?_) (fun h14 => ?_)
  · refine En_Ps 1 (pc' := 25) (lv' := [(0, .ref 3), (1, .retAddr 17)]) (st' := [.int ((Int32.ofInt 0))]) rfl ?_
    refine En_top (by decide : (Int32.ofInt 0).toInt = 0) (fun z15 h16 => ?_)
    exact En_ret (v := some (.int z15)) rfl rfl (retZ rfl rfl (by omega) (by omega)) ⟨hσ0, hF0, z15, rfl, ⟨by omega, by omega, fun z => by have q1 := CT_t hC h1 z; have q2 := CT_fa hC h5 h9 z; have q := iW_0 (By := By) (Nb := Nb) (i := 8) (S := Sp) (by simp only [LWl]; omega); omega⟩⟩
  · refine En_Ps 1 (pc' := 9) (lv' := [(0, .ref 3), (1, .retAddr 17)]) (st' := [.ref 3]) rfl ?_
    refine En_getK (j := 3) h5 rfl rfl rfl tgz_3 (by decide +kernel) ?_
    refine En_Ps 1 (pc' := 13) (lv' := [(0, .ref 3), (1, .retAddr 17)]) (st' := [.ref 3, .int z6]) rfl ?_
    refine En_getK (j := 2) h9 rfl rfl rfl tgz_3 (by decide +kernel) ?_
    refine En_Ps 1 (pc' := 17) (lv' := [(0, .ref 3), (1, .retAddr 17)]) (st' := [.int ((z6 - z10))]) rfl ?_
    refine En_top (subI rfl rfl (by omega) (by omega)) (fun z17 h18 => ?_)
    refine En_Ps 1 (pc' := 18) (lv' := [(0, .ref 3), (1, .retAddr 17)]) (st' := [.retAddr 17, .int z17]) rfl ?_
    refine En_slen 8 4 rfl rfl (by decide) rfl ?_
    refine En_icEq _ rfl (by decide : (Int32.ofNat 4).toInt = 4) rfl (fun h19 => ?_) (fun h19 => ?_)
    · refine En_Ps 2 (pc' := 28) (lv' := [(2, .int ((Int32.ofInt 0))), (0, .ref 3), (1, .retAddr 17)]) (st' := []) rfl ?_
      have key28 : ∀ (n28 : Nat) (σ21 : SG) (y20 : Int32), WT σ21 → Fr [] σ0 σ21 → (σ21 3)[1]? = some (.int z2) → (σ21 3)[3]? = some (.int z6) → (σ21 3)[2]? = some (.int z10) → 0 ≤ y20.toInt → y20.toInt ≤ 4 → z6.toInt - y20.toInt < (n28 : Int) → Imp (Sp.1 = 0) (ISQ By Nb 8 Sp 1 y20.toInt) → En 4 90 none mr_71 (P_71s8x σ0 By Nb Sp) 28 [(0, .ref 3), (1, .retAddr 17), (2, .int y20)] [] σ21 := by
        intro n28
        induction n28 with
        | zero =>
          intro σ21 y20 h22 h23 h24 h25 h26 h27 h28 h29 h30
          exfalso; omega
        | succ n28 ih28 =>
          intro σ21 y20 h22 h23 h24 h25 h26 h27 h28 h29 h30
          refine En_Ps 2 (pc' := 30) (lv' := [(0, .ref 3), (1, .retAddr 17), (2, .int y20)]) (st' := [.retAddr 17, .int y20]) rfl ?_
          refine En_slen 8 4 rfl rfl (by decide) rfl ?_
          refine En_icGe _ rfl (by decide : (Int32.ofNat 4).toInt = 4) rfl (fun h31 => ?_) (fun h31 => ?_)
          · refine En_Ps 1 (pc' := 67) (lv' := [(0, .ref 3), (1, .retAddr 17), (2, .int y20)]) (st' := [.int ((Int32.ofInt 1))]) rfl ?_
            refine En_top (by decide : (Int32.ofInt 1).toInt = 1) (fun z32 h33 => ?_)
            exact En_ret (v := some (.int z32)) rfl rfl (retZ rfl rfl (by omega) (by omega)) ⟨h22, h23, z32, rfl, ⟨by omega, by omega, fun z => by have q := ISQ_x (Imp_m h30 z) (Or.inr (by simp only [LWl]; omega)); omega⟩⟩
          · refine En_Ps 1 (pc' := 37) (lv' := [(0, .ref 3), (1, .retAddr 17), (2, .int y20)]) (st' := [.ref 3]) rfl ?_
            refine En_getU (j := 0) (u := 1) (g' := 1) (q := 0) rfl rfl rfl tgz_3 (by decide +kernel) h22 (by decide +kernel) (by decide +kernel) (fun h34 => ?_)
            refine En_getU (j := 0) (u := 2) (g' := 2) (q := 0) rfl rfl rfl tgz_1 (by decide +kernel) h22 (by decide +kernel) (by decide +kernel) (fun h36 => ?_)
            refine En_Ps 1 (pc' := 44) (lv' := [(0, .ref 3), (1, .retAddr 17), (2, .int y20)]) (st' := [.ref 3, .ref 2]) rfl ?_
            refine En_getK (j := 2) h26 rfl rfl rfl tgz_3 (by decide +kernel) ?_
            refine En_Ps 2 (pc' := 49) (lv' := [(0, .ref 3), (1, .retAddr 17), (2, .int y20)]) (st' := [.int ((z10 + y20)), .ref 2]) rfl ?_
            refine En_top (addI rfl rfl (by omega) (by omega)) (fun z38 h39 => ?_)
            refine En_bald (l := (-128)) (u := 127) rfl rfl tgz_2 (by decide +kernel) h22 (by omega) (lnI (by decide +kernel : LN _ = 1600) (by omega)) (FTsgl (by decide +kernel)) (fun z41 h40 h42 h43 => ?_)
            refine En_Ps 2 (pc' := 52) (lv' := [(0, .ref 3), (1, .retAddr 17), (2, .int y20)]) (st' := [.int y20, .retAddr 17, .int z41]) rfl ?_
            refine En_scharX 8 4 rfl rfl rfl (by decide) (by omega) (by omega) rfl (fun z44 h45 h46 h47 => ?_)
            refine En_icEq _ rfl rfl rfl (fun h48 => ?_) (fun h48 => ?_)
            · refine En_Ps 1 (pc' := 63) (lv' := [(2, .int ((y20 + Int32.ofInt 1))), (0, .ref 3), (1, .retAddr 17)]) (st' := []) rfl ?_
              refine En_lv1 (addI rfl (by decide : (Int32.ofInt 1).toInt = 1) (by omega) (by omega)) (fun z49 h50 => ?_)
              refine En_Ps 1 (pc' := 28) (lv' := [(2, .int z49), (0, .ref 3), (1, .retAddr 17)]) (st' := []) rfl ?_
              refine En_lv (lv := [(0, .ref 3), (1, .retAddr 17), (2, .int z49)]) ⟨rfl, rfl, rfl, trivial⟩ ?_
              exact ih28 σ21 z49 h22 h23 h24 h25 h26 (by omega) (by omega) (by omega) (fun z => by have q1 := CT_t hC h1 z; have q2 := CT_fa hC h5 h9 z; exact ISQc_n (CT_fr hC h23 (by decide +kernel)) (Imp_m h30 z) (by simp only [LWl]; omega) (by omega) h40 h47 (by omega) (by omega))
            · refine En_Ps 1 (pc' := 59) (lv' := [(0, .ref 3), (1, .retAddr 17), (2, .int y20)]) (st' := [.int ((Int32.ofInt 0))]) rfl ?_
              refine En_top (by decide : (Int32.ofInt 0).toInt = 0) (fun z51 h52 => ?_)
              exact En_ret (v := some (.int z51)) rfl rfl (retZ rfl rfl (by omega) (by omega)) ⟨h22, h23, z51, rfl, ⟨by omega, by omega, fun z => by have q1 := CT_t hC h1 z; have q2 := CT_fa hC h5 h9 z; have q := ISQc_n (b' := 0) (CT_fr hC h23 (by decide +kernel)) (Imp_m h30 z) (by simp only [LWl]; omega) (by omega) h40 h47 rfl (Or.inr ⟨rfl, by omega⟩); have q2 := ISQ_x q (Or.inl rfl); omega⟩⟩
      have := (by decide : (Int32.ofInt 0).toInt = 0)
      refine En_lv (lv := [(0, .ref 3), (1, .retAddr 17), (2, .int ((Int32.ofInt 0)))]) ⟨rfl, rfl, rfl, trivial⟩ ?_
      exact key28 (Int.toNat (z6.toInt) + 1) σ0 ((Int32.ofInt 0)) hσ0 hF0 h1 h5 h9 (by omega) (by omega) (by omega) (fun z => by have q1 := CT_t hC h1 z; have q2 := CT_fa hC h5 h9 z; exact ISQc_s (by decide) z (by omega) (by simp only [LWl]; omega))
    · refine En_Ps 1 (pc' := 25) (lv' := [(0, .ref 3), (1, .retAddr 17)]) (st' := [.int ((Int32.ofInt 0))]) rfl ?_
      refine En_top (by decide : (Int32.ofInt 0).toInt = 0) (fun z53 h54 => ?_)
      exact En_ret (v := some (.int z53)) rfl rfl (retZ rfl rfl (by omega) (by omega)) ⟨hσ0, hF0, z53, rfl, ⟨by omega, by omega, fun z => by have q1 := CT_t hC h1 z; have q2 := CT_fa hC h5 h9 z; have q := iW_0 (By := By) (Nb := Nb) (i := 8) (S := Sp) (by simp only [LWl]; omega); omega⟩⟩
/-- DoorSchool$Reader.stands(Ljava/lang/String;)Z -/
abbrev P_71s9x (σ0 : SG) (By : Int → Int) (Nb : Int) (Sp : PS) : PO := fun v σ => WT σ ∧ Fr [] σ0 σ ∧ ∃ ret : Int32, v = some (.int ret) ∧ -ret.toInt ≤ 0 ∧ ret.toInt - 1 ≤ 0 ∧ Imp (Sp.1 = 0) (ret.toInt = iW By Nb 9 Sp)
set_option maxRecDepth 10000 in
set_option maxHeartbeats 4000000 in
theorem c_71s9x {By : Int → Int} {Nb : Int} {Sp : PS} (σ0 : SG) (hσ0 : WT σ0) (hC : CT By Nb σ0 Sp) : En 4 90 none mr_71 (P_71s9x σ0 By Nb Sp) 0 [(0, .ref 3), (1, .retAddr 19)] [] σ0 := by
  have hF0 : Fr [] σ0 σ0 := Fr_rfl
  obtain ⟨z2, h1, h3, h4⟩ := WT_peekI hσ0 tgz_3 (by decide +kernel : FT 3 1 = (0, 0, 4)) (by decide +kernel)
  obtain ⟨z6, h5, h7, h8⟩ := WT_peekI hσ0 tgz_3 (by decide +kernel : FT 3 3 = (0, 0, 1600)) (by decide +kernel)
  obtain ⟨z10, h9, h11, h12⟩ := WT_peekI hσ0 tgz_3 (by decide +kernel : FT 3 2 = (0, 0, 1600)) (by decide +kernel)
  have h13 : Imp (Sp.1 = 0) (tK By Nb Sp.2.2.1 = z2.toInt) := CT_t hC h1
  refine En_Ps 1 (pc' := 1) (lv' := [(0, .ref 3), (1, .retAddr 19)]) (st' := [.ref 3]) rfl ?_
  refine En_getK (j := 1) h1 rfl rfl rfl tgz_3 (by decide +kernel) ?_
  refine En_Ps 1 (pc' := 5) (lv' := [(0, .ref 3), (1, .retAddr 19)]) (st' := [.int ((Int32.ofInt 1)), .int z2]) rfl ?_
  refine En_icNe _ rfl (by decide : (Int32.ofInt 1).toInt = 1) rfl (fun h14 => ?_) (fun h14 => ?_)
  · refine En_Ps 1 (pc' := 25) (lv' := [(0, .ref 3), (1, .retAddr 19)]) (st' := [.int ((Int32.ofInt 0))]) rfl ?_
    refine En_top (by decide : (Int32.ofInt 0).toInt = 0) (fun z15 h16 => ?_)
    exact En_ret (v := some (.int z15)) rfl rfl (retZ rfl rfl (by omega) (by omega)) ⟨hσ0, hF0, z15, rfl, ⟨by omega, by omega, fun z => by have q1 := CT_t hC h1 z; have q2 := CT_fa hC h5 h9 z; have q := iW_0 (By := By) (Nb := Nb) (i := 9) (S := Sp) (by simp only [LWl]; omega); omega⟩⟩
  · refine En_Ps 1 (pc' := 9) (lv' := [(0, .ref 3), (1, .retAddr 19)]) (st' := [.ref 3]) rfl ?_
    refine En_getK (j := 3) h5 rfl rfl rfl tgz_3 (by decide +kernel) ?_
    refine En_Ps 1 (pc' := 13) (lv' := [(0, .ref 3), (1, .retAddr 19)]) (st' := [.ref 3, .int z6]) rfl ?_
    refine En_getK (j := 2) h9 rfl rfl rfl tgz_3 (by decide +kernel) ?_
    refine En_Ps 1 (pc' := 17) (lv' := [(0, .ref 3), (1, .retAddr 19)]) (st' := [.int ((z6 - z10))]) rfl ?_
    refine En_top (subI rfl rfl (by omega) (by omega)) (fun z17 h18 => ?_)
    refine En_Ps 1 (pc' := 18) (lv' := [(0, .ref 3), (1, .retAddr 19)]) (st' := [.retAddr 19, .int z17]) rfl ?_
    refine En_slen 9 5 rfl rfl (by decide) rfl ?_
    refine En_icEq _ rfl (by decide : (Int32.ofNat 5).toInt = 5) rfl (fun h19 => ?_) (fun h19 => ?_)
    · refine En_Ps 2 (pc' := 28) (lv' := [(2, .int ((Int32.ofInt 0))), (0, .ref 3), (1, .retAddr 19)]) (st' := []) rfl ?_
      have key28 : ∀ (n28 : Nat) (σ21 : SG) (y20 : Int32), WT σ21 → Fr [] σ0 σ21 → (σ21 3)[1]? = some (.int z2) → (σ21 3)[3]? = some (.int z6) → (σ21 3)[2]? = some (.int z10) → 0 ≤ y20.toInt → y20.toInt ≤ 5 → z6.toInt - y20.toInt < (n28 : Int) → Imp (Sp.1 = 0) (ISQ By Nb 9 Sp 1 y20.toInt) → En 4 90 none mr_71 (P_71s9x σ0 By Nb Sp) 28 [(0, .ref 3), (1, .retAddr 19), (2, .int y20)] [] σ21 := by
        intro n28
        induction n28 with
        | zero =>
          intro σ21 y20 h22 h23 h24 h25 h26 h27 h28 h29 h30
          exfalso; omega
        | succ n28 ih28 =>
          intro σ21 y20 h22 h23 h24 h25 h26 h27 h28 h29 h30
          refine En_Ps 2 (pc' := 30) (lv' := [(0, .ref 3), (1, .retAddr 19), (2, .int y20)]) (st' := [.retAddr 19, .int y20]) rfl ?_
          refine En_slen 9 5 rfl rfl (by decide) rfl ?_
          refine En_icGe _ rfl (by decide : (Int32.ofNat 5).toInt = 5) rfl (fun h31 => ?_) (fun h31 => ?_)
          · refine En_Ps 1 (pc' := 67) (lv' := [(0, .ref 3), (1, .retAddr 19), (2, .int y20)]) (st' := [.int ((Int32.ofInt 1))]) rfl ?_
            refine En_top (by decide : (Int32.ofInt 1).toInt = 1) (fun z32 h33 => ?_)
            exact En_ret (v := some (.int z32)) rfl rfl (retZ rfl rfl (by omega) (by omega)) ⟨h22, h23, z32, rfl, ⟨by omega, by omega, fun z => by have q := ISQ_x (Imp_m h30 z) (Or.inr (by simp only [LWl]; omega)); omega⟩⟩
          · refine En_Ps 1 (pc' := 37) (lv' := [(0, .ref 3), (1, .retAddr 19), (2, .int y20)]) (st' := [.ref 3]) rfl ?_
            refine En_getU (j := 0) (u := 1) (g' := 1) (q := 0) rfl rfl rfl tgz_3 (by decide +kernel) h22 (by decide +kernel) (by decide +kernel) (fun h34 => ?_)
            refine En_getU (j := 0) (u := 2) (g' := 2) (q := 0) rfl rfl rfl tgz_1 (by decide +kernel) h22 (by decide +kernel) (by decide +kernel) (fun h36 => ?_)
            refine En_Ps 1 (pc' := 44) (lv' := [(0, .ref 3), (1, .retAddr 19), (2, .int y20)]) (st' := [.ref 3, .ref 2]) rfl ?_
            refine En_getK (j := 2) h26 rfl rfl rfl tgz_3 (by decide +kernel) ?_
            refine En_Ps 2 (pc' := 49) (lv' := [(0, .ref 3), (1, .retAddr 19), (2, .int y20)]) (st' := [.int ((z10 + y20)), .ref 2]) rfl ?_
            refine En_top (addI rfl rfl (by omega) (by omega)) (fun z38 h39 => ?_)
            refine En_bald (l := (-128)) (u := 127) rfl rfl tgz_2 (by decide +kernel) h22 (by omega) (lnI (by decide +kernel : LN _ = 1600) (by omega)) (FTsgl (by decide +kernel)) (fun z41 h40 h42 h43 => ?_)
            refine En_Ps 2 (pc' := 52) (lv' := [(0, .ref 3), (1, .retAddr 19), (2, .int y20)]) (st' := [.int y20, .retAddr 19, .int z41]) rfl ?_
            refine En_scharX 9 5 rfl rfl rfl (by decide) (by omega) (by omega) rfl (fun z44 h45 h46 h47 => ?_)
            refine En_icEq _ rfl rfl rfl (fun h48 => ?_) (fun h48 => ?_)
            · refine En_Ps 1 (pc' := 63) (lv' := [(2, .int ((y20 + Int32.ofInt 1))), (0, .ref 3), (1, .retAddr 19)]) (st' := []) rfl ?_
              refine En_lv1 (addI rfl (by decide : (Int32.ofInt 1).toInt = 1) (by omega) (by omega)) (fun z49 h50 => ?_)
              refine En_Ps 1 (pc' := 28) (lv' := [(2, .int z49), (0, .ref 3), (1, .retAddr 19)]) (st' := []) rfl ?_
              refine En_lv (lv := [(0, .ref 3), (1, .retAddr 19), (2, .int z49)]) ⟨rfl, rfl, rfl, trivial⟩ ?_
              exact ih28 σ21 z49 h22 h23 h24 h25 h26 (by omega) (by omega) (by omega) (fun z => by have q1 := CT_t hC h1 z; have q2 := CT_fa hC h5 h9 z; exact ISQc_n (CT_fr hC h23 (by decide +kernel)) (Imp_m h30 z) (by simp only [LWl]; omega) (by omega) h40 h47 (by omega) (by omega))
            · refine En_Ps 1 (pc' := 59) (lv' := [(0, .ref 3), (1, .retAddr 19), (2, .int y20)]) (st' := [.int ((Int32.ofInt 0))]) rfl ?_
              refine En_top (by decide : (Int32.ofInt 0).toInt = 0) (fun z51 h52 => ?_)
              exact En_ret (v := some (.int z51)) rfl rfl (retZ rfl rfl (by omega) (by omega)) ⟨h22, h23, z51, rfl, ⟨by omega, by omega, fun z => by have q1 := CT_t hC h1 z; have q2 := CT_fa hC h5 h9 z; have q := ISQc_n (b' := 0) (CT_fr hC h23 (by decide +kernel)) (Imp_m h30 z) (by simp only [LWl]; omega) (by omega) h40 h47 rfl (Or.inr ⟨rfl, by omega⟩); have q2 := ISQ_x q (Or.inl rfl); omega⟩⟩
      have := (by decide : (Int32.ofInt 0).toInt = 0)
      refine En_lv (lv := [(0, .ref 3), (1, .retAddr 19), (2, .int ((Int32.ofInt 0)))]) ⟨rfl, rfl, rfl, trivial⟩ ?_
      exact key28 (Int.toNat (z6.toInt) + 1) σ0 ((Int32.ofInt 0)) hσ0 hF0 h1 h5 h9 (by omega) (by omega) (by omega) (fun z => by have q1 := CT_t hC h1 z; have q2 := CT_fa hC h5 h9 z; exact ISQc_s (by decide) z (by omega) (by simp only [LWl]; omega))
    · refine En_Ps 1 (pc' := 25) (lv' := [(0, .ref 3), (1, .retAddr 19)]) (st' := [.int ((Int32.ofInt 0))]) rfl ?_
      refine En_top (by decide : (Int32.ofInt 0).toInt = 0) (fun z53 h54 => ?_)
      exact En_ret (v := some (.int z53)) rfl rfl (retZ rfl rfl (by omega) (by omega)) ⟨hσ0, hF0, z53, rfl, ⟨by omega, by omega, fun z => by have q1 := CT_t hC h1 z; have q2 := CT_fa hC h5 h9 z; have q := iW_0 (By := By) (Nb := Nb) (i := 9) (S := Sp) (by simp only [LWl]; omega); omega⟩⟩
/-- DoorSchool$Reader.stands(Ljava/lang/String;)Z -/
abbrev P_71s10x (σ0 : SG) (By : Int → Int) (Nb : Int) (Sp : PS) : PO := fun v σ => WT σ ∧ Fr [] σ0 σ ∧ ∃ ret : Int32, v = some (.int ret) ∧ -ret.toInt ≤ 0 ∧ ret.toInt - 1 ≤ 0 ∧ Imp (Sp.1 = 0) (ret.toInt = iW By Nb 10 Sp)
set_option maxRecDepth 10000 in
set_option maxHeartbeats 4000000 in
theorem c_71s10x {By : Int → Int} {Nb : Int} {Sp : PS} (σ0 : SG) (hσ0 : WT σ0) (hC : CT By Nb σ0 Sp) : En 4 90 none mr_71 (P_71s10x σ0 By Nb Sp) 0 [(0, .ref 3), (1, .retAddr 21)] [] σ0 := by
  have hF0 : Fr [] σ0 σ0 := Fr_rfl
  obtain ⟨z2, h1, h3, h4⟩ := WT_peekI hσ0 tgz_3 (by decide +kernel : FT 3 1 = (0, 0, 4)) (by decide +kernel)
  obtain ⟨z6, h5, h7, h8⟩ := WT_peekI hσ0 tgz_3 (by decide +kernel : FT 3 3 = (0, 0, 1600)) (by decide +kernel)
  obtain ⟨z10, h9, h11, h12⟩ := WT_peekI hσ0 tgz_3 (by decide +kernel : FT 3 2 = (0, 0, 1600)) (by decide +kernel)
  have h13 : Imp (Sp.1 = 0) (tK By Nb Sp.2.2.1 = z2.toInt) := CT_t hC h1
  refine En_Ps 1 (pc' := 1) (lv' := [(0, .ref 3), (1, .retAddr 21)]) (st' := [.ref 3]) rfl ?_
  refine En_getK (j := 1) h1 rfl rfl rfl tgz_3 (by decide +kernel) ?_
  refine En_Ps 1 (pc' := 5) (lv' := [(0, .ref 3), (1, .retAddr 21)]) (st' := [.int ((Int32.ofInt 1)), .int z2]) rfl ?_
  refine En_icNe _ rfl (by decide : (Int32.ofInt 1).toInt = 1) rfl (fun h14 => ?_) (fun h14 => ?_)
  · refine En_Ps 1 (pc' := 25) (lv' := [(0, .ref 3), (1, .retAddr 21)]) (st' := [.int ((Int32.ofInt 0))]) rfl ?_
    refine En_top (by decide : (Int32.ofInt 0).toInt = 0) (fun z15 h16 => ?_)
    exact En_ret (v := some (.int z15)) rfl rfl (retZ rfl rfl (by omega) (by omega)) ⟨hσ0, hF0, z15, rfl, ⟨by omega, by omega, fun z => by have q1 := CT_t hC h1 z; have q2 := CT_fa hC h5 h9 z; have q := iW_0 (By := By) (Nb := Nb) (i := 10) (S := Sp) (by simp only [LWl]; omega); omega⟩⟩
  · refine En_Ps 1 (pc' := 9) (lv' := [(0, .ref 3), (1, .retAddr 21)]) (st' := [.ref 3]) rfl ?_
    refine En_getK (j := 3) h5 rfl rfl rfl tgz_3 (by decide +kernel) ?_
    refine En_Ps 1 (pc' := 13) (lv' := [(0, .ref 3), (1, .retAddr 21)]) (st' := [.ref 3, .int z6]) rfl ?_
    refine En_getK (j := 2) h9 rfl rfl rfl tgz_3 (by decide +kernel) ?_
    refine En_Ps 1 (pc' := 17) (lv' := [(0, .ref 3), (1, .retAddr 21)]) (st' := [.int ((z6 - z10))]) rfl ?_
    refine En_top (subI rfl rfl (by omega) (by omega)) (fun z17 h18 => ?_)
    refine En_Ps 1 (pc' := 18) (lv' := [(0, .ref 3), (1, .retAddr 21)]) (st' := [.retAddr 21, .int z17]) rfl ?_
    refine En_slen 10 6 rfl rfl (by decide) rfl ?_
    refine En_icEq _ rfl (by decide : (Int32.ofNat 6).toInt = 6) rfl (fun h19 => ?_) (fun h19 => ?_)
    · refine En_Ps 2 (pc' := 28) (lv' := [(2, .int ((Int32.ofInt 0))), (0, .ref 3), (1, .retAddr 21)]) (st' := []) rfl ?_
      have key28 : ∀ (n28 : Nat) (σ21 : SG) (y20 : Int32), WT σ21 → Fr [] σ0 σ21 → (σ21 3)[1]? = some (.int z2) → (σ21 3)[3]? = some (.int z6) → (σ21 3)[2]? = some (.int z10) → 0 ≤ y20.toInt → y20.toInt ≤ 6 → z6.toInt - y20.toInt < (n28 : Int) → Imp (Sp.1 = 0) (ISQ By Nb 10 Sp 1 y20.toInt) → En 4 90 none mr_71 (P_71s10x σ0 By Nb Sp) 28 [(0, .ref 3), (1, .retAddr 21), (2, .int y20)] [] σ21 := by
        intro n28
        induction n28 with
        | zero =>
          intro σ21 y20 h22 h23 h24 h25 h26 h27 h28 h29 h30
          exfalso; omega
        | succ n28 ih28 =>
          intro σ21 y20 h22 h23 h24 h25 h26 h27 h28 h29 h30
          refine En_Ps 2 (pc' := 30) (lv' := [(0, .ref 3), (1, .retAddr 21), (2, .int y20)]) (st' := [.retAddr 21, .int y20]) rfl ?_
          refine En_slen 10 6 rfl rfl (by decide) rfl ?_
          refine En_icGe _ rfl (by decide : (Int32.ofNat 6).toInt = 6) rfl (fun h31 => ?_) (fun h31 => ?_)
          · refine En_Ps 1 (pc' := 67) (lv' := [(0, .ref 3), (1, .retAddr 21), (2, .int y20)]) (st' := [.int ((Int32.ofInt 1))]) rfl ?_
            refine En_top (by decide : (Int32.ofInt 1).toInt = 1) (fun z32 h33 => ?_)
            exact En_ret (v := some (.int z32)) rfl rfl (retZ rfl rfl (by omega) (by omega)) ⟨h22, h23, z32, rfl, ⟨by omega, by omega, fun z => by have q := ISQ_x (Imp_m h30 z) (Or.inr (by simp only [LWl]; omega)); omega⟩⟩
          · refine En_Ps 1 (pc' := 37) (lv' := [(0, .ref 3), (1, .retAddr 21), (2, .int y20)]) (st' := [.ref 3]) rfl ?_
            refine En_getU (j := 0) (u := 1) (g' := 1) (q := 0) rfl rfl rfl tgz_3 (by decide +kernel) h22 (by decide +kernel) (by decide +kernel) (fun h34 => ?_)
            refine En_getU (j := 0) (u := 2) (g' := 2) (q := 0) rfl rfl rfl tgz_1 (by decide +kernel) h22 (by decide +kernel) (by decide +kernel) (fun h36 => ?_)
            refine En_Ps 1 (pc' := 44) (lv' := [(0, .ref 3), (1, .retAddr 21), (2, .int y20)]) (st' := [.ref 3, .ref 2]) rfl ?_
            refine En_getK (j := 2) h26 rfl rfl rfl tgz_3 (by decide +kernel) ?_
            refine En_Ps 2 (pc' := 49) (lv' := [(0, .ref 3), (1, .retAddr 21), (2, .int y20)]) (st' := [.int ((z10 + y20)), .ref 2]) rfl ?_
            refine En_top (addI rfl rfl (by omega) (by omega)) (fun z38 h39 => ?_)
            refine En_bald (l := (-128)) (u := 127) rfl rfl tgz_2 (by decide +kernel) h22 (by omega) (lnI (by decide +kernel : LN _ = 1600) (by omega)) (FTsgl (by decide +kernel)) (fun z41 h40 h42 h43 => ?_)
            refine En_Ps 2 (pc' := 52) (lv' := [(0, .ref 3), (1, .retAddr 21), (2, .int y20)]) (st' := [.int y20, .retAddr 21, .int z41]) rfl ?_
            refine En_scharX 10 6 rfl rfl rfl (by decide) (by omega) (by omega) rfl (fun z44 h45 h46 h47 => ?_)
            refine En_icEq _ rfl rfl rfl (fun h48 => ?_) (fun h48 => ?_)
            · refine En_Ps 1 (pc' := 63) (lv' := [(2, .int ((y20 + Int32.ofInt 1))), (0, .ref 3), (1, .retAddr 21)]) (st' := []) rfl ?_
              refine En_lv1 (addI rfl (by decide : (Int32.ofInt 1).toInt = 1) (by omega) (by omega)) (fun z49 h50 => ?_)
              refine En_Ps 1 (pc' := 28) (lv' := [(2, .int z49), (0, .ref 3), (1, .retAddr 21)]) (st' := []) rfl ?_
              refine En_lv (lv := [(0, .ref 3), (1, .retAddr 21), (2, .int z49)]) ⟨rfl, rfl, rfl, trivial⟩ ?_
              exact ih28 σ21 z49 h22 h23 h24 h25 h26 (by omega) (by omega) (by omega) (fun z => by have q1 := CT_t hC h1 z; have q2 := CT_fa hC h5 h9 z; exact ISQc_n (CT_fr hC h23 (by decide +kernel)) (Imp_m h30 z) (by simp only [LWl]; omega) (by omega) h40 h47 (by omega) (by omega))
            · refine En_Ps 1 (pc' := 59) (lv' := [(0, .ref 3), (1, .retAddr 21), (2, .int y20)]) (st' := [.int ((Int32.ofInt 0))]) rfl ?_
              refine En_top (by decide : (Int32.ofInt 0).toInt = 0) (fun z51 h52 => ?_)
              exact En_ret (v := some (.int z51)) rfl rfl (retZ rfl rfl (by omega) (by omega)) ⟨h22, h23, z51, rfl, ⟨by omega, by omega, fun z => by have q1 := CT_t hC h1 z; have q2 := CT_fa hC h5 h9 z; have q := ISQc_n (b' := 0) (CT_fr hC h23 (by decide +kernel)) (Imp_m h30 z) (by simp only [LWl]; omega) (by omega) h40 h47 rfl (Or.inr ⟨rfl, by omega⟩); have q2 := ISQ_x q (Or.inl rfl); omega⟩⟩
      have := (by decide : (Int32.ofInt 0).toInt = 0)
      refine En_lv (lv := [(0, .ref 3), (1, .retAddr 21), (2, .int ((Int32.ofInt 0)))]) ⟨rfl, rfl, rfl, trivial⟩ ?_
      exact key28 (Int.toNat (z6.toInt) + 1) σ0 ((Int32.ofInt 0)) hσ0 hF0 h1 h5 h9 (by omega) (by omega) (by omega) (fun z => by have q1 := CT_t hC h1 z; have q2 := CT_fa hC h5 h9 z; exact ISQc_s (by decide) z (by omega) (by simp only [LWl]; omega))
    · refine En_Ps 1 (pc' := 25) (lv' := [(0, .ref 3), (1, .retAddr 21)]) (st' := [.int ((Int32.ofInt 0))]) rfl ?_
      refine En_top (by decide : (Int32.ofInt 0).toInt = 0) (fun z53 h54 => ?_)
      exact En_ret (v := some (.int z53)) rfl rfl (retZ rfl rfl (by omega) (by omega)) ⟨hσ0, hF0, z53, rfl, ⟨by omega, by omega, fun z => by have q1 := CT_t hC h1 z; have q2 := CT_fa hC h5 h9 z; have q := iW_0 (By := By) (Nb := Nb) (i := 10) (S := Sp) (by simp only [LWl]; omega); omega⟩⟩
/-- DoorSchool$Reader.stands(Ljava/lang/String;)Z -/
abbrev P_71s11x (σ0 : SG) (By : Int → Int) (Nb : Int) (Sp : PS) : PO := fun v σ => WT σ ∧ Fr [] σ0 σ ∧ ∃ ret : Int32, v = some (.int ret) ∧ -ret.toInt ≤ 0 ∧ ret.toInt - 1 ≤ 0 ∧ Imp (Sp.1 = 0) (ret.toInt = iW By Nb 11 Sp)
set_option maxRecDepth 10000 in
set_option maxHeartbeats 4000000 in
theorem c_71s11x {By : Int → Int} {Nb : Int} {Sp : PS} (σ0 : SG) (hσ0 : WT σ0) (hC : CT By Nb σ0 Sp) : En 4 90 none mr_71 (P_71s11x σ0 By Nb Sp) 0 [(0, .ref 3), (1, .retAddr 23)] [] σ0 := by
  have hF0 : Fr [] σ0 σ0 := Fr_rfl
  obtain ⟨z2, h1, h3, h4⟩ := WT_peekI hσ0 tgz_3 (by decide +kernel : FT 3 1 = (0, 0, 4)) (by decide +kernel)
  obtain ⟨z6, h5, h7, h8⟩ := WT_peekI hσ0 tgz_3 (by decide +kernel : FT 3 3 = (0, 0, 1600)) (by decide +kernel)
  obtain ⟨z10, h9, h11, h12⟩ := WT_peekI hσ0 tgz_3 (by decide +kernel : FT 3 2 = (0, 0, 1600)) (by decide +kernel)
  have h13 : Imp (Sp.1 = 0) (tK By Nb Sp.2.2.1 = z2.toInt) := CT_t hC h1
  refine En_Ps 1 (pc' := 1) (lv' := [(0, .ref 3), (1, .retAddr 23)]) (st' := [.ref 3]) rfl ?_
  refine En_getK (j := 1) h1 rfl rfl rfl tgz_3 (by decide +kernel) ?_
  refine En_Ps 1 (pc' := 5) (lv' := [(0, .ref 3), (1, .retAddr 23)]) (st' := [.int ((Int32.ofInt 1)), .int z2]) rfl ?_
  refine En_icNe _ rfl (by decide : (Int32.ofInt 1).toInt = 1) rfl (fun h14 => ?_) (fun h14 => ?_)
  · refine En_Ps 1 (pc' := 25) (lv' := [(0, .ref 3), (1, .retAddr 23)]) (st' := [.int ((Int32.ofInt 0))]) rfl ?_
    refine En_top (by decide : (Int32.ofInt 0).toInt = 0) (fun z15 h16 => ?_)
    exact En_ret (v := some (.int z15)) rfl rfl (retZ rfl rfl (by omega) (by omega)) ⟨hσ0, hF0, z15, rfl, ⟨by omega, by omega, fun z => by have q1 := CT_t hC h1 z; have q2 := CT_fa hC h5 h9 z; have q := iW_0 (By := By) (Nb := Nb) (i := 11) (S := Sp) (by simp only [LWl]; omega); omega⟩⟩
  · refine En_Ps 1 (pc' := 9) (lv' := [(0, .ref 3), (1, .retAddr 23)]) (st' := [.ref 3]) rfl ?_
    refine En_getK (j := 3) h5 rfl rfl rfl tgz_3 (by decide +kernel) ?_
    refine En_Ps 1 (pc' := 13) (lv' := [(0, .ref 3), (1, .retAddr 23)]) (st' := [.ref 3, .int z6]) rfl ?_
    refine En_getK (j := 2) h9 rfl rfl rfl tgz_3 (by decide +kernel) ?_
    refine En_Ps 1 (pc' := 17) (lv' := [(0, .ref 3), (1, .retAddr 23)]) (st' := [.int ((z6 - z10))]) rfl ?_
    refine En_top (subI rfl rfl (by omega) (by omega)) (fun z17 h18 => ?_)
    refine En_Ps 1 (pc' := 18) (lv' := [(0, .ref 3), (1, .retAddr 23)]) (st' := [.retAddr 23, .int z17]) rfl ?_
    refine En_slen 11 8 rfl rfl (by decide) rfl ?_
    refine En_icEq _ rfl (by decide : (Int32.ofNat 8).toInt = 8) rfl (fun h19 => ?_) (fun h19 => ?_)
    · refine En_Ps 2 (pc' := 28) (lv' := [(2, .int ((Int32.ofInt 0))), (0, .ref 3), (1, .retAddr 23)]) (st' := []) rfl ?_
      have key28 : ∀ (n28 : Nat) (σ21 : SG) (y20 : Int32), WT σ21 → Fr [] σ0 σ21 → (σ21 3)[1]? = some (.int z2) → (σ21 3)[3]? = some (.int z6) → (σ21 3)[2]? = some (.int z10) → 0 ≤ y20.toInt → y20.toInt ≤ 8 → z6.toInt - y20.toInt < (n28 : Int) → Imp (Sp.1 = 0) (ISQ By Nb 11 Sp 1 y20.toInt) → En 4 90 none mr_71 (P_71s11x σ0 By Nb Sp) 28 [(0, .ref 3), (1, .retAddr 23), (2, .int y20)] [] σ21 := by
        intro n28
        induction n28 with
        | zero =>
          intro σ21 y20 h22 h23 h24 h25 h26 h27 h28 h29 h30
          exfalso; omega
        | succ n28 ih28 =>
          intro σ21 y20 h22 h23 h24 h25 h26 h27 h28 h29 h30
          refine En_Ps 2 (pc' := 30) (lv' := [(0, .ref 3), (1, .retAddr 23), (2, .int y20)]) (st' := [.retAddr 23, .int y20]) rfl ?_
          refine En_slen 11 8 rfl rfl (by decide) rfl ?_
          refine En_icGe _ rfl (by decide : (Int32.ofNat 8).toInt = 8) rfl (fun h31 => ?_) (fun h31 => ?_)
          · refine En_Ps 1 (pc' := 67) (lv' := [(0, .ref 3), (1, .retAddr 23), (2, .int y20)]) (st' := [.int ((Int32.ofInt 1))]) rfl ?_
            refine En_top (by decide : (Int32.ofInt 1).toInt = 1) (fun z32 h33 => ?_)
            exact En_ret (v := some (.int z32)) rfl rfl (retZ rfl rfl (by omega) (by omega)) ⟨h22, h23, z32, rfl, ⟨by omega, by omega, fun z => by have q := ISQ_x (Imp_m h30 z) (Or.inr (by simp only [LWl]; omega)); omega⟩⟩
          · refine En_Ps 1 (pc' := 37) (lv' := [(0, .ref 3), (1, .retAddr 23), (2, .int y20)]) (st' := [.ref 3]) rfl ?_
            refine En_getU (j := 0) (u := 1) (g' := 1) (q := 0) rfl rfl rfl tgz_3 (by decide +kernel) h22 (by decide +kernel) (by decide +kernel) (fun h34 => ?_)
            refine En_getU (j := 0) (u := 2) (g' := 2) (q := 0) rfl rfl rfl tgz_1 (by decide +kernel) h22 (by decide +kernel) (by decide +kernel) (fun h36 => ?_)
            refine En_Ps 1 (pc' := 44) (lv' := [(0, .ref 3), (1, .retAddr 23), (2, .int y20)]) (st' := [.ref 3, .ref 2]) rfl ?_
            refine En_getK (j := 2) h26 rfl rfl rfl tgz_3 (by decide +kernel) ?_
            refine En_Ps 2 (pc' := 49) (lv' := [(0, .ref 3), (1, .retAddr 23), (2, .int y20)]) (st' := [.int ((z10 + y20)), .ref 2]) rfl ?_
            refine En_top (addI rfl rfl (by omega) (by omega)) (fun z38 h39 => ?_)
            refine En_bald (l := (-128)) (u := 127) rfl rfl tgz_2 (by decide +kernel) h22 (by omega) (lnI (by decide +kernel : LN _ = 1600) (by omega)) (FTsgl (by decide +kernel)) (fun z41 h40 h42 h43 => ?_)
            refine En_Ps 2 (pc' := 52) (lv' := [(0, .ref 3), (1, .retAddr 23), (2, .int y20)]) (st' := [.int y20, .retAddr 23, .int z41]) rfl ?_
            refine En_scharX 11 8 rfl rfl rfl (by decide) (by omega) (by omega) rfl (fun z44 h45 h46 h47 => ?_)
            refine En_icEq _ rfl rfl rfl (fun h48 => ?_) (fun h48 => ?_)
            · refine En_Ps 1 (pc' := 63) (lv' := [(2, .int ((y20 + Int32.ofInt 1))), (0, .ref 3), (1, .retAddr 23)]) (st' := []) rfl ?_
              refine En_lv1 (addI rfl (by decide : (Int32.ofInt 1).toInt = 1) (by omega) (by omega)) (fun z49 h50 => ?_)
              refine En_Ps 1 (pc' := 28) (lv' := [(2, .int z49), (0, .ref 3), (1, .retAddr 23)]) (st' := []) rfl ?_
              refine En_lv (lv := [(0, .ref 3), (1, .retAddr 23), (2, .int z49)]) ⟨rfl, rfl, rfl, trivial⟩ ?_
              exact ih28 σ21 z49 h22 h23 h24 h25 h26 (by omega) (by omega) (by omega) (fun z => by have q1 := CT_t hC h1 z; have q2 := CT_fa hC h5 h9 z; exact ISQc_n (CT_fr hC h23 (by decide +kernel)) (Imp_m h30 z) (by simp only [LWl]; omega) (by omega) h40 h47 (by omega) (by omega))
            · refine En_Ps 1 (pc' := 59) (lv' := [(0, .ref 3), (1, .retAddr 23), (2, .int y20)]) (st' := [.int ((Int32.ofInt 0))]) rfl ?_
              refine En_top (by decide : (Int32.ofInt 0).toInt = 0) (fun z51 h52 => ?_)
              exact En_ret (v := some (.int z51)) rfl rfl (retZ rfl rfl (by omega) (by omega)) ⟨h22, h23, z51, rfl, ⟨by omega, by omega, fun z => by have q1 := CT_t hC h1 z; have q2 := CT_fa hC h5 h9 z; have q := ISQc_n (b' := 0) (CT_fr hC h23 (by decide +kernel)) (Imp_m h30 z) (by simp only [LWl]; omega) (by omega) h40 h47 rfl (Or.inr ⟨rfl, by omega⟩); have q2 := ISQ_x q (Or.inl rfl); omega⟩⟩
      have := (by decide : (Int32.ofInt 0).toInt = 0)
      refine En_lv (lv := [(0, .ref 3), (1, .retAddr 23), (2, .int ((Int32.ofInt 0)))]) ⟨rfl, rfl, rfl, trivial⟩ ?_
      exact key28 (Int.toNat (z6.toInt) + 1) σ0 ((Int32.ofInt 0)) hσ0 hF0 h1 h5 h9 (by omega) (by omega) (by omega) (fun z => by have q1 := CT_t hC h1 z; have q2 := CT_fa hC h5 h9 z; exact ISQc_s (by decide) z (by omega) (by simp only [LWl]; omega))
    · refine En_Ps 1 (pc' := 25) (lv' := [(0, .ref 3), (1, .retAddr 23)]) (st' := [.int ((Int32.ofInt 0))]) rfl ?_
      refine En_top (by decide : (Int32.ofInt 0).toInt = 0) (fun z53 h54 => ?_)
      exact En_ret (v := some (.int z53)) rfl rfl (retZ rfl rfl (by omega) (by omega)) ⟨hσ0, hF0, z53, rfl, ⟨by omega, by omega, fun z => by have q1 := CT_t hC h1 z; have q2 := CT_fa hC h5 h9 z; have q := iW_0 (By := By) (Nb := Nb) (i := 11) (S := Sp) (by simp only [LWl]; omega); omega⟩⟩
/-- DoorSchool$Reader.stands(Ljava/lang/String;)Z -/
abbrev P_71s12x (σ0 : SG) (By : Int → Int) (Nb : Int) (Sp : PS) : PO := fun v σ => WT σ ∧ Fr [] σ0 σ ∧ ∃ ret : Int32, v = some (.int ret) ∧ -ret.toInt ≤ 0 ∧ ret.toInt - 1 ≤ 0 ∧ Imp (Sp.1 = 0) (ret.toInt = iW By Nb 12 Sp)
set_option maxRecDepth 10000 in
set_option maxHeartbeats 4000000 in
theorem c_71s12x {By : Int → Int} {Nb : Int} {Sp : PS} (σ0 : SG) (hσ0 : WT σ0) (hC : CT By Nb σ0 Sp) : En 4 90 none mr_71 (P_71s12x σ0 By Nb Sp) 0 [(0, .ref 3), (1, .retAddr 25)] [] σ0 := by
  have hF0 : Fr [] σ0 σ0 := Fr_rfl
  obtain ⟨z2, h1, h3, h4⟩ := WT_peekI hσ0 tgz_3 (by decide +kernel : FT 3 1 = (0, 0, 4)) (by decide +kernel)
  obtain ⟨z6, h5, h7, h8⟩ := WT_peekI hσ0 tgz_3 (by decide +kernel : FT 3 3 = (0, 0, 1600)) (by decide +kernel)
  obtain ⟨z10, h9, h11, h12⟩ := WT_peekI hσ0 tgz_3 (by decide +kernel : FT 3 2 = (0, 0, 1600)) (by decide +kernel)
  have h13 : Imp (Sp.1 = 0) (tK By Nb Sp.2.2.1 = z2.toInt) := CT_t hC h1
  refine En_Ps 1 (pc' := 1) (lv' := [(0, .ref 3), (1, .retAddr 25)]) (st' := [.ref 3]) rfl ?_
  refine En_getK (j := 1) h1 rfl rfl rfl tgz_3 (by decide +kernel) ?_
  refine En_Ps 1 (pc' := 5) (lv' := [(0, .ref 3), (1, .retAddr 25)]) (st' := [.int ((Int32.ofInt 1)), .int z2]) rfl ?_
  refine En_icNe _ rfl (by decide : (Int32.ofInt 1).toInt = 1) rfl (fun h14 => ?_) (fun h14 => ?_)
  · refine En_Ps 1 (pc' := 25) (lv' := [(0, .ref 3), (1, .retAddr 25)]) (st' := [.int ((Int32.ofInt 0))]) rfl ?_
    refine En_top (by decide : (Int32.ofInt 0).toInt = 0) (fun z15 h16 => ?_)
    exact En_ret (v := some (.int z15)) rfl rfl (retZ rfl rfl (by omega) (by omega)) ⟨hσ0, hF0, z15, rfl, ⟨by omega, by omega, fun z => by have q1 := CT_t hC h1 z; have q2 := CT_fa hC h5 h9 z; have q := iW_0 (By := By) (Nb := Nb) (i := 12) (S := Sp) (by simp only [LWl]; omega); omega⟩⟩
  · refine En_Ps 1 (pc' := 9) (lv' := [(0, .ref 3), (1, .retAddr 25)]) (st' := [.ref 3]) rfl ?_
    refine En_getK (j := 3) h5 rfl rfl rfl tgz_3 (by decide +kernel) ?_
    refine En_Ps 1 (pc' := 13) (lv' := [(0, .ref 3), (1, .retAddr 25)]) (st' := [.ref 3, .int z6]) rfl ?_
    refine En_getK (j := 2) h9 rfl rfl rfl tgz_3 (by decide +kernel) ?_
    refine En_Ps 1 (pc' := 17) (lv' := [(0, .ref 3), (1, .retAddr 25)]) (st' := [.int ((z6 - z10))]) rfl ?_
    refine En_top (subI rfl rfl (by omega) (by omega)) (fun z17 h18 => ?_)
    refine En_Ps 1 (pc' := 18) (lv' := [(0, .ref 3), (1, .retAddr 25)]) (st' := [.retAddr 25, .int z17]) rfl ?_
    refine En_slen 12 4 rfl rfl (by decide) rfl ?_
    refine En_icEq _ rfl (by decide : (Int32.ofNat 4).toInt = 4) rfl (fun h19 => ?_) (fun h19 => ?_)
    · refine En_Ps 2 (pc' := 28) (lv' := [(2, .int ((Int32.ofInt 0))), (0, .ref 3), (1, .retAddr 25)]) (st' := []) rfl ?_
      have key28 : ∀ (n28 : Nat) (σ21 : SG) (y20 : Int32), WT σ21 → Fr [] σ0 σ21 → (σ21 3)[1]? = some (.int z2) → (σ21 3)[3]? = some (.int z6) → (σ21 3)[2]? = some (.int z10) → 0 ≤ y20.toInt → y20.toInt ≤ 4 → z6.toInt - y20.toInt < (n28 : Int) → Imp (Sp.1 = 0) (ISQ By Nb 12 Sp 1 y20.toInt) → En 4 90 none mr_71 (P_71s12x σ0 By Nb Sp) 28 [(0, .ref 3), (1, .retAddr 25), (2, .int y20)] [] σ21 := by
        intro n28
        induction n28 with
        | zero =>
          intro σ21 y20 h22 h23 h24 h25 h26 h27 h28 h29 h30
          exfalso; omega
        | succ n28 ih28 =>
          intro σ21 y20 h22 h23 h24 h25 h26 h27 h28 h29 h30
          refine En_Ps 2 (pc' := 30) (lv' := [(0, .ref 3), (1, .retAddr 25), (2, .int y20)]) (st' := [.retAddr 25, .int y20]) rfl ?_
          refine En_slen 12 4 rfl rfl (by decide) rfl ?_
          refine En_icGe _ rfl (by decide : (Int32.ofNat 4).toInt = 4) rfl (fun h31 => ?_) (fun h31 => ?_)
          · refine En_Ps 1 (pc' := 67) (lv' := [(0, .ref 3), (1, .retAddr 25), (2, .int y20)]) (st' := [.int ((Int32.ofInt 1))]) rfl ?_
            refine En_top (by decide : (Int32.ofInt 1).toInt = 1) (fun z32 h33 => ?_)
            exact En_ret (v := some (.int z32)) rfl rfl (retZ rfl rfl (by omega) (by omega)) ⟨h22, h23, z32, rfl, ⟨by omega, by omega, fun z => by have q := ISQ_x (Imp_m h30 z) (Or.inr (by simp only [LWl]; omega)); omega⟩⟩
          · refine En_Ps 1 (pc' := 37) (lv' := [(0, .ref 3), (1, .retAddr 25), (2, .int y20)]) (st' := [.ref 3]) rfl ?_
            refine En_getU (j := 0) (u := 1) (g' := 1) (q := 0) rfl rfl rfl tgz_3 (by decide +kernel) h22 (by decide +kernel) (by decide +kernel) (fun h34 => ?_)
            refine En_getU (j := 0) (u := 2) (g' := 2) (q := 0) rfl rfl rfl tgz_1 (by decide +kernel) h22 (by decide +kernel) (by decide +kernel) (fun h36 => ?_)
            refine En_Ps 1 (pc' := 44) (lv' := [(0, .ref 3), (1, .retAddr 25), (2, .int y20)]) (st' := [.ref 3, .ref 2]) rfl ?_
            refine En_getK (j := 2) h26 rfl rfl rfl tgz_3 (by decide +kernel) ?_
            refine En_Ps 2 (pc' := 49) (lv' := [(0, .ref 3), (1, .retAddr 25), (2, .int y20)]) (st' := [.int ((z10 + y20)), .ref 2]) rfl ?_
            refine En_top (addI rfl rfl (by omega) (by omega)) (fun z38 h39 => ?_)
            refine En_bald (l := (-128)) (u := 127) rfl rfl tgz_2 (by decide +kernel) h22 (by omega) (lnI (by decide +kernel : LN _ = 1600) (by omega)) (FTsgl (by decide +kernel)) (fun z41 h40 h42 h43 => ?_)
            refine En_Ps 2 (pc' := 52) (lv' := [(0, .ref 3), (1, .retAddr 25), (2, .int y20)]) (st' := [.int y20, .retAddr 25, .int z41]) rfl ?_
            refine En_scharX 12 4 rfl rfl rfl (by decide) (by omega) (by omega) rfl (fun z44 h45 h46 h47 => ?_)
            refine En_icEq _ rfl rfl rfl (fun h48 => ?_) (fun h48 => ?_)
            · refine En_Ps 1 (pc' := 63) (lv' := [(2, .int ((y20 + Int32.ofInt 1))), (0, .ref 3), (1, .retAddr 25)]) (st' := []) rfl ?_
              refine En_lv1 (addI rfl (by decide : (Int32.ofInt 1).toInt = 1) (by omega) (by omega)) (fun z49 h50 => ?_)
              refine En_Ps 1 (pc' := 28) (lv' := [(2, .int z49), (0, .ref 3), (1, .retAddr 25)]) (st' := []) rfl ?_
              refine En_lv (lv := [(0, .ref 3), (1, .retAddr 25), (2, .int z49)]) ⟨rfl, rfl, rfl, trivial⟩ ?_
              exact ih28 σ21 z49 h22 h23 h24 h25 h26 (by omega) (by omega) (by omega) (fun z => by have q1 := CT_t hC h1 z; have q2 := CT_fa hC h5 h9 z; exact ISQc_n (CT_fr hC h23 (by decide +kernel)) (Imp_m h30 z) (by simp only [LWl]; omega) (by omega) h40 h47 (by omega) (by omega))
            · refine En_Ps 1 (pc' := 59) (lv' := [(0, .ref 3), (1, .retAddr 25), (2, .int y20)]) (st' := [.int ((Int32.ofInt 0))]) rfl ?_
              refine En_top (by decide : (Int32.ofInt 0).toInt = 0) (fun z51 h52 => ?_)
              exact En_ret (v := some (.int z51)) rfl rfl (retZ rfl rfl (by omega) (by omega)) ⟨h22, h23, z51, rfl, ⟨by omega, by omega, fun z => by have q1 := CT_t hC h1 z; have q2 := CT_fa hC h5 h9 z; have q := ISQc_n (b' := 0) (CT_fr hC h23 (by decide +kernel)) (Imp_m h30 z) (by simp only [LWl]; omega) (by omega) h40 h47 rfl (Or.inr ⟨rfl, by omega⟩); have q2 := ISQ_x q (Or.inl rfl); omega⟩⟩
      have := (by decide : (Int32.ofInt 0).toInt = 0)
      refine En_lv (lv := [(0, .ref 3), (1, .retAddr 25), (2, .int ((Int32.ofInt 0)))]) ⟨rfl, rfl, rfl, trivial⟩ ?_
      exact key28 (Int.toNat (z6.toInt) + 1) σ0 ((Int32.ofInt 0)) hσ0 hF0 h1 h5 h9 (by omega) (by omega) (by omega) (fun z => by have q1 := CT_t hC h1 z; have q2 := CT_fa hC h5 h9 z; exact ISQc_s (by decide) z (by omega) (by simp only [LWl]; omega))
    · refine En_Ps 1 (pc' := 25) (lv' := [(0, .ref 3), (1, .retAddr 25)]) (st' := [.int ((Int32.ofInt 0))]) rfl ?_
      refine En_top (by decide : (Int32.ofInt 0).toInt = 0) (fun z53 h54 => ?_)
      exact En_ret (v := some (.int z53)) rfl rfl (retZ rfl rfl (by omega) (by omega)) ⟨hσ0, hF0, z53, rfl, ⟨by omega, by omega, fun z => by have q1 := CT_t hC h1 z; have q2 := CT_fa hC h5 h9 z; have q := iW_0 (By := By) (Nb := Nb) (i := 12) (S := Sp) (by simp only [LWl]; omega); omega⟩⟩

