/-- DoorSchool$Reader.stands(Ljava/lang/String;)Z -/
abbrev P_71s9x (σ0 : SG) (By : Int → Int) (Nb : Int) (Sp : PS) : PO := fun v σ => WT σ ∧ Fr [] σ0 σ ∧ ∃ ret : Int32, v = some (.int ret) ∧ -ret.toInt ≤ 0 ∧ ret.toInt - 1 ≤ 0 ∧ Imp (Sp.1 = 0) (ret.toInt = iW By Nb 9 Sp)
set_option maxRecDepth 10000 in
set_option maxHeartbeats 4000000 in
theorem c_71s9x {By : Int → Int} {Nb : Int} {Sp : PS} (σ0 : SG) (hσ0 : WT σ0) (hC : CT By Nb σ0 Sp) : En 4 90 none mr_71 (P_71s9x σ0 By Nb Sp) 0 [(0, .ref 3), (1, .retAddr 19)] [] σ0 := by
  have hF0 : Fr [] σ0 σ0 := Fr_rfl
  obtain ⟨z2, h1, h3, h4⟩ := WT_peekI hσ0 tgz_3 (by decide +kernel : FT 3 1 = (0, 0, 4)) (by decide +kernel)
  obtain ⟨z6, h5, h7, h8⟩ := WT_peekI hσ0 tgz_3 (by decide +kernel : FT 3 3 = (0, 0, 1600)) (by decide +kernel)
  obtain ⟨z10, h9, h11, h12⟩ := WT_peekI hσ0 tgz_3 (by decide +kernel : FT 3 2 = (0, 0, 1600)) (by decide +kernel)
  have h13 : Imp (Sp.1 = 0) (tK By Nb Sp.2.2.1 = z2.toInt) := CT_t hC h1
  refine En_Ps 1 (pc' := 1) (lv' := [(0, .ref 3), (1, .retAddr 19)]) (st' := [.ref 3]) rfl ?_
  refine En_getK (j := 1) h1 rfl rfl rfl tgz_3 (by decide +kernel) ?_
  refine En_Ps 1 (pc' := 5) (lv' := [(0, .ref 3), (1, .retAddr 19)]) (st' := [.int ((Int32.ofInt 1)), .int z2]) rfl ?_
  refine En_icNe _ rfl (by decide : (Int32.ofInt 1).toInt = 1) rfl (fun h14 => ?_) (fun h14 => ?_)
  · refine En_Ps 1 (pc' := 25) (lv' := [(0, .ref 3), (1, .retAddr 19)]) (st' := [.int ((Int32.ofInt 0))]) rfl ?_
    refine En_top (by decide : (Int32.ofInt 0).toInt = 0) (fun z15 h16 => ?_)
    exact En_ret (v := some (.int z15)) rfl rfl (retZ rfl rfl (by omega) (by omega)) ⟨hσ0, hF0, z15, rfl, ⟨by omega, by omega, fun z => by have q1 := CT_t hC h1 z; have q2 := CT_fa hC h5 h9 z; have q := iW_0 (By := By) (Nb := Nb) (i := 9) (S := Sp) (by simp only [LWl]; omega); omega⟩⟩
  · refine En_Ps 1 (pc' := 9) (lv' := [(0, .ref 3), (1, .retAddr 19)]) (st' := [.ref 3]) rfl ?_
    refine En_getK (j := 3) h5 rfl rfl rfl tgz_3 (by decide +kernel) ?_
    refine En_Ps 1 (pc' := 13) (lv' := [(0, .ref 3), (1, .retAddr 19)]) (st' := [.ref 3, .int z6]) rfl ?_
    refine En_getK (j := 2) h9 rfl rfl rfl tgz_3 (by decide +kernel) ?_
    refine En_Ps 1 (pc' := 17) (lv' := [(0, .ref 3), (1, .retAddr 19)]) (st' := [.int ((z6 - z10))]) rfl ?_
    refine En_top (subI rfl rfl (by omega) (by omega)) (fun z17 h18 => ?_)
    refine En_Ps 1 (pc' := 18) (lv' := [(0, .ref 3), (1, .retAddr 19)]) (st' := [.retAddr 19, .int z17]) rfl ?_
    refine En_slen 9 5 rfl rfl (by decide) rfl ?_
    refine En_icEq _ rfl (by decide : (Int32.ofNat 5).toInt = 5) rfl (fun h19 => ?_) (fun h19 => ?_)
    · refine En_Ps 2 (pc' := 28) (lv' := [(2, .int ((Int32.ofInt 0))), (0, .ref 3), (1, .retAddr 19)]) (st' := []) rfl ?_
      have key28 : ∀ (n28 : Nat) (σ21 : SG) (y20 : Int32), WT σ21 → Fr [] σ0 σ21 → (σ21 3)[1]? = some (.int z2) → (σ21 3)[3]? = some (.int z6) → (σ21 3)[2]? = some (.int z10) → 0 ≤ y20.toInt → y20.toInt ≤ 5 → z6.toInt - y20.toInt < (n28 : Int) → Imp (Sp.1 = 0) (ISQ By Nb 9 Sp 1 y20.toInt) → En 4 90 none mr_71 (P_71s9x σ0 By Nb Sp) 28 [(0, .ref 3), (1, .retAddr 19), (2, .int y20)] [] σ21 := by
        intro n28
        induction n28 with
        | zero =>
          intro σ21 y20 h22 h23 h24 h25 h26 h27 h28 h29 h30
          exfalso; omega
        | succ n28 ih28 =>
          intro σ21 y20 h22 h23 h24 h25 h26 h27 h28 h29 h30
          refine En_Ps 2 (pc' := 30) (lv' := [(0, .ref 3), (1, .retAddr 19), (2, .int y20)]) (st' := [.retAddr 19, .int y20]) rfl ?_
          refine En_slen 9 5 rfl rfl (by decide) rfl ?_
          refine En_icGe _ rfl (by decide : (Int32.ofNat 5).toInt = 5) rfl (fun h31 => ?_) (fun h31 => ?_)
          · refine En_Ps 1 (pc' := 67) (lv' := [(0, .ref 3), (1, .retAddr 19), (2, .int y20)]) (st' := [.int ((Int32.ofInt 1))]) rfl ?_
            refine En_top (by decide : (Int32.ofInt 1).toInt = 1) (fun z32 h33 => ?_)
            exact En_ret (v := some (.int z32)) rfl rfl (retZ rfl rfl (by omega) (by omega)) ⟨h22, h23, z32, rfl, ⟨by omega, by omega, fun z => by have q := ISQ_x (Imp_m h30 z) (Or.inr (by simp only [LWl]; omega)); omega⟩⟩
          · refine En_Ps 1 (pc' := 37) (lv' := [(0, .ref 3), (1, .retAddr 19), (2, .int y20)]) (st' := [.ref 3]) rfl ?_
            refine En_getU (j := 0) (u := 1) (g' := 1) (q := 0) rfl rfl rfl tgz_3 (by decide +kernel) h22 (by decide +kernel) (by decide +kernel) (fun h34 => ?_)
            refine En_getU (j := 0) (u := 2) (g' := 2) (q := 0) rfl rfl rfl tgz_1 (by decide +kernel) h22 (by decide +kernel) (by decide +kernel) (fun h36 => ?_)
            refine En_Ps 1 (pc' := 44) (lv' := [(0, .ref 3), (1, .retAddr 19), (2, .int y20)]) (st' := [.ref 3, .ref 2]) rfl ?_
            refine En_getK (j := 2) h26 rfl rfl rfl tgz_3 (by decide +kernel) ?_
            refine En_Ps 2 (pc' := 49) (lv' := [(0, .ref 3), (1, .retAddr 19), (2, .int y20)]) (st' := [.int ((z10 + y20)), .ref 2]) rfl ?_
            refine En_top (addI rfl rfl (by omega) (by omega)) (fun z38 h39 => ?_)
            refine En_bald (l := (-128)) (u := 127) rfl rfl tgz_2 (by decide +kernel) h22 (by omega) (lnI (by decide +kernel : LN _ = 1600) (by omega)) (FTsgl (by decide +kernel)) (fun z41 h40 h42 h43 => ?_)
            refine En_Ps 2 (pc' := 52) (lv' := [(0, .ref 3), (1, .retAddr 19), (2, .int y20)]) (st' := [.int y20, .retAddr 19, .int z41]) rfl ?_
            refine En_scharX 9 5 rfl rfl rfl (by decide) (by omega) (by omega) rfl (fun z44 h45 h46 h47 => ?_)
            refine En_icEq _ rfl rfl rfl (fun h48 => ?_) (fun h48 => ?_)
            · refine En_Ps 1 (pc' := 63) (lv' := [(2, .int ((y20 + Int32.ofInt 1))), (0, .ref 3), (1, .retAddr 19)]) (st' := []) rfl ?_
              refine En_lv1 (addI rfl (by decide : (Int32.ofInt 1).toInt = 1) (by omega) (by omega)) (fun z49 h50 => ?_)
              refine En_Ps 1 (pc' := 28) (lv' := [(2, .int z49), (0, .ref 3), (1, .retAddr 19)]) (st' := []) rfl ?_
              refine En_lv (lv := [(0, .ref 3), (1, .retAddr 19), (2, .int z49)]) ⟨rfl, rfl, rfl, trivial⟩ ?_
              exact ih28 σ21 z49 h22 h23 h24 h25 h26 (by omega) (by omega) (by omega) (fun z => by have q1 := CT_t hC h1 z; have q2 := CT_fa hC h5 h9 z; exact ISQc_n (CT_fr hC h23 (by decide +kernel)) (Imp_m h30 z) (by simp only [LWl]; omega) (by omega) h40 h47 (by omega) (by omega))
            · refine En_Ps 1 (pc' := 59) (lv' := [(0, .ref 3), (1, .retAddr 19), (2, .int y20)]) (st' := [.int ((Int32.ofInt 0))]) rfl ?_
              refine En_top (by decide : (Int32.ofInt 0).toInt = 0) (fun z51 h52 => ?_)
              exact En_ret (v := some (.int z51)) rfl rfl (retZ rfl rfl (by omega) (by omega)) ⟨h22, h23, z51, rfl, ⟨by omega, by omega, fun z => by have q1 := CT_t hC h1 z; have q2 := CT_fa hC h5 h9 z; have q := ISQc_n (b' := 0) (CT_fr hC h23 (by decide +kernel)) (Imp_m h30 z) (by simp only [LWl]; omega) (by omega) h40 h47 rfl (Or.inr ⟨rfl, by omega⟩); have q2 := ISQ_x q (Or.inl rfl); omega⟩⟩
      have := (by decide : (Int32.ofInt 0).toInt = 0)
      refine En_lv (lv := [(0, .ref 3), (1, .retAddr 19), (2, .int ((Int32.ofInt 0)))]) ⟨rfl, rfl, rfl, trivial⟩ ?_
      exact key28 (Int.toNat (z6.toInt) + 1) σ0 ((Int32.ofInt 0)) hσ0 hF0 h1 h5 h9 (by omega) (by omega) (by omega) (fun z => by have q1 := CT_t hC h1 z; have q2 := CT_fa hC h5 h9 z; exact ISQc_s (by decide) z (by omega) (by simp only [LWl]; omega))
    · refine En_Ps 1 (pc' := 25) (lv' := [(0, .ref 3), (1, .retAddr 19)]) (st' := [.int ((Int32.ofInt 0))]) rfl ?_
      refine En_top (by decide : (Int32.ofInt 0).toInt = 0) (fun z53 h54 => ?_)
      exact En_ret (v := some (.int z53)) rfl rfl (retZ rfl rfl (by omega) (by omega)) ⟨hσ0, hF0, z53, rfl, ⟨by omega, by omega, fun z => by have q1 := CT_t hC h1 z; have q2 := CT_fa hC h5 h9 z; have q := iW_0 (By := By) (Nb := Nb) (i := 9) (S := Sp) (by simp only [LWl]; omega); omega⟩⟩
/-- DoorSchool$Reader.stands(Ljava/lang/String;)Z -/
abbrev P_71s10x (σ0 : SG) (By : Int → Int) (Nb : Int) (Sp : PS) : PO := fun v σ => WT σ ∧ Fr [] σ0 σ ∧ ∃ ret : Int32, v = some (.int ret) ∧ -ret.toInt ≤ 0 ∧ ret.toInt - 1 ≤ 0 ∧ Imp (Sp.1 = 0) (ret.toInt = iW By Nb 10 Sp)
set_option maxRecDepth 10000 in
set_option maxHeartbeats 4000000 in
theorem c_71s10x {By : Int → Int} {Nb : Int} {Sp : PS} (σ0 : SG) (hσ0 : WT σ0) (hC : CT By Nb σ0 Sp) : En 4 90 none mr_71 (P_71s10x σ0 By Nb Sp) 0 [(0, .ref 3), (1, .retAddr 21)] [] σ0 := by
  have hF0 : Fr [] σ0 σ0 := Fr_rfl
  obtain ⟨z2, h1, h3, h4⟩ := WT_peekI hσ0 tgz_3 (by decide +kernel : FT 3 1 = (0, 0, 4)) (by decide +kernel)
  obtain ⟨z6, h5, h7, h8⟩ := WT_peekI hσ0 tgz_3 (by decide +kernel : FT 3 3 = (0, 0, 1600)) (by decide +kernel)
  obtain ⟨z10, h9, h11, h12⟩ := WT_peekI hσ0 tgz_3 (by decide +kernel : FT 3 2 = (0, 0, 1600)) (by decide +kernel)
  have h13 : Imp (Sp.1 = 0) (tK By Nb Sp.2.2.1 = z2.toInt) := CT_t hC h1
  refine En_Ps 1 (pc' := 1) (lv' := [(0, .ref 3), (1, .retAddr 21)]) (st' := [.ref 3]) rfl ?_
  refine En_getK (j := 1) h1 rfl rfl rfl tgz_3 (by decide +kernel) ?_
  refine En_Ps 1 (pc' := 5) (lv' := [(0, .ref 3), (1, .retAddr 21)]) (st' := [.int ((Int32.ofInt 1)), .int z2]) rfl ?_
  refine En_icNe _ rfl (by decide : (Int32.ofInt 1).toInt = 1) rfl (fun h14 => ?_) (fun h14 => ?_)
  · refine En_Ps 1 (pc' := 25) (lv' := [(0, .ref 3), (1, .retAddr 21)]) (st' := [.int ((Int32.ofInt 0))]) rfl ?_
    refine En_top (by decide : (Int32.ofInt 0).toInt = 0) (fun z15 h16 => ?_)
    exact En_ret (v := some (.int z15)) rfl rfl (retZ rfl rfl (by omega) (by omega)) ⟨hσ0, hF0, z15, rfl, ⟨by omega, by omega, fun z => by have q1 := CT_t hC h1 z; have q2 := CT_fa hC h5 h9 z; have q := iW_0 (By := By) (Nb := Nb) (i := 10) (S := Sp) (by simp only [LWl]; omega); omega⟩⟩
  · refine En_Ps 1 (pc' := 9) (lv' := [(0, .ref 3), (1, .retAddr 21)]) (st' := [.ref 3]) rfl ?_
    refine En_getK (j := 3) h5 rfl rfl rfl tgz_3 (by decide +kernel) ?_
    refine En_Ps 1 (pc' := 13) (lv' := [(0, .ref 3), (1, .retAddr 21)]) (st' := [.ref 3, .int z6]) rfl ?_
    refine En_getK (j := 2) h9 rfl rfl rfl tgz_3 (by decide +kernel) ?_
    refine En_Ps 1 (pc' := 17) (lv' := [(0, .ref 3), (1, .retAddr 21)]) (st' := [.int ((z6 - z10))]) rfl ?_
    refine En_top (subI rfl rfl (by omega) (by omega)) (fun z17 h18 => ?_)
    refine En_Ps 1 (pc' := 18) (lv' := [(0, .ref 3), (1, .retAddr 21)]) (st' := [.retAddr 21, .int z17]) rfl ?_
    refine En_slen 10 6 rfl rfl (by decide) rfl ?_
    refine En_icEq _ rfl (by decide : (Int32.ofNat 6).toInt = 6) rfl (fun h19 => ?_) (fun h19 => ?_)
    · refine En_Ps 2 (pc' := 28) (lv' := [(2, .int ((Int32.ofInt 0))), (0, .ref 3), (1, .retAddr 21)]) (st' := []) rfl ?_
      have key28 : ∀ (n28 : Nat) (σ21 : SG) (y20 : Int32), WT σ21 → Fr [] σ0 σ21 → (σ21 3)[1]? = some (.int z2) → (σ21 3)[3]? = some (.int z6) → (σ21 3)[2]? = some (.int z10) → 0 ≤ y20.toInt → y20.toInt ≤ 6 → z6.toInt - y20.toInt < (n28 : Int) → Imp (Sp.1 = 0) (ISQ By Nb 10 Sp 1 y20.toInt) → En 4 90 none mr_71 (P_71s10x σ0 By Nb Sp) 28 [(0, .ref 3), (1, .retAddr 21), (2, .int y20)] [] σ21 := by
        intro n28
        induction n28 with
        | zero =>
          intro σ21 y20 h22 h23 h24 h25 h26 h27 h28 h29 h30
          exfalso; omega
        | succ n28 ih28 =>
          intro σ21 y20 h22 h23 h24 h25 h26 h27 h28 h29 h30
          refine En_Ps 2 (pc' := 30) (lv' := [(0, .ref 3), (1, .retAddr 21), (2, .int y20)]) (st' := [.retAddr 21, .int y20]) rfl ?_
          refine En_slen 10 6 rfl rfl (by decide) rfl ?_
          refine En_icGe _ rfl (by decide : (Int32.ofNat 6).toInt = 6) rfl (fun h31 => ?_) (fun h31 => ?_)
          · refine En_Ps 1 (pc' := 67) (lv' := [(0, .ref 3), (1, .retAddr 21), (2, .int y20)]) (st' := [.int ((Int32.ofInt 1))]) rfl ?_
            refine En_top (by decide : (Int32.ofInt 1).toInt = 1) (fun z32 h33 => ?_)
            exact En_ret (v := some (.int z32)) rfl rfl (retZ rfl rfl (by omega) (by omega)) ⟨h22, h23, z32, rfl, ⟨by omega, by omega, fun z => by have q := ISQ_x (Imp_m h30 z) (Or.inr (by simp only [LWl]; omega)); omega⟩⟩
          · refine En_Ps 1 (pc' := 37) (lv' := [(0, .ref 3), (1, .retAddr 21), (2, .int y20)]) (st' := [.ref 3]) rfl ?_
            refine En_getU (j := 0) (u := 1) (g' := 1) (q := 0) rfl rfl rfl tgz_3 (by decide +kernel) h22 (by decide +kernel) (by decide +kernel) (fun h34 => ?_)
            refine En_getU (j := 0) (u := 2) (g' := 2) (q := 0) rfl rfl rfl tgz_1 (by decide +kernel) h22 (by decide +kernel) (by decide +kernel) (fun h36 => ?_)
            refine En_Ps 1 (pc' := 44) (lv' := [(0, .ref 3), (1, .retAddr 21), (2, .int y20)]) (st' := [.ref 3, .ref 2]) rfl ?_
            refine En_getK (j := 2) h26 rfl rfl rfl tgz_3 (by decide +kernel) ?_
            refine En_Ps 2 (pc' := 49) (lv' := [(0, .ref 3), (1, .retAddr 21), (2, .int y20)]) (st' := [.int ((z10 + y20)), .ref 2]) rfl ?_
            refine En_top (addI rfl rfl (by omega) (by omega)) (fun z38 h39 => ?_)
            refine En_bald (l := (-128)) (u := 127) rfl rfl tgz_2 (by decide +kernel) h22 (by omega) (lnI (by decide +kernel : LN _ = 1600) (by omega)) (FTsgl (by decide +kernel)) (fun z41 h40 h42 h43 => ?_)
            refine En_Ps 2 (pc' := 52) (lv' := [(0, .ref 3), (1, .retAddr 21), (2, .int y20)]) (st' := [.int y20, .retAddr 21, .int z41]) rfl ?_
            refine En_scharX 10 6 rfl rfl rfl (by decide) (by omega) (by omega) rfl (fun z44 h45 h46 h47 => ?_)
            refine En_icEq _ rfl rfl rfl (fun h48 => ?_) (fun h48 => ?_)
            · refine En_Ps 1 (pc' := 63) (lv' := [(2, .int ((y20 + Int32.ofInt 1))), (0, .ref 3), (1, .retAddr 21)]) (st' := []) rfl ?_
              refine En_lv1 (addI rfl (by decide : (Int32.ofInt 1).toInt = 1) (by omega) (by omega)) (fun z49 h50 => ?_)
              refine En_Ps 1 (pc' := 28) (lv' := [(2, .int z49), (0, .ref 3), (1, .retAddr 21)]) (st' := []) rfl ?_
              refine En_lv (lv := [(0, .ref 3), (1, .retAddr 21), (2, .int z49)]) ⟨rfl, rfl, rfl, trivial⟩ ?_
              exact ih28 σ21 z49 h22 h23 h24 h25 h26 (by omega) (by omega) (by omega) (fun z => by have q1 := CT_t hC h1 z; have q2 := CT_fa hC h5 h9 z; exact ISQc_n (CT_fr hC h23 (by decide +kernel)) (Imp_m h30 z) (by simp only [LWl]; omega) (by omega) h40 h47 (by omega) (by omega))
            · refine En_Ps 1 (pc' := 59) (lv' := [(0, .ref 3), (1, .retAddr 21), (2, .int y20)]) (st' := [.int ((Int32.ofInt 0))]) rfl ?_
              refine En_top (by decide : (Int32.ofInt 0).toInt = 0) (fun z51 h52 => ?_)
              exact En_ret (v := some (.int z51)) rfl rfl (retZ rfl rfl (by omega) (by omega)) ⟨h22, h23, z51, rfl, ⟨by omega, by omega, fun z => by have q1 := CT_t hC h1 z; have q2 := CT_fa hC h5 h9 z; have q := ISQc_n (b' := 0) (CT_fr hC h23 (by decide +kernel)) (Imp_m h30 z) (by simp only [LWl]; omega) (by omega) h40 h47 rfl (Or.inr ⟨rfl, by omega⟩); have q2 := ISQ_x q (Or.inl rfl); omega⟩⟩
      have := (by decide : (Int32.ofInt 0).toInt = 0)
      refine En_lv (lv := [(0, .ref 3), (1, .retAddr 21), (2, .int ((Int32.ofInt 0)))]) ⟨rfl, rfl, rfl, trivial⟩ ?_
      exact key28 (Int.toNat (z6.toInt) + 1) σ0 ((Int32.ofInt 0)) hσ0 hF0 h1 h5 h9 (by omega) (by omega) (by omega) (fun z => by have q1 := CT_t hC h1 z; have q2 := CT_fa hC h5 h9 z; exact ISQc_s (by decide) z (by omega) (by simp only [LWl]; omega))
    · refine En_Ps 1 (pc' := 25) (lv' := [(0, .ref 3), (1, .retAddr 21)]) (st' := [.int ((Int32.ofInt 0))]) rfl ?_
      refine En_top (by decide : (Int32.ofInt 0).toInt = 0) (fun z53 h54 => ?_)
      exact En_ret (v := some (.int z53)) rfl rfl (retZ rfl rfl (by omega) (by omega)) ⟨hσ0, hF0, z53, rfl, ⟨by omega, by omega, fun z => by have q1 := CT_t hC h1 z; have q2 := CT_fa hC h5 h9 z; have q := iW_0 (By := By) (Nb := Nb) (i := 10) (S := Sp) (by simp only [LWl]; omega); omega⟩⟩
/-- DoorSchool$Reader.stands(Ljava/lang/String;)Z -/
abbrev P_71s11x (σ0 : SG) (By : Int → Int) (Nb : Int) (Sp : PS) : PO := fun v σ => WT σ ∧ Fr [] σ0 σ ∧ ∃ ret : Int32, v = some (.int ret) ∧ -ret.toInt ≤ 0 ∧ ret.toInt - 1 ≤ 0 ∧ Imp (Sp.1 = 0) (ret.toInt = iW By Nb 11 Sp)
set_option maxRecDepth 10000 in
set_option maxHeartbeats 4000000 in
theorem c_71s11x {By : Int → Int} {Nb : Int} {Sp : PS} (σ0 : SG) (hσ0 : WT σ0) (hC : CT By Nb σ0 Sp) : En 4 90 none mr_71 (P_71s11x σ0 By Nb Sp) 0 [(0, .ref 3), (1, .retAddr 23)] [] σ0 := by
  have hF0 : Fr [] σ0 σ0 := Fr_rfl
  obtain ⟨z2, h1, h3, h4⟩ := WT_peekI hσ0 tgz_3 (by decide +kernel : FT 3 1 = (0, 0, 4)) (by decide +kernel)
  obtain ⟨z6, h5, h7, h8⟩ := WT_peekI hσ0 tgz_3 (by decide +kernel : FT 3 3 = (0, 0, 1600)) (by decide +kernel)
  obtain ⟨z10, h9, h11, h12⟩ := WT_peekI hσ0 tgz_3 (by decide +kernel : FT 3 2 = (0, 0, 1600)) (by decide +kernel)
  have h13 : Imp (Sp.1 = 0) (tK By Nb Sp.2.2.1 = z2.toInt) := CT_t hC h1
  refine En_Ps 1 (pc' := 1) (lv' := [(0, .ref 3), (1, .retAddr 23)]) (st' := [.ref 3]) rfl ?_
  refine En_getK (j := 1) h1 rfl rfl rfl tgz_3 (by decide +kernel) ?_
  refine En_Ps 1 (pc' := 5) (lv' := [(0, .ref 3), (1, .retAddr 23)]) (st' := [.int ((Int32.ofInt 1)), .int z2]) rfl ?_
  refine En_icNe _ rfl (by decide : (Int32.ofInt 1).toInt = 1) rfl (fun h14 => ?_) (fun h14 => ?_)
  · refine En_Ps 1 (pc' := 25) (lv' := [(0, .ref 3), (1, .retAddr 23)]) (st' := [.int ((Int32.ofInt 0))]) rfl ?_
    refine En_top (by decide : (Int32.ofInt 0).toInt = 0) (fun z15 h16 => ?_)
    exact En_ret (v := some (.int z15)) rfl rfl (retZ rfl rfl (by omega) (by omega)) ⟨hσ0, hF0, z15, rfl, ⟨by omega, by omega, fun z => by have q1 := CT_t hC h1 z; have q2 := CT_fa hC h5 h9 z; have q := iW_0 (By := By) (Nb := Nb) (i := 11) (S := Sp) (by simp only [LWl]; omega); omega⟩⟩
  · refine En_Ps 1 (pc' := 9) (lv' := [(0, .ref 3), (1, .retAddr 23)]) (st' := [.ref 3]) rfl ?_
    refine En_getK (j := 3) h5 rfl rfl rfl tgz_3 (by decide +kernel) ?_
    refine En_Ps 1 (pc' := 13) (lv' := [(0, .ref 3), (1, .retAddr 23)]) (st' := [.ref 3, .int z6]) rfl ?_
    refine En_getK (j := 2) h9 rfl rfl rfl tgz_3 (by decide +kernel) ?_
    refine En_Ps 1 (pc' := 17) (lv' := [(0, .ref 3), (1, .retAddr 23)]) (st' := [.int ((z6 - z10))]) rfl ?_
    refine En_top (subI rfl rfl (by omega) (by omega)) (fun z17 h18 => ?_)
    refine En_Ps 1 (pc' := 18) (lv' := [(0, .ref 3), (1, .retAddr 23)]) (st' := [.retAddr 23, .int z17]) rfl ?_
    refine En_slen 11 8 rfl rfl (by decide) rfl ?_
    refine En_icEq _ rfl (by decide : (Int32.ofNat 8).toInt = 8) rfl (fun h19 => ?_) (fun h19 => ?_)
    · refine En_Ps 2 (pc' := 28) (lv' := [(2, .int ((Int32.ofInt 0))), (0, .ref 3), (1, .retAddr 23)]) (st' := []) rfl ?_
      have key28 : ∀ (n28 : Nat) (σ21 : SG) (y20 : Int32), WT σ21 → Fr [] σ0 σ21 → (σ21 3)[1]? = some (.int z2) → (σ21 3)[3]? = some (.int z6) → (σ21 3)[2]? = some (.int z10) → 0 ≤ y20.toInt → y20.toInt ≤ 8 → z6.toInt - y20.toInt < (n28 : Int) → Imp (Sp.1 = 0) (ISQ By Nb 11 Sp 1 y20.toInt) → En 4 90 none mr_71 (P_71s11x σ0 By Nb Sp) 28 [(0, .ref 3), (1, .retAddr 23), (2, .int y20)] [] σ21 := by
        intro n28
        induction n28 with
        | zero =>
          intro σ21 y20 h22 h23 h24 h25 h26 h27 h28 h29 h30
          exfalso; omega
        | succ n28 ih28 =>
          intro σ21 y20 h22 h23 h24 h25 h26 h27 h28 h29 h30
          refine En_Ps 2 (pc' := 30) (lv' := [(0, .ref 3), (1, .retAddr 23), (2, .int y20)]) (st' := [.retAddr 23, .int y20]) rfl ?_
          refine En_slen 11 8 rfl rfl (by decide) rfl ?_
          refine En_icGe _ rfl (by decide : (Int32.ofNat 8).toInt = 8) rfl (fun h31 => ?_) (fun h31 => ?_)
          · refine En_Ps 1 (pc' := 67) (lv' := [(0, .ref 3), (1, .retAddr 23), (2, .int y20)]) (st' := [.int ((Int32.ofInt 1))]) rfl ?_
            refine En_top (by decide : (Int32.ofInt 1).toInt = 1) (fun z32 h33 => ?_)
            exact En_ret (v := some (.int z32)) rfl rfl (retZ rfl rfl (by omega) (by omega)) ⟨h22, h23, z32, rfl, ⟨by omega, by omega, fun z => by have q := ISQ_x (Imp_m h30 z) (Or.inr (by simp only [LWl]; omega)); omega⟩⟩
          · refine En_Ps 1 (pc' := 37) (lv' := [(0, .ref 3), (1, .retAddr 23), (2, .int y20)]) (st' := [.ref 3]) rfl ?_
            refine En_getU (j := 0) (u := 1) (g' := 1) (q := 0) rfl rfl rfl tgz_3 (by decide +kernel) h22 (by decide +kernel) (by decide +kernel) (fun h34 => ?_)
            refine En_getU (j := 0) (u := 2) (g' := 2) (q := 0) rfl rfl rfl tgz_1 (by decide +kernel) h22 (by decide +kernel) (by decide +kernel) (fun h36 => ?_)
            refine En_Ps 1 (pc' := 44) (lv' := [(0, .ref 3), (1, .retAddr 23), (2, .int y20)]) (st' := [.ref 3, .ref 2]) rfl ?_
            refine En_getK (j := 2) h26 rfl rfl rfl tgz_3 (by decide +kernel) ?_
            refine En_Ps 2 (pc' := 49) (lv' := [(0, .ref 3), (1, .retAddr 23), (2, .int y20)]) (st' := [.int ((z10 + y20)), .ref 2]) rfl ?_
            refine En_top (addI rfl rfl (by omega) (by omega)) (fun z38 h39 => ?_)
            refine En_bald (l := (-128)) (u := 127) rfl rfl tgz_2 (by decide +kernel) h22 (by omega) (lnI (by decide +kernel : LN _ = 1600) (by omega)) (FTsgl (by decide +kernel)) (fun z41 h40 h42 h43 => ?_)
            refine En_Ps 2 (pc' := 52) (lv' := [(0, .ref 3), (1, .retAddr 23), (2, .int y20)]) (st' := [.int y20, .retAddr 23, .int z41]) rfl ?_
            refine En_scharX 11 8 rfl rfl rfl (by decide) (by omega) (by omega) rfl (fun z44 h45 h46 h47 => ?_)
            refine En_icEq _ rfl rfl rfl (fun h48 => ?_) (fun h48 => ?_)
            · refine En_Ps 1 (pc' := 63) (lv' := [(2, .int ((y20 + Int32.ofInt 1))), (0, .ref 3), (1, .retAddr 23)]) (st' := []) rfl ?_
              refine En_lv1 (addI rfl (by decide : (Int32.ofInt 1).toInt = 1) (by omega) (by omega)) (fun z49 h50 => ?_)
              refine En_Ps 1 (pc' := 28) (lv' := [(2, .int z49), (0, .ref 3), (1, .retAddr 23)]) (st' := []) rfl ?_
              refine En_lv (lv := [(0, .ref 3), (1, .retAddr 23), (2, .int z49)]) ⟨rfl, rfl, rfl, trivial⟩ ?_
              exact ih28 σ21 z49 h22 h23 h24 h25 h26 (by omega) (by omega) (by omega) (fun z => by have q1 := CT_t hC h1 z; have q2 := CT_fa hC h5 h9 z; exact ISQc_n (CT_fr hC h23 (by decide +kernel)) (Imp_m h30 z) (by simp only [LWl]; omega) (by omega) h40 h47 (by omega) (by omega))
            · refine En_Ps 1 (pc' := 59) (lv' := [(0, .ref 3), (1, .retAddr 23), (2, .int y20)]) (st' := [.int ((Int32.ofInt 0))]) rfl ?_
              refine En_top (by decide : (Int32.ofInt 0).toInt = 0) (fun z51 h52 => ?_)
              exact En_ret (v := some (.int z51)) rfl rfl (retZ rfl rfl (by omega) (by omega)) ⟨h22, h23, z51, rfl, ⟨by omega, by omega, fun z => by have q1 := CT_t hC h1 z; have q2 := CT_fa hC h5 h9 z; have q := ISQc_n (b' := 0) (CT_fr hC h23 (by decide +kernel)) (Imp_m h30 z) (by simp only [LWl]; omega) (by omega) h40 h47 rfl (Or.inr ⟨rfl, by omega⟩); have q2 := ISQ_x q (Or.inl rfl); omega⟩⟩
      have := (by decide : (Int32.ofInt 0).toInt = 0)
      refine En_lv (lv := [(0, .ref 3), (1, .retAddr 23), (2, .int ((Int32.ofInt 0)))]) ⟨rfl, rfl, rfl, trivial⟩ ?_
      exact key28 (Int.toNat (z6.toInt) + 1) σ0 ((Int32.ofInt 0)) hσ0 hF0 h1 h5 h9 (by omega) (by omega) (by omega) (fun z => by have q1 := CT_t hC h1 z; have q2 := CT_fa hC h5 h9 z; exact ISQc_s (by decide) z (by omega) (by simp only [LWl]; omega))
    · refine En_Ps 1 (pc' := 25) (lv' := [(0, .ref 3), (1, .retAddr 23)]) (st' := [.int ((Int32.ofInt 0))]) rfl ?_
      refine En_top (by decide : (Int32.ofInt 0).toInt = 0) (fun z53 h54 => ?_)
      exact En_ret (v := some (.int z53)) rfl rfl (retZ rfl rfl (by omega) (by omega)) ⟨hσ0, hF0, z53, rfl, ⟨by omega, by omega, fun z => by have q1 := CT_t hC h1 z; have q2 := CT_fa hC h5 h9 z; have q := iW_0 (By := By) (Nb := Nb) (i := 11) (S := Sp) (by simp only [LWl]; omega); omega⟩⟩
/-- DoorSchool$Reader.stands(Ljava/lang/String;)Z -/
abbrev P_71s12x (σ0 : SG) (By : Int → Int) (Nb : Int) (Sp : PS) : PO := fun v σ => WT σ ∧ Fr [] σ0 σ ∧ ∃ ret : Int32, v = some (.int ret) ∧ -ret.toInt ≤ 0 ∧ ret.toInt - 1 ≤ 0 ∧ Imp (Sp.1 = 0) (ret.toInt = iW By Nb 12 Sp)
set_option maxRecDepth 10000 in
set_option maxHeartbeats 4000000 in
theorem c_71s12x {By : Int → Int} {Nb : Int} {Sp : PS} (σ0 : SG) (hσ0 : WT σ0) (hC : CT By Nb σ0 Sp) : En 4 90 none mr_71 (P_71s12x σ0 By Nb Sp) 0 [(0, .ref 3), (1, .retAddr 25)] [] σ0 := by
  have hF0 : Fr [] σ0 σ0 := Fr_rfl
  obtain ⟨z2, h1, h3, h4⟩ := WT_peekI hσ0 tgz_3 (by decide +kernel : FT 3 1 = (0, 0, 4)) (by decide +kernel)
  obtain ⟨z6, h5, h7, h8⟩ := WT_peekI hσ0 tgz_3 (by decide +kernel : FT 3 3 = (0, 0, 1600)) (by decide +kernel)
  obtain ⟨z10, h9, h11, h12⟩ := WT_peekI hσ0 tgz_3 (by decide +kernel : FT 3 2 = (0, 0, 1600)) (by decide +kernel)
  have h13 : Imp (Sp.1 = 0) (tK By Nb Sp.2.2.1 = z2.toInt) := CT_t hC h1
  refine En_Ps 1 (pc' := 1) (lv' := [(0, .ref 3), (1, .retAddr 25)]) (st' := [.ref 3]) rfl ?_
  refine En_getK (j := 1) h1 rfl rfl rfl tgz_3 (by decide +kernel) ?_
  refine En_Ps 1 (pc' := 5) (lv' := [(0, .ref 3), (1, .retAddr 25)]) (st' := [.int ((Int32.ofInt 1)), .int z2]) rfl ?_
  refine En_icNe _ rfl (by decide : (Int32.ofInt 1).toInt = 1) rfl (fun h14 => ?_) (fun h14 => ?_)
  · refine En_Ps 1 (pc' := 25) (lv' := [(0, .ref 3), (1, .retAddr 25)]) (st' := [.int ((Int32.ofInt 0))]) rfl ?_
    refine En_top (by decide : (Int32.ofInt 0).toInt = 0) (fun z15 h16 => ?_)
    exact En_ret (v := some (.int z15)) rfl rfl (retZ rfl rfl (by omega) (by omega)) ⟨hσ0, hF0, z15, rfl, ⟨by omega, by omega, fun z => by have q1 := CT_t hC h1 z; have q2 := CT_fa hC h5 h9 z; have q := iW_0 (By := By) (Nb := Nb) (i := 12) (S := Sp) (by simp only [LWl]; omega); omega⟩⟩
  · refine En_Ps 1 (pc' := 9) (lv' := [(0, .ref 3), (1, .retAddr 25)]) (st' := [.ref 3]) rfl ?_
    refine En_getK (j := 3) h5 rfl rfl rfl tgz_3 (by decide +kernel) ?_
    refine En_Ps 1 (pc' := 13) (lv' := [(0, .ref 3), (1, .retAddr 25)]) (st' := [.ref 3, .int z6]) rfl ?_
    refine En_getK (j := 2) h9 rfl rfl rfl tgz_3 (by decide +kernel) ?_
    refine En_Ps 1 (pc' := 17) (lv' := [(0, .ref 3), (1, .retAddr 25)]) (st' := [.int ((z6 - z10))]) rfl ?_
    refine En_top (subI rfl rfl (by omega) (by omega)) (fun z17 h18 => ?_)
    refine En_Ps 1 (pc' := 18) (lv' := [(0, .ref 3), (1, .retAddr 25)]) (st' := [.retAddr 25, .int z17]) rfl ?_
    refine En_slen 12 4 rfl rfl (by decide) rfl ?_
    refine En_icEq _ rfl (by decide : (Int32.ofNat 4).toInt = 4) rfl (fun h19 => ?_) (fun h19 => ?_)
    · refine En_Ps 2 (pc' := 28) (lv' := [(2, .int ((Int32.ofInt 0))), (0, .ref 3), (1, .retAddr 25)]) (st' := []) rfl ?_
      have key28 : ∀ (n28 : Nat) (σ21 : SG) (y20 : Int32), WT σ21 → Fr [] σ0 σ21 → (σ21 3)[1]? = some (.int z2) → (σ21 3)[3]? = some (.int z6) → (σ21 3)[2]? = some (.int z10) → 0 ≤ y20.toInt → y20.toInt ≤ 4 → z6.toInt - y20.toInt < (n28 : Int) → Imp (Sp.1 = 0) (ISQ By Nb 12 Sp 1 y20.toInt) → En 4 90 none mr_71 (P_71s12x σ0 By Nb Sp) 28 [(0, .ref 3), (1, .retAddr 25), (2, .int y20)] [] σ21 := by
        intro n28
        induction n28 with
        | zero =>
          intro σ21 y20 h22 h23 h24 h25 h26 h27 h28 h29 h30
          exfalso; omega
        | succ n28 ih28 =>
          intro σ21 y20 h22 h23 h24 h25 h26 h27 h28 h29 h30
          refine En_Ps 2 (pc' := 30) (lv' := [(0, .ref 3), (1, .retAddr 25), (2, .int y20)]) (st' := [.retAddr 25, .int y20]) rfl ?_
          refine En_slen 12 4 rfl rfl (by decide) rfl ?_
          refine En_icGe _ rfl (by decide : (Int32.ofNat 4).toInt = 4) rfl (fun h31 => ?_) (fun h31 => ?_)
          · refine En_Ps 1 (pc' := 67) (lv' := [(0, .ref 3), (1, .retAddr 25), (2, .int y20)]) (st' := [.int ((Int32.ofInt 1))]) rfl ?_
            refine En_top (by decide : (Int32.ofInt 1).toInt = 1) (fun z32 h33 => ?_)
            exact En_ret (v := some (.int z32)) rfl rfl (retZ rfl rfl (by omega) (by omega)) ⟨h22, h23, z32, rfl, ⟨by omega, by omega, fun z => by have q := ISQ_x (Imp_m h30 z) (Or.inr (by simp only [LWl]; omega)); omega⟩⟩
          · refine En_Ps 1 (pc' := 37) (lv' := [(0, .ref 3), (1, .retAddr 25), (2, .int y20)]) (st' := [.ref 3]) rfl ?_
            refine En_getU (j := 0) (u := 1) (g' := 1) (q := 0) rfl rfl rfl tgz_3 (by decide +kernel) h22 (by decide +kernel) (by decide +kernel) (fun h34 => ?_)
            refine En_getU (j := 0) (u := 2) (g' := 2) (q := 0) rfl rfl rfl tgz_1 (by decide +kernel) h22 (by decide +kernel) (by decide +kernel) (fun h36 => ?_)
            refine En_Ps 1 (pc' := 44) (lv' := [(0, .ref 3), (1, .retAddr 25), (2, .int y20)]) (st' := [.ref 3, .ref 2]) rfl ?_
            refine En_getK (j := 2) h26 rfl rfl rfl tgz_3 (by decide +kernel) ?_
            refine En_Ps 2 (pc' := 49) (lv' := [(0, .ref 3), (1, .retAddr 25), (2, .int y20)]) (st' := [.int ((z10 + y20)), .ref 2]) rfl ?_
            refine En_top (addI rfl rfl (by omega) (by omega)) (fun z38 h39 => ?_)
            refine En_bald (l := (-128)) (u := 127) rfl rfl tgz_2 (by decide +kernel) h22 (by omega) (lnI (by decide +kernel : LN _ = 1600) (by omega)) (FTsgl (by decide +kernel)) (fun z41 h40 h42 h43 => ?_)
            refine En_Ps 2 (pc' := 52) (lv' := [(0, .ref 3), (1, .retAddr 25), (2, .int y20)]) (st' := [.int y20, .retAddr 25, .int z41]) rfl ?_
            refine En_scharX 12 4 rfl rfl rfl (by decide) (by omega) (by omega) rfl (fun z44 h45 h46 h47 => ?_)
            refine En_icEq _ rfl rfl rfl (fun h48 => ?_) (fun h48 => ?_)
            · refine En_Ps 1 (pc' := 63) (lv' := [(2, .int ((y20 + Int32.ofInt 1))), (0, .ref 3), (1, .retAddr 25)]) (st' := []) rfl ?_
              refine En_lv1 (addI rfl (by decide : (Int32.ofInt 1).toInt = 1) (by omega) (by omega)) (fun z49 h50 => ?_)
              refine En_Ps 1 (pc' := 28) (lv' := [(2, .int z49), (0, .ref 3), (1, .retAddr 25)]) (st' := []) rfl ?_
              refine En_lv (lv := [(0, .ref 3), (1, .retAddr 25), (2, .int z49)]) ⟨rfl, rfl, rfl, trivial⟩ ?_
              exact ih28 σ21 z49 h22 h23 h24 h25 h26 (by omega) (by omega) (by omega) (fun z => by have q1 := CT_t hC h1 z; have q2 := CT_fa hC h5 h9 z; exact ISQc_n (CT_fr hC h23 (by decide +kernel)) (Imp_m h30 z) (by simp only [LWl]; omega) (by omega) h40 h47 (by omega) (by omega))
            · refine En_Ps 1 (pc' := 59) (lv' := [(0, .ref 3), (1, .retAddr 25), (2, .int y20)]) (st' := [.int ((Int32.ofInt 0))]) rfl ?_
              refine En_top (by decide : (Int32.ofInt 0).toInt = 0) (fun z51 h52 => ?_)
              exact En_ret (v := some (.int z51)) rfl rfl (retZ rfl rfl (by omega) (by omega)) ⟨h22, h23, z51, rfl, ⟨by omega, by omega, fun z => by have q1 := CT_t hC h1 z; have q2 := CT_fa hC h5 h9 z; have q := ISQc_n (b' := 0) (CT_fr hC h23 (by decide +kernel)) (Imp_m h30 z) (by simp only [LWl]; omega) (by omega) h40 h47 rfl (Or.inr ⟨rfl, by omega⟩); have q2 := ISQ_x q (Or.inl rfl); omega⟩⟩
      have := (by decide : (Int32.ofInt 0).toInt = 0)
      refine En_lv (lv := [(0, .ref 3), (1, .retAddr 25), (2, .int ((Int32.ofInt 0)))]) ⟨rfl, rfl, rfl, trivial⟩ ?_
      exact key28 (Int.toNat (z6.toInt) + 1) σ0 ((Int32.ofInt 0)) hσ0 hF0 h1 h5 h9 (by omega) (by omega) (by omega) (fun z => by have q1 := CT_t hC h1 z; have q2 := CT_fa hC h5 h9 z; exact ISQc_s (by decide) z (by omega) (by simp only [LWl]; omega))
    · refine En_Ps 1 (pc' := 25) (lv' := [(0, .ref 3), (1, .retAddr 25)]) (st' := [.int ((Int32.ofInt 0))]) rfl ?_
      refine En_top (by decide : (Int32.ofInt 0).toInt = 0) (fun z53 h54 => ?_)
      exact En_ret (v := some (.int z53)) rfl rfl (retZ rfl rfl (by omega) (by omega)) ⟨hσ0, hF0, z53, rfl, ⟨by omega, by omega, fun z => by have q1 := CT_t hC h1 z; have q2 := CT_fa hC h5 h9 z; have q := iW_0 (By := By) (Nb := Nb) (i := 12) (S := Sp) (by simp only [LWl]; omega); omega⟩⟩
/-- DoorSchool$Reader.stands(Ljava/lang/String;)Z -/
abbrev P_71s13x (σ0 : SG) (By : Int → Int) (Nb : Int) (Sp : PS) : PO := fun v σ => WT σ ∧ Fr [] σ0 σ ∧ ∃ ret : Int32, v = some (.int ret) ∧ -ret.toInt ≤ 0 ∧ ret.toInt - 1 ≤ 0 ∧ Imp (Sp.1 = 0) (ret.toInt = iW By Nb 13 Sp)
set_option maxRecDepth 10000 in
set_option maxHeartbeats 4000000 in
theorem c_71s13x {By : Int → Int} {Nb : Int} {Sp : PS} (σ0 : SG) (hσ0 : WT σ0) (hC : CT By Nb σ0 Sp) : En 4 90 none mr_71 (P_71s13x σ0 By Nb Sp) 0 [(0, .ref 3), (1, .retAddr 27)] [] σ0 := by
  have hF0 : Fr [] σ0 σ0 := Fr_rfl
  obtain ⟨z2, h1, h3, h4⟩ := WT_peekI hσ0 tgz_3 (by decide +kernel : FT 3 1 = (0, 0, 4)) (by decide +kernel)
  obtain ⟨z6, h5, h7, h8⟩ := WT_peekI hσ0 tgz_3 (by decide +kernel : FT 3 3 = (0, 0, 1600)) (by decide +kernel)
  obtain ⟨z10, h9, h11, h12⟩ := WT_peekI hσ0 tgz_3 (by decide +kernel : FT 3 2 = (0, 0, 1600)) (by decide +kernel)
  have h13 : Imp (Sp.1 = 0) (tK By Nb Sp.2.2.1 = z2.toInt) := CT_t hC h1
  refine En_Ps 1 (pc' := 1) (lv' := [(0, .ref 3), (1, .retAddr 27)]) (st' := [.ref 3]) rfl ?_
  refine En_getK (j := 1) h1 rfl rfl rfl tgz_3 (by decide +kernel) ?_
  refine En_Ps 1 (pc' := 5) (lv' := [(0, .ref 3), (1, .retAddr 27)]) (st' := [.int ((Int32.ofInt 1)), .int z2]) rfl ?_
  refine En_icNe _ rfl (by decide : (Int32.ofInt 1).toInt = 1) rfl (fun h14 => ?_) (fun h14 => ?_)
  · refine En_Ps 1 (pc' := 25) (lv' := [(0, .ref 3), (1, .retAddr 27)]) (st' := [.int ((Int32.ofInt 0))]) rfl ?_
    refine En_top (by decide : (Int32.ofInt 0).toInt = 0) (fun z15 h16 => ?_)
    exact En_ret (v := some (.int z15)) rfl rfl (retZ rfl rfl (by omega) (by omega)) ⟨hσ0, hF0, z15, rfl, ⟨by omega, by omega, fun z => by have q1 := CT_t hC h1 z; have q2 := CT_fa hC h5 h9 z; have q := iW_0 (By := By) (Nb := Nb) (i := 13) (S := Sp) (by simp only [LWl]; omega); omega⟩⟩
  · refine En_Ps 1 (pc' := 9) (lv' := [(0, .ref 3), (1, .retAddr 27)]) (st' := [.ref 3]) rfl ?_
    refine En_getK (j := 3) h5 rfl rfl rfl tgz_3 (by decide +kernel) ?_
    refine En_Ps 1 (pc' := 13) (lv' := [(0, .ref 3), (1, .retAddr 27)]) (st' := [.ref 3, .int z6]) rfl ?_
    refine En_getK (j := 2) h9 rfl rfl rfl tgz_3 (by decide +kernel) ?_
    refine En_Ps 1 (pc' := 17) (lv' := [(0, .ref 3), (1, .retAddr 27)]) (st' := [.int ((z6 - z10))]) rfl ?_
    refine En_top (subI rfl rfl (by omega) (by omega)) (fun z17 h18 => ?_)
    refine En_Ps 1 (pc' := 18) (lv' := [(0, .ref 3), (1, .retAddr 27)]) (st' := [.retAddr 27, .int z17]) rfl ?_
    refine En_slen 13 5 rfl rfl (by decide) rfl ?_
    refine En_icEq _ rfl (by decide : (Int32.ofNat 5).toInt = 5) rfl (fun h19 => ?_) (fun h19 => ?_)
    · refine En_Ps 2 (pc' := 28) (lv' := [(2, .int ((Int32.ofInt 0))), (0, .ref 3), (1, .retAddr 27)]) (st' := []) rfl ?_
      have key28 : ∀ (n28 : Nat) (σ21 : SG) (y20 : Int32), WT σ21 → Fr [] σ0 σ21 → (σ21 3)[1]? = some (.int z2) → (σ21 3)[3]? = some (.int z6) → (σ21 3)[2]? = some (.int z10) → 0 ≤ y20.toInt → y20.toInt ≤ 5 → z6.toInt - y20.toInt < (n28 : Int) → Imp (Sp.1 = 0) (ISQ By Nb 13 Sp 1 y20.toInt) → En 4 90 none mr_71 (P_71s13x σ0 By Nb Sp) 28 [(0, .ref 3), (1, .retAddr 27), (2, .int y20)] [] σ21 := by
        intro n28
        induction n28 with
        | zero =>
          intro σ21 y20 h22 h23 h24 h25 h26 h27 h28 h29 h30
          exfalso; omega
        | succ n28 ih28 =>
          intro σ21 y20 h22 h23 h24 h25 h26 h27 h28 h29 h30
          refine En_Ps 2 (pc' := 30) (lv' := [(0, .ref 3), (1, .retAddr 27), (2, .int y20)]) (st' := [.retAddr 27, .int y20]) rfl ?_
          refine En_slen 13 5 rfl rfl (by decide) rfl ?_
          refine En_icGe _ rfl (by decide : (Int32.ofNat 5).toInt = 5) rfl (fun h31 => ?_) (fun h31 => ?_)
          · refine En_Ps 1 (pc' := 67) (lv' := [(0, .ref 3), (1, .retAddr 27), (2, .int y20)]) (st' := [.int ((Int32.ofInt 1))]) rfl ?_
            refine En_top (by decide : (Int32.ofInt 1).toInt = 1) (fun z32 h33 => ?_)
            exact En_ret (v := some (.int z32)) rfl rfl (retZ rfl rfl (by omega) (by omega)) ⟨h22, h23, z32, rfl, ⟨by omega, by omega, fun z => by have q := ISQ_x (Imp_m h30 z) (Or.inr (by simp only [LWl]; omega)); omega⟩⟩
          · refine En_Ps 1 (pc' := 37) (lv' := [(0, .ref 3), (1, .retAddr 27), (2, .int y20)]) (st' := [.ref 3]) rfl ?_
            refine En_getU (j := 0) (u := 1) (g' := 1) (q := 0) rfl rfl rfl tgz_3 (by decide +kernel) h22 (by decide +kernel) (by decide +kernel) (fun h34 => ?_)
            refine En_getU (j := 0) (u := 2) (g' := 2) (q := 0) rfl rfl rfl tgz_1 (by decide +kernel) h22 (by decide +kernel) (by decide +kernel) (fun h36 => ?_)
            refine En_Ps 1 (pc' := 44) (lv' := [(0, .ref 3), (1, .retAddr 27), (2, .int y20)]) (st' := [.ref 3, .ref 2]) rfl ?_
            refine En_getK (j := 2) h26 rfl rfl rfl tgz_3 (by decide +kernel) ?_
            refine En_Ps 2 (pc' := 49) (lv' := [(0, .ref 3), (1, .retAddr 27), (2, .int y20)]) (st' := [.int ((z10 + y20)), .ref 2]) rfl ?_
            refine En_top (addI rfl rfl (by omega) (by omega)) (fun z38 h39 => ?_)
            refine En_bald (l := (-128)) (u := 127) rfl rfl tgz_2 (by decide +kernel) h22 (by omega) (lnI (by decide +kernel : LN _ = 1600) (by omega)) (FTsgl (by decide +kernel)) (fun z41 h40 h42 h43 => ?_)
            refine En_Ps 2 (pc' := 52) (lv' := [(0, .ref 3), (1, .retAddr 27), (2, .int y20)]) (st' := [.int y20, .retAddr 27, .int z41]) rfl ?_
            refine En_scharX 13 5 rfl rfl rfl (by decide) (by omega) (by omega) rfl (fun z44 h45 h46 h47 => ?_)
            refine En_icEq _ rfl rfl rfl (fun h48 => ?_) (fun h48 => ?_)
            · refine En_Ps 1 (pc' := 63) (lv' := [(2, .int ((y20 + Int32.ofInt 1))), (0, .ref 3), (1, .retAddr 27)]) (st' := []) rfl ?_
              refine En_lv1 (addI rfl (by decide : (Int32.ofInt 1).toInt = 1) (by omega) (by omega)) (fun z49 h50 => ?_)
              refine En_Ps 1 (pc' := 28) (lv' := [(2, .int z49), (0, .ref 3), (1, .retAddr 27)]) (st' := []) rfl ?_
              refine En_lv (lv := [(0, .ref 3), (1, .retAddr 27), (2, .int z49)]) ⟨rfl, rfl, rfl, trivial⟩ ?_
              exact ih28 σ21 z49 h22 h23 h24 h25 h26 (by omega) (by omega) (by omega) (fun z => by have q1 := CT_t hC h1 z; have q2 := CT_fa hC h5 h9 z; exact ISQc_n (CT_fr hC h23 (by decide +kernel)) (Imp_m h30 z) (by simp only [LWl]; omega) (by omega) h40 h47 (by omega) (by omega))
            · refine En_Ps 1 (pc' := 59) (lv' := [(0, .ref 3), (1, .retAddr 27), (2, .int y20)]) (st' := [.int ((Int32.ofInt 0))]) rfl ?_
              refine En_top (by decide : (Int32.ofInt 0).toInt = 0) (fun z51 h52 => ?_)
              exact En_ret (v := some (.int z51)) rfl rfl (retZ rfl rfl (by omega) (by omega)) ⟨h22, h23, z51, rfl, ⟨by omega, by omega, fun z => by have q1 := CT_t hC h1 z; have q2 := CT_fa hC h5 h9 z; have q := ISQc_n (b' := 0) (CT_fr hC h23 (by decide +kernel)) (Imp_m h30 z) (by simp only [LWl]; omega) (by omega) h40 h47 rfl (Or.inr ⟨rfl, by omega⟩); have q2 := ISQ_x q (Or.inl rfl); omega⟩⟩
      have := (by decide : (Int32.ofInt 0).toInt = 0)
      refine En_lv (lv := [(0, .ref 3), (1, .retAddr 27), (2, .int ((Int32.ofInt 0)))]) ⟨rfl, rfl, rfl, trivial⟩ ?_
      exact key28 (Int.toNat (z6.toInt) + 1) σ0 ((Int32.ofInt 0)) hσ0 hF0 h1 h5 h9 (by omega) (by omega) (by omega) (fun z => by have q1 := CT_t hC h1 z; have q2 := CT_fa hC h5 h9 z; exact ISQc_s (by decide) z (by omega) (by simp only [LWl]; omega))
    · refine En_Ps 1 (pc' := 25) (lv' := [(0, .ref 3), (1, .retAddr 27)]) (st' := [.int ((Int32.ofInt 0))]) rfl ?_
      refine En_top (by decide : (Int32.ofInt 0).toInt = 0) (fun z53 h54 => ?_)
      exact En_ret (v := some (.int z53)) rfl rfl (retZ rfl rfl (by omega) (by omega)) ⟨hσ0, hF0, z53, rfl, ⟨by omega, by omega, fun z => by have q1 := CT_t hC h1 z; have q2 := CT_fa hC h5 h9 z; have q := iW_0 (By := By) (Nb := Nb) (i := 13) (S := Sp) (by simp only [LWl]; omega); omega⟩⟩
/-- DoorSchool$Reader.stands(Ljava/lang/String;)Z -/
abbrev P_71s14x (σ0 : SG) (By : Int → Int) (Nb : Int) (Sp : PS) : PO := fun v σ => WT σ ∧ Fr [] σ0 σ ∧ ∃ ret : Int32, v = some (.int ret) ∧ -ret.toInt ≤ 0 ∧ ret.toInt - 1 ≤ 0 ∧ Imp (Sp.1 = 0) (ret.toInt = iW By Nb 14 Sp)
set_option maxRecDepth 10000 in
set_option maxHeartbeats 4000000 in
theorem c_71s14x {By : Int → Int} {Nb : Int} {Sp : PS} (σ0 : SG) (hσ0 : WT σ0) (hC : CT By Nb σ0 Sp) : En 4 90 none mr_71 (P_71s14x σ0 By Nb Sp) 0 [(0, .ref 3), (1, .retAddr 29)] [] σ0 := by
  have hF0 : Fr [] σ0 σ0 := Fr_rfl
  obtain ⟨z2, h1, h3, h4⟩ := WT_peekI hσ0 tgz_3 (by decide +kernel : FT 3 1 = (0, 0, 4)) (by decide +kernel)
  obtain ⟨z6, h5, h7, h8⟩ := WT_peekI hσ0 tgz_3 (by decide +kernel : FT 3 3 = (0, 0, 1600)) (by decide +kernel)
  obtain ⟨z10, h9, h11, h12⟩ := WT_peekI hσ0 tgz_3 (by decide +kernel : FT 3 2 = (0, 0, 1600)) (by decide +kernel)
  have h13 : Imp (Sp.1 = 0) (tK By Nb Sp.2.2.1 = z2.toInt) := CT_t hC h1
  refine En_Ps 1 (pc' := 1) (lv' := [(0, .ref 3), (1, .retAddr 29)]) (st' := [.ref 3]) rfl ?_
  refine En_getK (j := 1) h1 rfl rfl rfl tgz_3 (by decide +kernel) ?_
  refine En_Ps 1 (pc' := 5) (lv' := [(0, .ref 3), (1, .retAddr 29)]) (st' := [.int ((Int32.ofInt 1)), .int z2]) rfl ?_
  refine En_icNe _ rfl (by decide : (Int32.ofInt 1).toInt = 1) rfl (fun h14 => ?_) (fun h14 => ?_)
  · refine En_Ps 1 (pc' := 25) (lv' := [(0, .ref 3), (1, .retAddr 29)]) (st' := [.int ((Int32.ofInt 0))]) rfl ?_
    refine En_top (by decide : (Int32.ofInt 0).toInt = 0) (fun z15 h16 => ?_)
    exact En_ret (v := some (.int z15)) rfl rfl (retZ rfl rfl (by omega) (by omega)) ⟨hσ0, hF0, z15, rfl, ⟨by omega, by omega, fun z => by have q1 := CT_t hC h1 z; have q2 := CT_fa hC h5 h9 z; have q := iW_0 (By := By) (Nb := Nb) (i := 14) (S := Sp) (by simp only [LWl]; omega); omega⟩⟩
  · refine En_Ps 1 (pc' := 9) (lv' := [(0, .ref 3), (1, .retAddr 29)]) (st' := [.ref 3]) rfl ?_
    refine En_getK (j := 3) h5 rfl rfl rfl tgz_3 (by decide +kernel) ?_
    refine En_Ps 1 (pc' := 13) (lv' := [(0, .ref 3), (1, .retAddr 29)]) (st' := [.ref 3, .int z6]) rfl ?_
    refine En_getK (j := 2) h9 rfl rfl rfl tgz_3 (by decide +kernel) ?_
    refine En_Ps 1 (pc' := 17) (lv' := [(0, .ref 3), (1, .retAddr 29)]) (st' := [.int ((z6 - z10))]) rfl ?_
    refine En_top (subI rfl rfl (by omega) (by omega)) (fun z17 h18 => ?_)
    refine En_Ps 1 (pc' := 18) (lv' := [(0, .ref 3), (1, .retAddr 29)]) (st' := [.retAddr 29, .int z17]) rfl ?_
    refine En_slen 14 5 rfl rfl (by decide) rfl ?_
    refine En_icEq _ rfl (by decide : (Int32.ofNat 5).toInt = 5) rfl (fun h19 => ?_) (fun h19 => ?_)
    · refine En_Ps 2 (pc' := 28) (lv' := [(2, .int ((Int32.ofInt 0))), (0, .ref 3), (1, .retAddr 29)]) (st' := []) rfl ?_
      have key28 : ∀ (n28 : Nat) (σ21 : SG) (y20 : Int32), WT σ21 → Fr [] σ0 σ21 → (σ21 3)[1]? = some (.int z2) → (σ21 3)[3]? = some (.int z6) → (σ21 3)[2]? = some (.int z10) → 0 ≤ y20.toInt → y20.toInt ≤ 5 → z6.toInt - y20.toInt < (n28 : Int) → Imp (Sp.1 = 0) (ISQ By Nb 14 Sp 1 y20.toInt) → En 4 90 none mr_71 (P_71s14x σ0 By Nb Sp) 28 [(0, .ref 3), (1, .retAddr 29), (2, .int y20)] [] σ21 := by
        intro n28
        induction n28 with
        | zero =>
          intro σ21 y20 h22 h23 h24 h25 h26 h27 h28 h29 h30
          exfalso; omega
        | succ n28 ih28 =>
          intro σ21 y20 h22 h23 h24 h25 h26 h27 h28 h29 h30
          refine En_Ps 2 (pc' := 30) (lv' := [(0, .ref 3), (1, .retAddr 29), (2, .int y20)]) (st' := [.retAddr 29, .int y20]) rfl ?_
          refine En_slen 14 5 rfl rfl (by decide) rfl ?_
          refine En_icGe _ rfl (by decide : (Int32.ofNat 5).toInt = 5) rfl (fun h31 => ?_) (fun h31 => ?_)
          · refine En_Ps 1 (pc' := 67) (lv' := [(0, .ref 3), (1, .retAddr 29), (2, .int y20)]) (st' := [.int ((Int32.ofInt 1))]) rfl ?_
            refine En_top (by decide : (Int32.ofInt 1).toInt = 1) (fun z32 h33 => ?_)
            exact En_ret (v := some (.int z32)) rfl rfl (retZ rfl rfl (by omega) (by omega)) ⟨h22, h23, z32, rfl, ⟨by omega, by omega, fun z => by have q := ISQ_x (Imp_m h30 z) (Or.inr (by simp only [LWl]; omega)); omega⟩⟩
          · refine En_Ps 1 (pc' := 37) (lv' := [(0, .ref 3), (1, .retAddr 29), (2, .int y20)]) (st' := [.ref 3]) rfl ?_
            refine En_getU (j := 0) (u := 1) (g' := 1) (q := 0) rfl rfl rfl tgz_3 (by decide +kernel) h22 (by decide +kernel) (by decide +kernel) (fun h34 => ?_)
            refine En_getU (j := 0) (u := 2) (g' := 2) (q := 0) rfl rfl rfl tgz_1 (by decide +kernel) h22 (by decide +kernel) (by decide +kernel) (fun h36 => ?_)
            refine En_Ps 1 (pc' := 44) (lv' := [(0, .ref 3), (1, .retAddr 29), (2, .int y20)]) (st' := [.ref 3, .ref 2]) rfl ?_
            refine En_getK (j := 2) h26 rfl rfl rfl tgz_3 (by decide +kernel) ?_
            refine En_Ps 2 (pc' := 49) (lv' := [(0, .ref 3), (1, .retAddr 29), (2, .int y20)]) (st' := [.int ((z10 + y20)), .ref 2]) rfl ?_
            refine En_top (addI rfl rfl (by omega) (by omega)) (fun z38 h39 => ?_)
            refine En_bald (l := (-128)) (u := 127) rfl rfl tgz_2 (by decide +kernel) h22 (by omega) (lnI (by decide +kernel : LN _ = 1600) (by omega)) (FTsgl (by decide +kernel)) (fun z41 h40 h42 h43 => ?_)
            refine En_Ps 2 (pc' := 52) (lv' := [(0, .ref 3), (1, .retAddr 29), (2, .int y20)]) (st' := [.int y20, .retAddr 29, .int z41]) rfl ?_
            refine En_scharX 14 5 rfl rfl rfl (by decide) (by omega) (by omega) rfl (fun z44 h45 h46 h47 => ?_)
            refine En_icEq _ rfl rfl rfl (fun h48 => ?_) (fun h48 => ?_)
            · refine En_Ps 1 (pc' := 63) (lv' := [(2, .int ((y20 + Int32.ofInt 1))), (0, .ref 3), (1, .retAddr 29)]) (st' := []) rfl ?_
              refine En_lv1 (addI rfl (by decide : (Int32.ofInt 1).toInt = 1) (by omega) (by omega)) (fun z49 h50 => ?_)
              refine En_Ps 1 (pc' := 28) (lv' := [(2, .int z49), (0, .ref 3), (1, .retAddr 29)]) (st' := []) rfl ?_
              refine En_lv (lv := [(0, .ref 3), (1, .retAddr 29), (2, .int z49)]) ⟨rfl, rfl, rfl, trivial⟩ ?_
              exact ih28 σ21 z49 h22 h23 h24 h25 h26 (by omega) (by omega) (by omega) (fun z => by have q1 := CT_t hC h1 z; have q2 := CT_fa hC h5 h9 z; exact ISQc_n (CT_fr hC h23 (by decide +kernel)) (Imp_m h30 z) (by simp only [LWl]; omega) (by omega) h40 h47 (by omega) (by omega))
            · refine En_Ps 1 (pc' := 59) (lv' := [(0, .ref 3), (1, .retAddr 29), (2, .int y20)]) (st' := [.int ((Int32.ofInt 0))]) rfl ?_
              refine En_top (by decide : (Int32.ofInt 0).toInt = 0) (fun z51 h52 => ?_)
              exact En_ret (v := some (.int z51)) rfl rfl (retZ rfl rfl (by omega) (by omega)) ⟨h22, h23, z51, rfl, ⟨by omega, by omega, fun z => by have q1 := CT_t hC h1 z; have q2 := CT_fa hC h5 h9 z; have q := ISQc_n (b' := 0) (CT_fr hC h23 (by decide +kernel)) (Imp_m h30 z) (by simp only [LWl]; omega) (by omega) h40 h47 rfl (Or.inr ⟨rfl, by omega⟩); have q2 := ISQ_x q (Or.inl rfl); omega⟩⟩
      have := (by decide : (Int32.ofInt 0).toInt = 0)
      refine En_lv (lv := [(0, .ref 3), (1, .retAddr 29), (2, .int ((Int32.ofInt 0)))]) ⟨rfl, rfl, rfl, trivial⟩ ?_
      exact key28 (Int.toNat (z6.toInt) + 1) σ0 ((Int32.ofInt 0)) hσ0 hF0 h1 h5 h9 (by omega) (by omega) (by omega) (fun z => by have q1 := CT_t hC h1 z; have q2 := CT_fa hC h5 h9 z; exact ISQc_s (by decide) z (by omega) (by simp only [LWl]; omega))
    · refine En_Ps 1 (pc' := 25) (lv' := [(0, .ref 3), (1, .retAddr 29)]) (st' := [.int ((Int32.ofInt 0))]) rfl ?_
      refine En_top (by decide : (Int32.ofInt 0).toInt = 0) (fun z53 h54 => ?_)
      exact En_ret (v := some (.int z53)) rfl rfl (retZ rfl rfl (by omega) (by omega)) ⟨hσ0, hF0, z53, rfl, ⟨by omega, by omega, fun z => by have q1 := CT_t hC h1 z; have q2 := CT_fa hC h5 h9 z; have q := iW_0 (By := By) (Nb := Nb) (i := 14) (S := Sp) (by simp only [LWl]; omega); omega⟩⟩
/-- DoorSchool$Reader.stands(Ljava/lang/String;)Z -/
abbrev P_71s15x (σ0 : SG) (By : Int → Int) (Nb : Int) (Sp : PS) : PO := fun v σ => WT σ ∧ Fr [] σ0 σ ∧ ∃ ret : Int32, v = some (.int ret) ∧ -ret.toInt ≤ 0 ∧ ret.toInt - 1 ≤ 0 ∧ Imp (Sp.1 = 0) (ret.toInt = iW By Nb 15 Sp)
set_option maxRecDepth 10000 in
set_option maxHeartbeats 4000000 in
theorem c_71s15x {By : Int → Int} {Nb : Int} {Sp : PS} (σ0 : SG) (hσ0 : WT σ0) (hC : CT By Nb σ0 Sp) : En 4 90 none mr_71 (P_71s15x σ0 By Nb Sp) 0 [(0, .ref 3), (1, .retAddr 31)] [] σ0 := by
  have hF0 : Fr [] σ0 σ0 := Fr_rfl
  obtain ⟨z2, h1, h3, h4⟩ := WT_peekI hσ0 tgz_3 (by decide +kernel : FT 3 1 = (0, 0, 4)) (by decide +kernel)
  obtain ⟨z6, h5, h7, h8⟩ := WT_peekI hσ0 tgz_3 (by decide +kernel : FT 3 3 = (0, 0, 1600)) (by decide +kernel)
  obtain ⟨z10, h9, h11, h12⟩ := WT_peekI hσ0 tgz_3 (by decide +kernel : FT 3 2 = (0, 0, 1600)) (by decide +kernel)
  have h13 : Imp (Sp.1 = 0) (tK By Nb Sp.2.2.1 = z2.toInt) := CT_t hC h1
  refine En_Ps 1 (pc' := 1) (lv' := [(0, .ref 3), (1, .retAddr 31)]) (st' := [.ref 3]) rfl ?_
  refine En_getK (j := 1) h1 rfl rfl rfl tgz_3 (by decide +kernel) ?_
  refine En_Ps 1 (pc' := 5) (lv' := [(0, .ref 3), (1, .retAddr 31)]) (st' := [.int ((Int32.ofInt 1)), .int z2]) rfl ?_
  refine En_icNe _ rfl (by decide : (Int32.ofInt 1).toInt = 1) rfl (fun h14 => ?_) (fun h14 => ?_)
  · refine En_Ps 1 (pc' := 25) (lv' := [(0, .ref 3), (1, .retAddr 31)]) (st' := [.int ((Int32.ofInt 0))]) rfl ?_
    refine En_top (by decide : (Int32.ofInt 0).toInt = 0) (fun z15 h16 => ?_)
    exact En_ret (v := some (.int z15)) rfl rfl (retZ rfl rfl (by omega) (by omega)) ⟨hσ0, hF0, z15, rfl, ⟨by omega, by omega, fun z => by have q1 := CT_t hC h1 z; have q2 := CT_fa hC h5 h9 z; have q := iW_0 (By := By) (Nb := Nb) (i := 15) (S := Sp) (by simp only [LWl]; omega); omega⟩⟩
  · refine En_Ps 1 (pc' := 9) (lv' := [(0, .ref 3), (1, .retAddr 31)]) (st' := [.ref 3]) rfl ?_
    refine En_getK (j := 3) h5 rfl rfl rfl tgz_3 (by decide +kernel) ?_
    refine En_Ps 1 (pc' := 13) (lv' := [(0, .ref 3), (1, .retAddr 31)]) (st' := [.ref 3, .int z6]) rfl ?_
    refine En_getK (j := 2) h9 rfl rfl rfl tgz_3 (by decide +kernel) ?_
    refine En_Ps 1 (pc' := 17) (lv' := [(0, .ref 3), (1, .retAddr 31)]) (st' := [.int ((z6 - z10))]) rfl ?_
    refine En_top (subI rfl rfl (by omega) (by omega)) (fun z17 h18 => ?_)
    refine En_Ps 1 (pc' := 18) (lv' := [(0, .ref 3), (1, .retAddr 31)]) (st' := [.retAddr 31, .int z17]) rfl ?_
    refine En_slen 15 5 rfl rfl (by decide) rfl ?_
    refine En_icEq _ rfl (by decide : (Int32.ofNat 5).toInt = 5) rfl (fun h19 => ?_) (fun h19 => ?_)
    · refine En_Ps 2 (pc' := 28) (lv' := [(2, .int ((Int32.ofInt 0))), (0, .ref 3), (1, .retAddr 31)]) (st' := []) rfl ?_
      have key28 : ∀ (n28 : Nat) (σ21 : SG) (y20 : Int32), WT σ21 → Fr [] σ0 σ21 → (σ21 3)[1]? = some (.int z2) → (σ21 3)[3]? = some (.int z6) → (σ21 3)[2]? = some (.int z10) → 0 ≤ y20.toInt → y20.toInt ≤ 5 → z6.toInt - y20.toInt < (n28 : Int) → Imp (Sp.1 = 0) (ISQ By Nb 15 Sp 1 y20.toInt) → En 4 90 none mr_71 (P_71s15x σ0 By Nb Sp) 28 [(0, .ref 3), (1, .retAddr 31), (2, .int y20)] [] σ21 := by
        intro n28
        induction n28 with
        | zero =>
          intro σ21 y20 h22 h23 h24 h25 h26 h27 h28 h29 h30
          exfalso; omega
        | succ n28 ih28 =>
          intro σ21 y20 h22 h23 h24 h25 h26 h27 h28 h29 h30
          refine En_Ps 2 (pc' := 30) (lv' := [(0, .ref 3), (1, .retAddr 31), (2, .int y20)]) (st' := [.retAddr 31, .int y20]) rfl ?_
          refine En_slen 15 5 rfl rfl (by decide) rfl ?_
          refine En_icGe _ rfl (by decide : (Int32.ofNat 5).toInt = 5) rfl (fun h31 => ?_) (fun h31 => ?_)
          · refine En_Ps 1 (pc' := 67) (lv' := [(0, .ref 3), (1, .retAddr 31), (2, .int y20)]) (st' := [.int ((Int32.ofInt 1))]) rfl ?_
            refine En_top (by decide : (Int32.ofInt 1).toInt = 1) (fun z32 h33 => ?_)
            exact En_ret (v := some (.int z32)) rfl rfl (retZ rfl rfl (by omega) (by omega)) ⟨h22, h23, z32, rfl, ⟨by omega, by omega, fun z => by have q := ISQ_x (Imp_m h30 z) (Or.inr (by simp only [LWl]; omega)); omega⟩⟩
          · refine En_Ps 1 (pc' := 37) (lv' := [(0, .ref 3), (1, .retAddr 31), (2, .int y20)]) (st' := [.ref 3]) rfl ?_
            refine En_getU (j := 0) (u := 1) (g' := 1) (q := 0) rfl rfl rfl tgz_3 (by decide +kernel) h22 (by decide +kernel) (by decide +kernel) (fun h34 => ?_)
            refine En_getU (j := 0) (u := 2) (g' := 2) (q := 0) rfl rfl rfl tgz_1 (by decide +kernel) h22 (by decide +kernel) (by decide +kernel) (fun h36 => ?_)
            refine En_Ps 1 (pc' := 44) (lv' := [(0, .ref 3), (1, .retAddr 31), (2, .int y20)]) (st' := [.ref 3, .ref 2]) rfl ?_
            refine En_getK (j := 2) h26 rfl rfl rfl tgz_3 (by decide +kernel) ?_
            refine En_Ps 2 (pc' := 49) (lv' := [(0, .ref 3), (1, .retAddr 31), (2, .int y20)]) (st' := [.int ((z10 + y20)), .ref 2]) rfl ?_
            refine En_top (addI rfl rfl (by omega) (by omega)) (fun z38 h39 => ?_)
            refine En_bald (l := (-128)) (u := 127) rfl rfl tgz_2 (by decide +kernel) h22 (by omega) (lnI (by decide +kernel : LN _ = 1600) (by omega)) (FTsgl (by decide +kernel)) (fun z41 h40 h42 h43 => ?_)
            refine En_Ps 2 (pc' := 52) (lv' := [(0, .ref 3), (1, .retAddr 31), (2, .int y20)]) (st' := [.int y20, .retAddr 31, .int z41]) rfl ?_
            refine En_scharX 15 5 rfl rfl rfl (by decide) (by omega) (by omega) rfl (fun z44 h45 h46 h47 => ?_)
            refine En_icEq _ rfl rfl rfl (fun h48 => ?_) (fun h48 => ?_)
            · refine En_Ps 1 (pc' := 63) (lv' := [(2, .int ((y20 + Int32.ofInt 1))), (0, .ref 3), (1, .retAddr 31)]) (st' := []) rfl ?_
              refine En_lv1 (addI rfl (by decide : (Int32.ofInt 1).toInt = 1) (by omega) (by omega)) (fun z49 h50 => ?_)
              refine En_Ps 1 (pc' := 28) (lv' := [(2, .int z49), (0, .ref 3), (1, .retAddr 31)]) (st' := []) rfl ?_
              refine En_lv (lv := [(0, .ref 3), (1, .retAddr 31), (2, .int z49)]) ⟨rfl, rfl, rfl, trivial⟩ ?_
              exact ih28 σ21 z49 h22 h23 h24 h25 h26 (by omega) (by omega) (by omega) (fun z => by have q1 := CT_t hC h1 z; have q2 := CT_fa hC h5 h9 z; exact ISQc_n (CT_fr hC h23 (by decide +kernel)) (Imp_m h30 z) (by simp only [LWl]; omega) (by omega) h40 h47 (by omega) (by omega))
            · refine En_Ps 1 (pc' := 59) (lv' := [(0, .ref 3), (1, .retAddr 31), (2, .int y20)]) (st' := [.int ((Int32.ofInt 0))]) rfl ?_
              refine En_top (by decide : (Int32.ofInt 0).toInt = 0) (fun z51 h52 => ?_)
              exact En_ret (v := some (.int z51)) rfl rfl (retZ rfl rfl (by omega) (by omega)) ⟨h22, h23, z51, rfl, ⟨by omega, by omega, fun z => by have q1 := CT_t hC h1 z; have q2 := CT_fa hC h5 h9 z; have q := ISQc_n (b' := 0) (CT_fr hC h23 (by decide +kernel)) (Imp_m h30 z) (by simp only [LWl]; omega) (by omega) h40 h47 rfl (Or.inr ⟨rfl, by omega⟩); have q2 := ISQ_x q (Or.inl rfl); omega⟩⟩
      have := (by decide : (Int32.ofInt 0).toInt = 0)
      refine En_lv (lv := [(0, .ref 3), (1, .retAddr 31), (2, .int ((Int32.ofInt 0)))]) ⟨rfl, rfl, rfl, trivial⟩ ?_
      exact key28 (Int.toNat (z6.toInt) + 1) σ0 ((Int32.ofInt 0)) hσ0 hF0 h1 h5 h9 (by omega) (by omega) (by omega) (fun z => by have q1 := CT_t hC h1 z; have q2 := CT_fa hC h5 h9 z; exact ISQc_s (by decide) z (by omega) (by simp only [LWl]; omega))
    · refine En_Ps 1 (pc' := 25) (lv' := [(0, .ref 3), (1, .retAddr 31)]) (st' := [.int ((Int32.ofInt 0))]) rfl ?_
      refine En_top (by decide : (Int32.ofInt 0).toInt = 0) (fun z53 h54 => ?_)
      exact En_ret (v := some (.int z53)) rfl rfl (retZ rfl rfl (by omega) (by omega)) ⟨hσ0, hF0, z53, rfl, ⟨by omega, by omega, fun z => by have q1 := CT_t hC h1 z; have q2 := CT_fa hC h5 h9 z; have q := iW_0 (By := By) (Nb := Nb) (i := 15) (S := Sp) (by simp only [LWl]; omega); omega⟩⟩
/-- DoorSchool$Reader.stands(Ljava/lang/String;)Z -/
abbrev P_71s16x (σ0 : SG) (By : Int → Int) (Nb : Int) (Sp : PS) : PO := fun v σ => WT σ ∧ Fr [] σ0 σ ∧ ∃ ret : Int32, v = some (.int ret) ∧ -ret.toInt ≤ 0 ∧ ret.toInt - 1 ≤ 0 ∧ Imp (Sp.1 = 0) (ret.toInt = iW By Nb 16 Sp)
set_option maxRecDepth 10000 in
set_option maxHeartbeats 4000000 in
theorem c_71s16x {By : Int → Int} {Nb : Int} {Sp : PS} (σ0 : SG) (hσ0 : WT σ0) (hC : CT By Nb σ0 Sp) : En 4 90 none mr_71 (P_71s16x σ0 By Nb Sp) 0 [(0, .ref 3), (1, .retAddr 33)] [] σ0 := by
  have hF0 : Fr [] σ0 σ0 := Fr_rfl
  obtain ⟨z2, h1, h3, h4⟩ := WT_peekI hσ0 tgz_3 (by decide +kernel : FT 3 1 = (0, 0, 4)) (by decide +kernel)
  obtain ⟨z6, h5, h7, h8⟩ := WT_peekI hσ0 tgz_3 (by decide +kernel : FT 3 3 = (0, 0, 1600)) (by decide +kernel)
  obtain ⟨z10, h9, h11, h12⟩ := WT_peekI hσ0 tgz_3 (by decide +kernel : FT 3 2 = (0, 0, 1600)) (by decide +kernel)
  have h13 : Imp (Sp.1 = 0) (tK By Nb Sp.2.2.1 = z2.toInt) := CT_t hC h1
  refine En_Ps 1 (pc' := 1) (lv' := [(0, .ref 3), (1, .retAddr 33)]) (st' := [.ref 3]) rfl ?_
  refine En_getK (j := 1) h1 rfl rfl rfl tgz_3 (by decide +kernel) ?_
  refine En_Ps 1 (pc' := 5) (lv' := [(0, .ref 3), (1, .retAddr 33)]) (st' := [.int ((Int32.ofInt 1)), .int z2]) rfl ?_
  refine En_icNe _ rfl (by decide : (Int32.ofInt 1).toInt = 1) rfl (fun h14 => ?_) (fun h14 => ?_)
  · refine En_Ps 1 (pc' := 25) (lv' := [(0, .ref 3), (1, .retAddr 33)]) (st' := [.int ((Int32.ofInt 0))]) rfl ?_
    refine En_top (by decide : (Int32.ofInt 0).toInt = 0) (fun z15 h16 => ?_)
    exact En_ret (v := some (.int z15)) rfl rfl (retZ rfl rfl (by omega) (by omega)) ⟨hσ0, hF0, z15, rfl, ⟨by omega, by omega, fun z => by have q1 := CT_t hC h1 z; have q2 := CT_fa hC h5 h9 z; have q := iW_0 (By := By) (Nb := Nb) (i := 16) (S := Sp) (by simp only [LWl]; omega); omega⟩⟩
  · refine En_Ps 1 (pc' := 9) (lv' := [(0, .ref 3), (1, .retAddr 33)]) (st' := [.ref 3]) rfl ?_
    refine En_getK (j := 3) h5 rfl rfl rfl tgz_3 (by decide +kernel) ?_
    refine En_Ps 1 (pc' := 13) (lv' := [(0, .ref 3), (1, .retAddr 33)]) (st' := [.ref 3, .int z6]) rfl ?_
    refine En_getK (j := 2) h9 rfl rfl rfl tgz_3 (by decide +kernel) ?_
    refine En_Ps 1 (pc' := 17) (lv' := [(0, .ref 3), (1, .retAddr 33)]) (st' := [.int ((z6 - z10))]) rfl ?_
    refine En_top (subI rfl rfl (by omega) (by omega)) (fun z17 h18 => ?_)
    refine En_Ps 1 (pc' := 18) (lv' := [(0, .ref 3), (1, .retAddr 33)]) (st' := [.retAddr 33, .int z17]) rfl ?_
    refine En_slen 16 8 rfl rfl (by decide) rfl ?_
    refine En_icEq _ rfl (by decide : (Int32.ofNat 8).toInt = 8) rfl (fun h19 => ?_) (fun h19 => ?_)
    · refine En_Ps 2 (pc' := 28) (lv' := [(2, .int ((Int32.ofInt 0))), (0, .ref 3), (1, .retAddr 33)]) (st' := []) rfl ?_
      have key28 : ∀ (n28 : Nat) (σ21 : SG) (y20 : Int32), WT σ21 → Fr [] σ0 σ21 → (σ21 3)[1]? = some (.int z2) → (σ21 3)[3]? = some (.int z6) → (σ21 3)[2]? = some (.int z10) → 0 ≤ y20.toInt → y20.toInt ≤ 8 → z6.toInt - y20.toInt < (n28 : Int) → Imp (Sp.1 = 0) (ISQ By Nb 16 Sp 1 y20.toInt) → En 4 90 none mr_71 (P_71s16x σ0 By Nb Sp) 28 [(0, .ref 3), (1, .retAddr 33), (2, .int y20)] [] σ21 := by
        intro n28
        induction n28 with
        | zero =>
          intro σ21 y20 h22 h23 h24 h25 h26 h27 h28 h29 h30
          exfalso; omega
        | succ n28 ih28 =>
          intro σ21 y20 h22 h23 h24 h25 h26 h27 h28 h29 h30
          refine En_Ps 2 (pc' := 30) (lv' := [(0, .ref 3), (1, .retAddr 33), (2, .int y20)]) (st' := [.retAddr 33, .int y20]) rfl ?_
          refine En_slen 16 8 rfl rfl (by decide) rfl ?_
          refine En_icGe _ rfl (by decide : (Int32.ofNat 8).toInt = 8) rfl (fun h31 => ?_) (fun h31 => ?_)
          · refine En_Ps 1 (pc' := 67) (lv' := [(0, .ref 3), (1, .retAddr 33), (2, .int y20)]) (st' := [.int ((Int32.ofInt 1))]) rfl ?_
            refine En_top (by decide : (Int32.ofInt 1).toInt = 1) (fun z32 h33 => ?_)
            exact En_ret (v := some (.int z32)) rfl rfl (retZ rfl rfl (by omega) (by omega)) ⟨h22, h23, z32, rfl, ⟨by omega, by omega, fun z => by have q := ISQ_x (Imp_m h30 z) (Or.inr (by simp only [LWl]; omega)); omega⟩⟩
          · refine En_Ps 1 (pc' := 37) (lv' := [(0, .ref 3), (1, .retAddr 33), (2, .int y20)]) (st' := [.ref 3]) rfl ?_
            refine En_getU (j := 0) (u := 1) (g' := 1) (q := 0) rfl rfl rfl tgz_3 (by decide +kernel) h22 (by decide +kernel) (by decide +kernel) (fun h34 => ?_)
            refine En_getU (j := 0) (u := 2) (g' := 2) (q := 0) rfl rfl rfl tgz_1 (by decide +kernel) h22 (by decide +kernel) (by decide +kernel) (fun h36 => ?_)
            refine En_Ps 1 (pc' := 44) (lv' := [(0, .ref 3), (1, .retAddr 33), (2, .int y20)]) (st' := [.ref 3, .ref 2]) rfl ?_
            refine En_getK (j := 2) h26 rfl rfl rfl tgz_3 (by decide +kernel) ?_
            refine En_Ps 2 (pc' := 49) (lv' := [(0, .ref 3), (1, .retAddr 33), (2, .int y20)]) (st' := [.int ((z10 + y20)), .ref 2]) rfl ?_
            refine En_top (addI rfl rfl (by omega) (by omega)) (fun z38 h39 => ?_)
            refine En_bald (l := (-128)) (u := 127) rfl rfl tgz_2 (by decide +kernel) h22 (by omega) (lnI (by decide +kernel : LN _ = 1600) (by omega)) (FTsgl (by decide +kernel)) (fun z41 h40 h42 h43 => ?_)
            refine En_Ps 2 (pc' := 52) (lv' := [(0, .ref 3), (1, .retAddr 33), (2, .int y20)]) (st' := [.int y20, .retAddr 33, .int z41]) rfl ?_
            refine En_scharX 16 8 rfl rfl rfl (by decide) (by omega) (by omega) rfl (fun z44 h45 h46 h47 => ?_)
            refine En_icEq _ rfl rfl rfl (fun h48 => ?_) (fun h48 => ?_)
            · refine En_Ps 1 (pc' := 63) (lv' := [(2, .int ((y20 + Int32.ofInt 1))), (0, .ref 3), (1, .retAddr 33)]) (st' := []) rfl ?_
              refine En_lv1 (addI rfl (by decide : (Int32.ofInt 1).toInt = 1) (by omega) (by omega)) (fun z49 h50 => ?_)
              refine En_Ps 1 (pc' := 28) (lv' := [(2, .int z49), (0, .ref 3), (1, .retAddr 33)]) (st' := []) rfl ?_
              refine En_lv (lv := [(0, .ref 3), (1, .retAddr 33), (2, .int z49)]) ⟨rfl, rfl, rfl, trivial⟩ ?_
              exact ih28 σ21 z49 h22 h23 h24 h25 h26 (by omega) (by omega) (by omega) (fun z => by have q1 := CT_t hC h1 z; have q2 := CT_fa hC h5 h9 z; exact ISQc_n (CT_fr hC h23 (by decide +kernel)) (Imp_m h30 z) (by simp only [LWl]; omega) (by omega) h40 h47 (by omega) (by omega))
            · refine En_Ps 1 (pc' := 59) (lv' := [(0, .ref 3), (1, .retAddr 33), (2, .int y20)]) (st' := [.int ((Int32.ofInt 0))]) rfl ?_
              refine En_top (by decide : (Int32.ofInt 0).toInt = 0) (fun z51 h52 => ?_)
              exact En_ret (v := some (.int z51)) rfl rfl (retZ rfl rfl (by omega) (by omega)) ⟨h22, h23, z51, rfl, ⟨by omega, by omega, fun z => by have q1 := CT_t hC h1 z; have q2 := CT_fa hC h5 h9 z; have q := ISQc_n (b' := 0) (CT_fr hC h23 (by decide +kernel)) (Imp_m h30 z) (by simp only [LWl]; omega) (by omega) h40 h47 rfl (Or.inr ⟨rfl, by omega⟩); have q2 := ISQ_x q (Or.inl rfl); omega⟩⟩
      have := (by decide : (Int32.ofInt 0).toInt = 0)
      refine En_lv (lv := [(0, .ref 3), (1, .retAddr 33), (2, .int ((Int32.ofInt 0)))]) ⟨rfl, rfl, rfl, trivial⟩ ?_
      exact key28 (Int.toNat (z6.toInt) + 1) σ0 ((Int32.ofInt 0)) hσ0 hF0 h1 h5 h9 (by omega) (by omega) (by omega) (fun z => by have q1 := CT_t hC h1 z; have q2 := CT_fa hC h5 h9 z; exact ISQc_s (by decide) z (by omega) (by simp only [LWl]; omega))
    · refine En_Ps 1 (pc' := 25) (lv' := [(0, .ref 3), (1, .retAddr 33)]) (st' := [.int ((Int32.ofInt 0))]) rfl ?_
      refine En_top (by decide : (Int32.ofInt 0).toInt = 0) (fun z53 h54 => ?_)
      exact En_ret (v := some (.int z53)) rfl rfl (retZ rfl rfl (by omega) (by omega)) ⟨hσ0, hF0, z53, rfl, ⟨by omega, by omega, fun z => by have q1 := CT_t hC h1 z; have q2 := CT_fa hC h5 h9 z; have q := iW_0 (By := By) (Nb := Nb) (i := 16) (S := Sp) (by simp only [LWl]; omega); omega⟩⟩
/-- DoorSchool$Reader.stands(Ljava/lang/String;)Z -/
abbrev P_71s17x (σ0 : SG) (By : Int → Int) (Nb : Int) (Sp : PS) : PO := fun v σ => WT σ ∧ Fr [] σ0 σ ∧ ∃ ret : Int32, v = some (.int ret) ∧ -ret.toInt ≤ 0 ∧ ret.toInt - 1 ≤ 0 ∧ Imp (Sp.1 = 0) (ret.toInt = iW By Nb 17 Sp)
set_option maxRecDepth 10000 in
set_option maxHeartbeats 4000000 in
theorem c_71s17x {By : Int → Int} {Nb : Int} {Sp : PS} (σ0 : SG) (hσ0 : WT σ0) (hC : CT By Nb σ0 Sp) : En 4 90 none mr_71 (P_71s17x σ0 By Nb Sp) 0 [(0, .ref 3), (1, .retAddr 35)] [] σ0 := by
  have hF0 : Fr [] σ0 σ0 := Fr_rfl
  obtain ⟨z2, h1, h3, h4⟩ := WT_peekI hσ0 tgz_3 (by decide +kernel : FT 3 1 = (0, 0, 4)) (by decide +kernel)
  obtain ⟨z6, h5, h7, h8⟩ := WT_peekI hσ0 tgz_3 (by decide +kernel : FT 3 3 = (0, 0, 1600)) (by decide +kernel)
  obtain ⟨z10, h9, h11, h12⟩ := WT_peekI hσ0 tgz_3 (by decide +kernel : FT 3 2 = (0, 0, 1600)) (by decide +kernel)
  have h13 : Imp (Sp.1 = 0) (tK By Nb Sp.2.2.1 = z2.toInt) := CT_t hC h1
  refine En_Ps 1 (pc' := 1) (lv' := [(0, .ref 3), (1, .retAddr 35)]) (st' := [.ref 3]) rfl ?_
  refine En_getK (j := 1) h1 rfl rfl rfl tgz_3 (by decide +kernel) ?_
  refine En_Ps 1 (pc' := 5) (lv' := [(0, .ref 3), (1, .retAddr 35)]) (st' := [.int ((Int32.ofInt 1)), .int z2]) rfl ?_
  refine En_icNe _ rfl (by decide : (Int32.ofInt 1).toInt = 1) rfl (fun h14 => ?_) (fun h14 => ?_)
  · refine En_Ps 1 (pc' := 25) (lv' := [(0, .ref 3), (1, .retAddr 35)]) (st' := [.int ((Int32.ofInt 0))]) rfl ?_
    refine En_top (by decide : (Int32.ofInt 0).toInt = 0) (fun z15 h16 => ?_)
    exact En_ret (v := some (.int z15)) rfl rfl (retZ rfl rfl (by omega) (by omega)) ⟨hσ0, hF0, z15, rfl, ⟨by omega, by omega, fun z => by have q1 := CT_t hC h1 z; have q2 := CT_fa hC h5 h9 z; have q := iW_0 (By := By) (Nb := Nb) (i := 17) (S := Sp) (by simp only [LWl]; omega); omega⟩⟩
  · refine En_Ps 1 (pc' := 9) (lv' := [(0, .ref 3), (1, .retAddr 35)]) (st' := [.ref 3]) rfl ?_
    refine En_getK (j := 3) h5 rfl rfl rfl tgz_3 (by decide +kernel) ?_
    refine En_Ps 1 (pc' := 13) (lv' := [(0, .ref 3), (1, .retAddr 35)]) (st' := [.ref 3, .int z6]) rfl ?_
    refine En_getK (j := 2) h9 rfl rfl rfl tgz_3 (by decide +kernel) ?_
    refine En_Ps 1 (pc' := 17) (lv' := [(0, .ref 3), (1, .retAddr 35)]) (st' := [.int ((z6 - z10))]) rfl ?_
    refine En_top (subI rfl rfl (by omega) (by omega)) (fun z17 h18 => ?_)
    refine En_Ps 1 (pc' := 18) (lv' := [(0, .ref 3), (1, .retAddr 35)]) (st' := [.retAddr 35, .int z17]) rfl ?_
    refine En_slen 17 4 rfl rfl (by decide) rfl ?_
    refine En_icEq _ rfl (by decide : (Int32.ofNat 4).toInt = 4) rfl (fun h19 => ?_) (fun h19 => ?_)
    · refine En_Ps 2 (pc' := 28) (lv' := [(2, .int ((Int32.ofInt 0))), (0, .ref 3), (1, .retAddr 35)]) (st' := []) rfl ?_
      have key28 : ∀ (n28 : Nat) (σ21 : SG) (y20 : Int32), WT σ21 → Fr [] σ0 σ21 → (σ21 3)[1]? = some (.int z2) → (σ21 3)[3]? = some (.int z6) → (σ21 3)[2]? = some (.int z10) → 0 ≤ y20.toInt → y20.toInt ≤ 4 → z6.toInt - y20.toInt < (n28 : Int) → Imp (Sp.1 = 0) (ISQ By Nb 17 Sp 1 y20.toInt) → En 4 90 none mr_71 (P_71s17x σ0 By Nb Sp) 28 [(0, .ref 3), (1, .retAddr 35), (2, .int y20)] [] σ21 := by
        intro n28
        induction n28 with
        | zero =>
          intro σ21 y20 h22 h23 h24 h25 h26 h27 h28 h29 h30
          exfalso; omega
        | succ n28 ih28 =>
          intro σ21 y20 h22 h23 h24 h25 h26 h27 h28 h29 h30
          refine En_Ps 2 (pc' := 30) (lv' := [(0, .ref 3), (1, .retAddr 35), (2, .int y20)]) (st' := [.retAddr 35, .int y20]) rfl ?_
          refine En_slen 17 4 rfl rfl (by decide) rfl ?_
          refine En_icGe _ rfl (by decide : (Int32.ofNat 4).toInt = 4) rfl (fun h31 => ?_) (fun h31 => ?_)
          · refine En_Ps 1 (pc' := 67) (lv' := [(0, .ref 3), (1, .retAddr 35), (2, .int y20)]) (st' := [.int ((Int32.ofInt 1))]) rfl ?_
            refine En_top (by decide : (Int32.ofInt 1).toInt = 1) (fun z32 h33 => ?_)
            exact En_ret (v := some (.int z32)) rfl rfl (retZ rfl rfl (by omega) (by omega)) ⟨h22, h23, z32, rfl, ⟨by omega, by omega, fun z => by have q := ISQ_x (Imp_m h30 z) (Or.inr (by simp only [LWl]; omega)); omega⟩⟩
          · refine En_Ps 1 (pc' := 37) (lv' := [(0, .ref 3), (1, .retAddr 35), (2, .int y20)]) (st' := [.ref 3]) rfl ?_
            refine En_getU (j := 0) (u := 1) (g' := 1) (q := 0) rfl rfl rfl tgz_3 (by decide +kernel) h22 (by decide +kernel) (by decide +kernel) (fun h34 => ?_)
            refine En_getU (j := 0) (u := 2) (g' := 2) (q := 0) rfl rfl rfl tgz_1 (by decide +kernel) h22 (by decide +kernel) (by decide +kernel) (fun h36 => ?_)
            refine En_Ps 1 (pc' := 44) (lv' := [(0, .ref 3), (1, .retAddr 35), (2, .int y20)]) (st' := [.ref 3, .ref 2]) rfl ?_
            refine En_getK (j := 2) h26 rfl rfl rfl tgz_3 (by decide +kernel) ?_
            refine En_Ps 2 (pc' := 49) (lv' := [(0, .ref 3), (1, .retAddr 35), (2, .int y20)]) (st' := [.int ((z10 + y20)), .ref 2]) rfl ?_
            refine En_top (addI rfl rfl (by omega) (by omega)) (fun z38 h39 => ?_)
            refine En_bald (l := (-128)) (u := 127) rfl rfl tgz_2 (by decide +kernel) h22 (by omega) (lnI (by decide +kernel : LN _ = 1600) (by omega)) (FTsgl (by decide +kernel)) (fun z41 h40 h42 h43 => ?_)
            refine En_Ps 2 (pc' := 52) (lv' := [(0, .ref 3), (1, .retAddr 35), (2, .int y20)]) (st' := [.int y20, .retAddr 35, .int z41]) rfl ?_
            refine En_scharX 17 4 rfl rfl rfl (by decide) (by omega) (by omega) rfl (fun z44 h45 h46 h47 => ?_)
            refine En_icEq _ rfl rfl rfl (fun h48 => ?_) (fun h48 => ?_)
            · refine En_Ps 1 (pc' := 63) (lv' := [(2, .int ((y20 + Int32.ofInt 1))), (0, .ref 3), (1, .retAddr 35)]) (st' := []) rfl ?_
              refine En_lv1 (addI rfl (by decide : (Int32.ofInt 1).toInt = 1) (by omega) (by omega)) (fun z49 h50 => ?_)
              refine En_Ps 1 (pc' := 28) (lv' := [(2, .int z49), (0, .ref 3), (1, .retAddr 35)]) (st' := []) rfl ?_
              refine En_lv (lv := [(0, .ref 3), (1, .retAddr 35), (2, .int z49)]) ⟨rfl, rfl, rfl, trivial⟩ ?_
              exact ih28 σ21 z49 h22 h23 h24 h25 h26 (by omega) (by omega) (by omega) (fun z => by have q1 := CT_t hC h1 z; have q2 := CT_fa hC h5 h9 z; exact ISQc_n (CT_fr hC h23 (by decide +kernel)) (Imp_m h30 z) (by simp only [LWl]; omega) (by omega) h40 h47 (by omega) (by omega))
            · refine En_Ps 1 (pc' := 59) (lv' := [(0, .ref 3), (1, .retAddr 35), (2, .int y20)]) (st' := [.int ((Int32.ofInt 0))]) rfl ?_
              refine En_top (by decide : (Int32.ofInt 0).toInt = 0) (fun z51 h52 => ?_)
              exact En_ret (v := some (.int z51)) rfl rfl (retZ rfl rfl (by omega) (by omega)) ⟨h22, h23, z51, rfl, ⟨by omega, by omega, fun z => by have q1 := CT_t hC h1 z; have q2 := CT_fa hC h5 h9 z; have q := ISQc_n (b' := 0) (CT_fr hC h23 (by decide +kernel)) (Imp_m h30 z) (by simp only [LWl]; omega) (by omega) h40 h47 rfl (Or.inr ⟨rfl, by omega⟩); have q2 := ISQ_x q (Or.inl rfl); omega⟩⟩
      have := (by decide : (Int32.ofInt 0).toInt = 0)
      refine En_lv (lv := [(0, .ref 3), (1, .retAddr 35), (2, .int ((Int32.ofInt 0)))]) ⟨rfl, rfl, rfl, trivial⟩ ?_
      exact key28 (Int.toNat (z6.toInt) + 1) σ0 ((Int32.ofInt 0)) hσ0 hF0 h1 h5 h9 (by omega) (by omega) (by omega) (fun z => by have q1 := CT_t hC h1 z; have q2 := CT_fa hC h5 h9 z; exact ISQc_s (by decide) z (by omega) (by simp only [LWl]; omega))
    · refine En_Ps 1 (pc' := 25) (lv' := [(0, .ref 3), (1, .retAddr 35)]) (st' := [.int ((Int32.ofInt 0))]) rfl ?_
      refine En_top (by decide : (Int32.ofInt 0).toInt = 0) (fun z53 h54 => ?_)
      exact En_ret (v := some (.int z53)) rfl rfl (retZ rfl rfl (by omega) (by omega)) ⟨hσ0, hF0, z53, rfl, ⟨by omega, by omega, fun z => by have q1 := CT_t hC h1 z; have q2 := CT_fa hC h5 h9 z; have q := iW_0 (By := By) (Nb := Nb) (i := 17) (S := Sp) (by simp only [LWl]; omega); omega⟩⟩
/-- DoorSchool$Reader.takeNumber(II)I -/
abbrev P_73x (σ0 : SG) (By : Int → Int) (Nb : Int) (Sp : PS) (a : Int32) (b : Int32) (f : Int32) : PO := fun v σ => WT σ ∧ Fr [(3, 1), (3, 2), (3, 3), (3, 4), (3, 5), (3, 6)] σ0 σ ∧ ∃ f1 : Int32, (σ 3)[5]? = some (.int f1) ∧ ∃ ret : Int32, v = some (.int ret) ∧ ret.toInt - 1000000 ≤ 0 ∧ -f1.toInt ≤ 0 ∧ f1.toInt - 3 ≤ 0 ∧ -f1.toInt + f.toInt ≤ 0 ∧ f1.toInt - f.toInt - 3 ≤ 0 ∧ f.toInt - f1.toInt ≤ 0 ∧ Imp (f1.toInt ≤ 0) (a.toInt - ret.toInt ≤ 0 ∧ ret.toInt - b.toInt ≤ 0) ∧ Imp (-f1.toInt + 1 ≤ 0) (ret.toInt + 1 ≤ 0 ∧ -ret.toInt - 1 ≤ 0) ∧ Imp (-b.toInt - 1 ≤ 0) (ret.toInt - b.toInt ≤ 0) ∧ Imp (-a.toInt - 1 ≤ 0) (-ret.toInt - 1 ≤ 0) ∧ (CT By Nb σ (tN By Nb a.toInt b.toInt Sp) ∧ Imp ((tN By Nb a.toInt b.toInt Sp).1 = 0) (ret.toInt = tV By Nb Sp.2.2.1))
set_option maxRecDepth 10000 in
set_option maxHeartbeats 4000000 in
theorem c_73x {By : Int → Int} {Nb : Int} {Sp : PS} (σ0 : SG) (hσ0 : WT σ0) (a : Int32) (b : Int32) (f : Int32) (h_f : (σ0 3)[5]? = some (.int f)) (hC : CT By Nb σ0 Sp) : En 2 43 none mr_73 (P_73x σ0 By Nb Sp a b f) 0 [(0, .ref 3), (1, .int a), (2, .int b)] [] σ0 := by
  obtain ⟨hl_f, hu_f⟩ := WT_int hσ0 (g := 3) (by decide +kernel) (by decide +kernel) (l := 0) (u := 3) (by decide +kernel) h_f
  have hF0 : Fr [(3, 1), (3, 2), (3, 3), (3, 4), (3, 5), (3, 6)] σ0 σ0 := Fr_rfl
  have h1 := CT_k hC h_f
  refine En_Ps 3 (pc' := 3) (lv' := [(0, .ref 3), (1, .int a), (2, .int b)]) (st' := [.int b, .int a, .ref 3]) rfl ?_
  refine En_callV rfl rfl rfl rfl rfl rfl rfl rfl tgz_3 (by decide +kernel) rfl (c_58x σ0 hσ0 a b f h_f hC) (by decide) (by decide) (fun v3 σ4 h2 => ?_)
  obtain ⟨h5, h6, z8, h9, z10, rfl, h7⟩ := h2
  have h11 := h7.2.2.2.2.2.2.2.2.2.2
  have h12 := Fr_trans hF0 h6 (by decide +kernel)
  have h13 : nH By Nb a.toInt b.toInt Sp = nH By Nb (a.toInt) (b.toInt) Sp := nH_cg2 (fun zz => by omega) (fun zz => by omega)
  obtain ⟨S14, h15⟩ : ∃ q : PS, q = nH By Nb (a.toInt) (b.toInt) Sp := ⟨_, rfl⟩
  have h16 : CT By Nb σ4 S14 := by rw [h15]; exact (CT_eq h11.1 h13)
  have h17 := CT_k h16 h9
  have h18 : Imp (S14.1 = 0) (z10.toInt = tV By Nb Sp.2.2.1) := fun z => Imp_m h11.2 (by rw [h13, ← h15]; exact z)
  have h19 : Imp (S14.1 = 0) (Sp.1 = 0 ∧ tK By Nb Sp.2.2.1 = 2 ∧ a.toInt ≤ tV By Nb Sp.2.2.1 ∧ tV By Nb Sp.2.2.1 ≤ b.toInt) := fun z => nH_gg (by rw [← h15]; exact z)
  have h20 : S14.2.2.2 = Sp.2.2.2 := by rw [h15]; exact nH_w
  refine En_Ps 2 (pc' := 8) (lv' := [(3, .int z10), (0, .ref 3), (1, .int a), (2, .int b)]) (st' := [.ref 3]) rfl ?_
  refine En_getK (j := 5) h9 rfl rfl rfl tgz_3 (by decide +kernel) ?_
  refine En_iNe _ rfl rfl (fun h21 => ?_) (fun h21 => ?_)
  · have h22 := Imp_m h7.2.2.2.2.2.2.2.1 (by omega)
    refine En_Ps 1 (pc' := 19) (lv' := [(3, .int z10), (0, .ref 3), (1, .int a), (2, .int b)]) (st' := [.int z10]) rfl ?_
    exact En_ret (v := some (.int z10)) rfl rfl rfl ⟨h5, h12, z8, h9, z10, rfl, ⟨by omega, by omega, by omega, by omega, by omega, by omega, fun _ => by have := Imp_m h7.2.2.2.2.2.2.1 (by omega); have := Imp_m h7.2.2.2.2.2.2.2.2.1 (by omega); omega, fun _ => by omega, fun _ => by omega, fun _ => by omega, (by have q0 : tN By Nb a.toInt b.toInt Sp = S14 := (by first | (subst h15; rfl) | (subst h15; unfold tN; exact adv_bad (by omega))); rw [q0]; exact ⟨h16, fun zz => by (try have i0 := Imp_m h19 (by omega)); (try have i1 := Imp_m h18 (by omega)); (try have i2 := Imp_m h7.2.2.2.2.2.2.1 (by omega)); (try have i3 := Imp_m h7.2.2.2.2.2.2.2.2.1 (by omega)); (try have i4 := Imp_m h7.2.2.2.2.2.2.2.2.2.1 (by omega)); omega⟩)⟩⟩
  · have h23 := Imp_m h7.2.2.2.2.2.2.1 (by omega)
    refine En_Ps 1 (pc' := 15) (lv' := [(3, .int z10), (0, .ref 3), (1, .int a), (2, .int b)]) (st' := [.ref 3]) rfl ?_
    obtain ⟨z25, h24, h26, h27⟩ := WT_peekI h5 tgz_3 (by decide +kernel : FT 3 3 = (0, 0, 1600)) (by decide +kernel)
    refine En_callV rfl rfl rfl rfl rfl rfl rfl rfl tgz_3 (by decide +kernel) rfl (c_72x σ4 h5 z25 h24 h16.1 (CT_at h16 (by omega) h24)) (by decide) (by decide) (fun v29 σ30 h28 => ?_)
    obtain ⟨h31, h32, rfl, h33⟩ := h28
    have h34 := h33
    have h35 := Fr_trans h12 h32 (by decide +kernel)
    obtain ⟨S36, h37⟩ : ∃ q : PS, q = adv By Nb S14 := ⟨_, rfl⟩
    have h38 : CT By Nb σ30 S36 := by rw [h37]; exact (CT_adv h16 (by omega) h24 h32 (by decide +kernel) h34.2)
    have h39 := CT_k h38 ((h32 _ _ (inW tgz_3 (by decide +kernel))).trans h9)
    have h40 : S36.2.2.2 = S14.2.2.2 := by rw [h37]; exact adv_w
    have h41 : S36.1 = S14.1 := by rw [h37]; exact adv_1
    refine En_Ps 1 (pc' := 19) (lv' := [(3, .int z10), (0, .ref 3), (1, .int a), (2, .int b)]) (st' := [.int z10]) rfl ?_
    exact En_ret (v := some (.int z10)) rfl rfl rfl ⟨h31, h35, z8, ((h32 _ _ (inW tgz_3 (by decide +kernel))).trans h9), z10, rfl, ⟨by omega, by omega, by omega, by omega, by omega, by omega, fun _ => by omega, fun _ => by have := Imp_m h7.2.2.2.2.2.2.2.1 (by omega); have := Imp_m h7.2.2.2.2.2.2.2.2.1 (by omega); omega, fun _ => by omega, fun _ => by omega, (by have q0 : tN By Nb a.toInt b.toInt Sp = S36 := (by first | (subst h37; subst h15; rfl) | (subst h37; subst h15; unfold tN; exact adv_bad (by omega))); rw [q0]; exact ⟨h38, fun zz => by (try have i0 := Imp_m h19 (by omega)); (try have i1 := Imp_m h18 (by omega)); (try have i2 := Imp_m h7.2.2.2.2.2.2.2.1 (by omega)); (try have i3 := Imp_m h7.2.2.2.2.2.2.2.2.1 (by omega)); (try have i4 := Imp_m h7.2.2.2.2.2.2.2.2.2.1 (by omega)); omega⟩)⟩⟩

