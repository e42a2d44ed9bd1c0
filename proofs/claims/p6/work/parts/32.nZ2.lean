/-- DoorSchool$Reader.stands(Ljava/lang/String;)Z -/
abbrev P_71s9x (σ0 : SG) (By : Int → Int) (Nb : Int) (Sp : PS) : PO := fun v σ => WT σ ∧ Fr [] σ0 σ ∧ ∃ ret : Int32, v = some (.int ret) ∧ -ret.toInt ≤ 0 ∧ ret.toInt - 1 ≤ 0 ∧ Imp (Sp.1 = 0) (ret.toInt = iW By Nb 9 Sp)
set_option maxRecDepth 10000 in
set_option maxHeartbeats 4000000 in
theorem c_71s9x {By : Int → Int} {Nb : Int} {Sp : PS} (σ0 : SG) (hσ0 : WT σ0) (hC : CT By Nb σ0 Sp) : En 4 90 none mr_71 (P_71s9x σ0 By Nb Sp) 0 [(0, .ref 3), (1, .retAddr 19)] [] σ0 := by
  have hF0 : Fr [] σ0 σ0 := Fr_rfl
  obtain ⟨z2, h1, h3, h4⟩ := WT_peekI hσ0 (by decide +kernel : TG 3 = 3) (by decide +kernel : FT 3 1 = (0, 0, 4)) (by decide +kernel)
  obtain ⟨z6, h5, h7, h8⟩ := WT_peekI hσ0 (by decide +kernel : TG 3 = 3) (by decide +kernel : FT 3 3 = (0, 0, 1600)) (by decide +kernel)
  obtain ⟨z10, h9, h11, h12⟩ := WT_peekI hσ0 (by decide +kernel : TG 3 = 3) (by decide +kernel : FT 3 2 = (0, 0, 1600)) (by decide +kernel)
  have h13 : Imp (Sp.1 = 0) (tK By Nb Sp.2.2.1 = z2.toInt) := CT_t hC h1
  refine En_Ps 1 (pc' := 1) (lv' := [(0, .ref 3), (1, .retAddr 19)]) (st' := [.ref 3]) rfl ?_
  refine En_getK (j := 1) h1 rfl rfl rfl (by decide +kernel : TG 3 = 3) (by decide +kernel) ?_
  refine En_Ps 1 (pc' := 5) (lv' := [(0, .ref 3), (1, .retAddr 19)]) (st' := [.int ((Int32.ofInt 1)), .int z2]) rfl ?_
  refine En_icNe _ rfl (by decide : (Int32.ofInt 1).toInt = 1) rfl (fun h14 => ?_) (fun h14 => ?_)
  · refine En_Ps 1 (pc' := 25) (lv' := [(0, .ref 3), (1, .retAddr 19)]) (st' := [.int ((Int32.ofInt 0))]) rfl ?_
    refine En_top (by decide : (Int32.ofInt 0).toInt = 0) (fun z15 h16 => ?_)
    exact En_ret (v := some (.int z15)) rfl rfl (retZ rfl rfl (by omega) (by omega)) ⟨hσ0, hF0, z15, rfl, ⟨by omega, by omega, fun z => by have q1 := CT_t hC h1 z; have q2 := CT_fa hC h5 h9 z; have q := iW_0 (By := By) (Nb := Nb) (i := 9) (S := Sp) (by simp only [LWl]; omega); omega⟩⟩
  · refine En_Ps 1 (pc' := 9) (lv' := [(0, .ref 3), (1, .retAddr 19)]) (st' := [.ref 3]) rfl ?_
    refine En_getK (j := 3) h5 rfl rfl rfl (by decide +kernel : TG 3 = 3) (by decide +kernel) ?_
    refine En_Ps 1 (pc' := 13) (lv' := [(0, .ref 3), (1, .retAddr 19)]) (st' := [.ref 3, .int z6]) rfl ?_
    refine En_getK (j := 2) h9 rfl rfl rfl (by decide +kernel : TG 3 = 3) (by decide +kernel) ?_
    refine En_Ps 1 (pc' := 17) (lv' := [(0, .ref 3), (1, .retAddr 19)]) (st' := [.int ((z6 - z10))]) rfl ?_
    refine En_top (subI rfl rfl (by omega) (by omega)) (fun z17 h18 => ?_)
    refine En_Ps 1 (pc' := 18) (lv' := [(0, .ref 3), (1, .retAddr 19)]) (st' := [.retAddr 19, .int z17]) rfl ?_
    refine En_slen 9 5 rfl rfl (by decide) rfl ?_
    refine En_icEq _ rfl (by decide : (Int32.ofNat 5).toInt = 5) rfl (fun h19 => ?_) (fun h19 => ?_)
    · refine En_Ps 2 (pc' := 28) (lv' := [(2, .int ((Int32.ofInt 0))), (0, .ref 3), (1, .retAddr 19)]) (st' := []) rfl ?_
      have key28 : ∀ (n28 : Nat) (σ21 : SG) (y20 : Int32), WT σ21 → Fr [] σ0 σ21 → (σ21 3)[1]? = some (.int z2) → (σ21 3)[3]? = some (.int z6) → (σ21 3)[2]? = some (.int z10) → 0 ≤ y20.toInt → y20.toInt ≤ 5 → z6.toInt - y20.toInt < (n28 : Int) → Imp (Sp.1 = 0) (ISQ By Nb 9 Sp 1 y20.toInt) → En 4 90 none mr_71 (P_71s9x σ0 By Nb Sp) 28 [(0, .ref 3), (1, .retAddr 19), (2, .int y20)] [] σ21 := by
        intro n28
        induction n28 with
        | zero =>
          intro σ21 y20 h22 h23 h24 h25 h26 h27 h28 h29 h30
          exfalso; omega
        | succ n28 ih28 =>
          intro σ21 y20 h22 h23 h24 h25 h26 h27 h28 h29 h30
          refine En_Ps 2 (pc' := 30) (lv' := [(0, .ref 3), (1, .retAddr 19), (2, .int y20)]) (st' := [.retAddr 19, .int y20]) rfl ?_
          refine En_slen 9 5 rfl rfl (by decide) rfl ?_
          refine En_icGe _ rfl (by decide : (Int32.ofNat 5).toInt = 5) rfl (fun h31 => ?_) (fun h31 => ?_)
          · refine En_Ps 1 (pc' := 67) (lv' := [(0, .ref 3), (1, .retAddr 19), (2, .int y20)]) (st' := [.int ((Int32.ofInt 1))]) rfl ?_
            refine En_top (by decide : (Int32.ofInt 1).toInt = 1) (fun z32 h33 => ?_)
            exact En_ret (v := some (.int z32)) rfl rfl (retZ rfl rfl (by omega) (by omega)) ⟨h22, h23, z32, rfl, ⟨by omega, by omega, fun z => by have q := ISQ_x (Imp_m h30 z) (Or.inr (by simp only [LWl]; omega)); omega⟩⟩
          · refine En_Ps 1 (pc' := 37) (lv' := [(0, .ref 3), (1, .retAddr 19), (2, .int y20)]) (st' := [.ref 3]) rfl ?_
            refine En_getU (j := 0) (u := 1) (g' := 1) (q := 0) rfl rfl rfl (by decide +kernel : TG 3 = 3) (by decide +kernel) h22 (by decide +kernel) (by decide +kernel) (fun h34 => ?_)
            refine En_getU (j := 0) (u := 2) (g' := 2) (q := 0) rfl rfl rfl (by decide +kernel : TG 1 = 1) (by decide +kernel) h22 (by decide +kernel) (by decide +kernel) (fun h36 => ?_)
            refine En_Ps 1 (pc' := 44) (lv' := [(0, .ref 3), (1, .retAddr 19), (2, .int y20)]) (st' := [.ref 3, .ref 2]) rfl ?_
            refine En_getK (j := 2) h26 rfl rfl rfl (by decide +kernel : TG 3 = 3) (by decide +kernel) ?_
            refine En_Ps 2 (pc' := 49) (lv' := [(0, .ref 3), (1, .retAddr 19), (2, .int y20)]) (st' := [.int ((z10 + y20)), .ref 2]) rfl ?_
            refine En_top (addI rfl rfl (by omega) (by omega)) (fun z38 h39 => ?_)
            refine En_bald (l := (-128)) (u := 127) rfl rfl (by decide +kernel : TG 2 = 2) (by decide +kernel) h22 (by omega) (lnI (by decide +kernel : LN _ = 1600) (by omega)) (FTsgl (by decide +kernel)) (fun z41 h40 h42 h43 => ?_)
            refine En_Ps 2 (pc' := 52) (lv' := [(0, .ref 3), (1, .retAddr 19), (2, .int y20)]) (st' := [.int y20, .retAddr 19, .int z41]) rfl ?_
            refine En_scharX 9 5 rfl rfl rfl (by decide) (by omega) (by omega) rfl (fun z44 h45 h46 h47 => ?_)
            refine En_icEq _ rfl rfl rfl (fun h48 => ?_) (fun h48 => ?_)
            · refine En_Ps 1 (pc' := 63) (lv' := [(2, .int ((y20 + Int32.ofInt 1))), (0, .ref 3), (1, .retAddr 19)]) (st' := []) rfl ?_
              refine En_lv1 (addI rfl (by decide : (Int32.ofInt 1).toInt = 1) (by omega) (by omega)) (fun z49 h50 => ?_)
              refine En_Ps 1 (pc' := 28) (lv' := [(2, .int z49), (0, .ref 3), (1, .retAddr 19)]) (st' := []) rfl ?_
              refine En_lv (lv := [(0, .ref 3), (1, .retAddr 19), (2, .int z49)]) ⟨rfl, rfl, rfl, trivial⟩ ?_
              exact ih28 σ21 z49 h22 h23 h24 h25 h26 (by omega) (by omega) (by omega) (fun z => by have q1 := CT_t hC h1 z; have q2 := CT_fa hC h5 h9 z; exact ISQc_n (CT_fr hC h23 (by decide +kernel)) (Imp_m h30 z) (by simp only [LWl]; omega) (by omega) h40 h47 (by omega) (by omega))
            · refine En_Ps 1 (pc' := 59) (lv' := [(0, .ref 3), (1, .retAddr 19), (2, .int y20)]) (st' := [.int ((Int32.ofInt 0))]) rfl ?_
              refine En_top (by decide : (Int32.ofInt 0).toInt = 0) (fun z51 h52 => ?_)
              exact En_ret (v := some (.int z51)) rfl rfl (retZ rfl rfl (by omega) (by omega)) ⟨h22, h23, z51, rfl, ⟨by omega, by omega, fun z => by have q1 := CT_t hC h1 z; have q2 := CT_fa hC h5 h9 z; have q := ISQc_n (b' := 0) (CT_fr hC h23 (by decide +kernel)) (Imp_m h30 z) (by simp only [LWl]; omega) (by omega) h40 h47 rfl (Or.inr ⟨rfl, by omega⟩); have q2 := ISQ_x q (Or.inl rfl); omega⟩⟩
      have := (by decide : (Int32.ofInt 0).toInt = 0)
      refine En_lv (lv := [(0, .ref 3), (1, .retAddr 19), (2, .int ((Int32.ofInt 0)))]) ⟨rfl, rfl, rfl, trivial⟩ ?_
      exact key28 (Int.toNat (z6.toInt) + 1) σ0 ((Int32.ofInt 0)) hσ0 hF0 h1 h5 h9 (by omega) (by omega) (by omega) (fun z => by have q1 := CT_t hC h1 z; have q2 := CT_fa hC h5 h9 z; exact ISQc_s (by decide) z (by omega) (by simp only [LWl]; omega))
    · refine En_Ps 1 (pc' := 25) (lv' := [(0, .ref 3), (1, .retAddr 19)]) (st' := [.int ((Int32.ofInt 0))]) rfl ?_
      refine En_top (by decide : (Int32.ofInt 0).toInt = 0) (fun z53 h54 => ?_)
      exact En_ret (v := some (.int z53)) rfl rfl (retZ rfl rfl (by omega) (by omega)) ⟨hσ0, hF0, z53, rfl, ⟨by omega, by omega, fun z => by have q1 := CT_t hC h1 z; have q2 := CT_fa hC h5 h9 z; have q := iW_0 (By := By) (Nb := Nb) (i := 9) (S := Sp) (by simp only [LWl]; omega); omega⟩⟩
/-- DoorSchool$Reader.stands(Ljava/lang/String;)Z -/
abbrev P_71s10x (σ0 : SG) (By : Int → Int) (Nb : Int) (Sp : PS) : PO := fun v σ => WT σ ∧ Fr [] σ0 σ ∧ ∃ ret : Int32, v = some (.int ret) ∧ -ret.toInt ≤ 0 ∧ ret.toInt - 1 ≤ 0 ∧ Imp (Sp.1 = 0) (ret.toInt = iW By Nb 10 Sp)
set_option maxRecDepth 10000 in
set_option maxHeartbeats 4000000 in
theorem c_71s10x {By : Int → Int} {Nb : Int} {Sp : PS} (σ0 : SG) (hσ0 : WT σ0) (hC : CT By Nb σ0 Sp) : En 4 90 none mr_71 (P_71s10x σ0 By Nb Sp) 0 [(0, .ref 3), (1, .retAddr 21)] [] σ0 := by
  have hF0 : Fr [] σ0 σ0 := Fr_rfl
  obtain ⟨z2, h1, h3, h4⟩ := WT_peekI hσ0 (by decide +kernel : TG 3 = 3) (by decide +kernel : FT 3 1 = (0, 0, 4)) (by decide +kernel)
  obtain ⟨z6, h5, h7, h8⟩ := WT_peekI hσ0 (by decide +kernel : TG 3 = 3) (by decide +kernel : FT 3 3 = (0, 0, 1600)) (by decide +kernel)
  obtain ⟨z10, h9, h11, h12⟩ := WT_peekI hσ0 (by decide +kernel : TG 3 = 3) (by decide +kernel : FT 3 2 = (0, 0, 1600)) (by decide +kernel)
  have h13 : Imp (Sp.1 = 0) (tK By Nb Sp.2.2.1 = z2.toInt) := CT_t hC h1
  refine En_Ps 1 (pc' := 1) (lv' := [(0, .ref 3), (1, .retAddr 21)]) (st' := [.ref 3]) rfl ?_
  refine En_getK (j := 1) h1 rfl rfl rfl (by decide +kernel : TG 3 = 3) (by decide +kernel) ?_
  refine En_Ps 1 (pc' := 5) (lv' := [(0, .ref 3), (1, .retAddr 21)]) (st' := [.int ((Int32.ofInt 1)), .int z2]) rfl ?_
  refine En_icNe _ rfl (by decide : (Int32.ofInt 1).toInt = 1) rfl (fun h14 => ?_) (fun h14 => ?_)
  · refine En_Ps 1 (pc' := 25) (lv' := [(0, .ref 3), (1, .retAddr 21)]) (st' := [.int ((Int32.ofInt 0))]) rfl ?_
    refine En_top (by decide : (Int32.ofInt 0).toInt = 0) (fun z15 h16 => ?_)
    exact En_ret (v := some (.int z15)) rfl rfl (retZ rfl rfl (by omega) (by omega)) ⟨hσ0, hF0, z15, rfl, ⟨by omega, by omega, fun z => by have q1 := CT_t hC h1 z; have q2 := CT_fa hC h5 h9 z; have q := iW_0 (By := By) (Nb := Nb) (i := 10) (S := Sp) (by simp only [LWl]; omega); omega⟩⟩
  · refine En_Ps 1 (pc' := 9) (lv' := [(0, .ref 3), (1, .retAddr 21)]) (st' := [.ref 3]) rfl ?_
    refine En_getK (j := 3) h5 rfl rfl rfl (by decide +kernel : TG 3 = 3) (by decide +kernel) ?_
    refine En_Ps 1 (pc' := 13) (lv' := [(0, .ref 3), (1, .retAddr 21)]) (st' := [.ref 3, .int z6]) rfl ?_
    refine En_getK (j := 2) h9 rfl rfl rfl (by decide +kernel : TG 3 = 3) (by decide +kernel) ?_
    refine En_Ps 1 (pc' := 17) (lv' := [(0, .ref 3), (1, .retAddr 21)]) (st' := [.int ((z6 - z10))]) rfl ?_
    refine En_top (subI rfl rfl (by omega) (by omega)) (fun z17 h18 => ?_)
    refine En_Ps 1 (pc' := 18) (lv' := [(0, .ref 3), (1, .retAddr 21)]) (st' := [.retAddr 21, .int z17]) rfl ?_
    refine En_slen 10 6 rfl rfl (by decide) rfl ?_
    refine En_icEq _ rfl (by decide : (Int32.ofNat 6).toInt = 6) rfl (fun h19 => ?_) (fun h19 => ?_)
    · refine En_Ps 2 (pc' := 28) (lv' := [(2, .int ((Int32.ofInt 0))), (0, .ref 3), (1, .retAddr 21)]) (st' := []) rfl ?_
      have key28 : ∀ (n28 : Nat) (σ21 : SG) (y20 : Int32), WT σ21 → Fr [] σ0 σ21 → (σ21 3)[1]? = some (.int z2) → (σ21 3)[3]? = some (.int z6) → (σ21 3)[2]? = some (.int z10) → 0 ≤ y20.toInt → y20.toInt ≤ 6 → z6.toInt - y20.toInt < (n28 : Int) → Imp (Sp.1 = 0) (ISQ By Nb 10 Sp 1 y20.toInt) → En 4 90 none mr_71 (P_71s10x σ0 By Nb Sp) 28 [(0, .ref 3), (1, .retAddr 21), (2, .int y20)] [] σ21 := by
        intro n28
        induction n28 with
        | zero =>
          intro σ21 y20 h22 h23 h24 h25 h26 h27 h28 h29 h30
          exfalso; omega
        | succ n28 ih28 =>
          intro σ21 y20 h22 h23 h24 h25 h26 h27 h28 h29 h30
          refine En_Ps 2 (pc' := 30) (lv' := [(0, .ref 3), (1, .retAddr 21), (2, .int y20)]) (st' := [.retAddr 21, .int y20]) rfl ?_
          refine En_slen 10 6 rfl rfl (by decide) rfl ?_
          refine En_icGe _ rfl (by decide : (Int32.ofNat 6).toInt = 6) rfl (fun h31 => ?_) (fun h31 => ?_)
          · refine En_Ps 1 (pc' := 67) (lv' := [(0, .ref 3), (1, .retAddr 21), (2, .int y20)]) (st' := [.int ((Int32.ofInt 1))]) rfl ?_
            refine En_top (by decide : (Int32.ofInt 1).toInt = 1) (fun z32 h33 => ?_)
            exact En_ret (v := some (.int z32)) rfl rfl (retZ rfl rfl (by omega) (by omega)) ⟨h22, h23, z32, rfl, ⟨by omega, by omega, fun z => by have q := ISQ_x (Imp_m h30 z) (Or.inr (by simp only [LWl]; omega)); omega⟩⟩
          · refine En_Ps 1 (pc' := 37) (lv' := [(0, .ref 3), (1, .retAddr 21), (2, .int y20)]) (st' := [.ref 3]) rfl ?_
            refine En_getU (j := 0) (u := 1) (g' := 1) (q := 0) rfl rfl rfl (by decide +kernel : TG 3 = 3) (by decide +kernel) h22 (by decide +kernel) (by decide +kernel) (fun h34 => ?_)
            refine En_getU (j := 0) (u := 2) (g' := 2) (q := 0) rfl rfl rfl (by decide +kernel : TG 1 = 1) (by decide +kernel) h22 (by decide +kernel) (by decide +kernel) (fun h36 => ?_)
            refine En_Ps 1 (pc' := 44) (lv' := [(0, .ref 3), (1, .retAddr 21), (2, .int y20)]) (st' := [.ref 3, .ref 2]) rfl ?_
            refine En_getK (j := 2) h26 rfl rfl rfl (by decide +kernel : TG 3 = 3) (by decide +kernel) ?_
            refine En_Ps 2 (pc' := 49) (lv' := [(0, .ref 3), (1, .retAddr 21), (2, .int y20)]) (st' := [.int ((z10 + y20)), .ref 2]) rfl ?_
            refine En_top (addI rfl rfl (by omega) (by omega)) (fun z38 h39 => ?_)
            refine En_bald (l := (-128)) (u := 127) rfl rfl (by decide +kernel : TG 2 = 2) (by decide +kernel) h22 (by omega) (lnI (by decide +kernel : LN _ = 1600) (by omega)) (FTsgl (by decide +kernel)) (fun z41 h40 h42 h43 => ?_)
            refine En_Ps 2 (pc' := 52) (lv' := [(0, .ref 3), (1, .retAddr 21), (2, .int y20)]) (st' := [.int y20, .retAddr 21, .int z41]) rfl ?_
            refine En_scharX 10 6 rfl rfl rfl (by decide) (by omega) (by omega) rfl (fun z44 h45 h46 h47 => ?_)
            refine En_icEq _ rfl rfl rfl (fun h48 => ?_) (fun h48 => ?_)
            · refine En_Ps 1 (pc' := 63) (lv' := [(2, .int ((y20 + Int32.ofInt 1))), (0, .ref 3), (1, .retAddr 21)]) (st' := []) rfl ?_
              refine En_lv1 (addI rfl (by decide : (Int32.ofInt 1).toInt = 1) (by omega) (by omega)) (fun z49 h50 => ?_)
              refine En_Ps 1 (pc' := 28) (lv' := [(2, .int z49), (0, .ref 3), (1, .retAddr 21)]) (st' := []) rfl ?_
              refine En_lv (lv := [(0, .ref 3), (1, .retAddr 21), (2, .int z49)]) ⟨rfl, rfl, rfl, trivial⟩ ?_
              exact ih28 σ21 z49 h22 h23 h24 h25 h26 (by omega) (by omega) (by omega) (fun z => by have q1 := CT_t hC h1 z; have q2 := CT_fa hC h5 h9 z; exact ISQc_n (CT_fr hC h23 (by decide +kernel)) (Imp_m h30 z) (by simp only [LWl]; omega) (by omega) h40 h47 (by omega) (by omega))
            · refine En_Ps 1 (pc' := 59) (lv' := [(0, .ref 3), (1, .retAddr 21), (2, .int y20)]) (st' := [.int ((Int32.ofInt 0))]) rfl ?_
              refine En_top (by decide : (Int32.ofInt 0).toInt = 0) (fun z51 h52 => ?_)
              exact En_ret (v := some (.int z51)) rfl rfl (retZ rfl rfl (by omega) (by omega)) ⟨h22, h23, z51, rfl, ⟨by omega, by omega, fun z => by have q1 := CT_t hC h1 z; have q2 := CT_fa hC h5 h9 z; have q := ISQc_n (b' := 0) (CT_fr hC h23 (by decide +kernel)) (Imp_m h30 z) (by simp only [LWl]; omega) (by omega) h40 h47 rfl (Or.inr ⟨rfl, by omega⟩); have q2 := ISQ_x q (Or.inl rfl); omega⟩⟩
      have := (by decide : (Int32.ofInt 0).toInt = 0)
      refine En_lv (lv := [(0, .ref 3), (1, .retAddr 21), (2, .int ((Int32.ofInt 0)))]) ⟨rfl, rfl, rfl, trivial⟩ ?_
      exact key28 (Int.toNat (z6.toInt) + 1) σ0 ((Int32.ofInt 0)) hσ0 hF0 h1 h5 h9 (by omega) (by omega) (by omega) (fun z => by have q1 := CT_t hC h1 z; have q2 := CT_fa hC h5 h9 z; exact ISQc_s (by decide) z (by omega) (by simp only [LWl]; omega))
    · refine En_Ps 1 (pc' := 25) (lv' := [(0, .ref 3), (1, .retAddr 21)]) (st' := [.int ((Int32.ofInt 0))]) rfl ?_
      refine En_top (by decide : (Int32.ofInt 0).toInt = 0) (fun z53 h54 => ?_)
      exact En_ret (v := some (.int z53)) rfl rfl (retZ rfl rfl (by omega) (by omega)) ⟨hσ0, hF0, z53, rfl, ⟨by omega, by omega, fun z => by have q1 := CT_t hC h1 z; have q2 := CT_fa hC h5 h9 z; have q := iW_0 (By := By) (Nb := Nb) (i := 10) (S := Sp) (by simp only [LWl]; omega); omega⟩⟩
/-- DoorSchool$Reader.stands(Ljava/lang/String;)Z -/
abbrev P_71s11x (σ0 : SG) (By : Int → Int) (Nb : Int) (Sp : PS) : PO := fun v σ => WT σ ∧ Fr [] σ0 σ ∧ ∃ ret : Int32, v = some (.int ret) ∧ -ret.toInt ≤ 0 ∧ ret.toInt - 1 ≤ 0 ∧ Imp (Sp.1 = 0) (ret.toInt = iW By Nb 11 Sp)
set_option maxRecDepth 10000 in
set_option maxHeartbeats 4000000 in
theorem c_71s11x {By : Int → Int} {Nb : Int} {Sp : PS} (σ0 : SG) (hσ0 : WT σ0) (hC : CT By Nb σ0 Sp) : En 4 90 none mr_71 (P_71s11x σ0 By Nb Sp) 0 [(0, .ref 3), (1, .retAddr 23)] [] σ0 := by
  have hF0 : Fr [] σ0 σ0 := Fr_rfl
  obtain ⟨z2, h1, h3, h4⟩ := WT_peekI hσ0 (by decide +kernel : TG 3 = 3) (by decide +kernel : FT 3 1 = (0, 0, 4)) (by decide +kernel)
  obtain ⟨z6, h5, h7, h8⟩ := WT_peekI hσ0 (by decide +kernel : TG 3 = 3) (by decide +kernel : FT 3 3 = (0, 0, 1600)) (by decide +kernel)
  obtain ⟨z10, h9, h11, h12⟩ := WT_peekI hσ0 (by decide +kernel : TG 3 = 3) (by decide +kernel : FT 3 2 = (0, 0, 1600)) (by decide +kernel)
  have h13 : Imp (Sp.1 = 0) (tK By Nb Sp.2.2.1 = z2.toInt) := CT_t hC h1
  refine En_Ps 1 (pc' := 1) (lv' := [(0, .ref 3), (1, .retAddr 23)]) (st' := [.ref 3]) rfl ?_
  refine En_getK (j := 1) h1 rfl rfl rfl (by decide +kernel : TG 3 = 3) (by decide +kernel) ?_
  refine En_Ps 1 (pc' := 5) (lv' := [(0, .ref 3), (1, .retAddr 23)]) (st' := [.int ((Int32.ofInt 1)), .int z2]) rfl ?_
  refine En_icNe _ rfl (by decide : (Int32.ofInt 1).toInt = 1) rfl (fun h14 => ?_) (fun h14 => ?_)
  · refine En_Ps 1 (pc' := 25) (lv' := [(0, .ref 3), (1, .retAddr 23)]) (st' := [.int ((Int32.ofInt 0))]) rfl ?_
    refine En_top (by decide : (Int32.ofInt 0).toInt = 0) (fun z15 h16 => ?_)
    exact En_ret (v := some (.int z15)) rfl rfl (retZ rfl rfl (by omega) (by omega)) ⟨hσ0, hF0, z15, rfl, ⟨by omega, by omega, fun z => by have q1 := CT_t hC h1 z; have q2 := CT_fa hC h5 h9 z; have q := iW_0 (By := By) (Nb := Nb) (i := 11) (S := Sp) (by simp only [LWl]; omega); omega⟩⟩
  · refine En_Ps 1 (pc' := 9) (lv' := [(0, .ref 3), (1, .retAddr 23)]) (st' := [.ref 3]) rfl ?_
    refine En_getK (j := 3) h5 rfl rfl rfl (by decide +kernel : TG 3 = 3) (by decide +kernel) ?_
    refine En_Ps 1 (pc' := 13) (lv' := [(0, .ref 3), (1, .retAddr 23)]) (st' := [.ref 3, .int z6]) rfl ?_
    refine En_getK (j := 2) h9 rfl rfl rfl (by decide +kernel : TG 3 = 3) (by decide +kernel) ?_
    refine En_Ps 1 (pc' := 17) (lv' := [(0, .ref 3), (1, .retAddr 23)]) (st' := [.int ((z6 - z10))]) rfl ?_
    refine En_top (subI rfl rfl (by omega) (by omega)) (fun z17 h18 => ?_)
    refine En_Ps 1 (pc' := 18) (lv' := [(0, .ref 3), (1, .retAddr 23)]) (st' := [.retAddr 23, .int z17]) rfl ?_
    refine En_slen 11 8 rfl rfl (by decide) rfl ?_
    refine En_icEq _ rfl (by decide : (Int32.ofNat 8).toInt = 8) rfl (fun h19 => ?_) (fun h19 => ?_)
    · refine En_Ps 2 (pc' := 28) (lv' := [(2, .int ((Int32.ofInt 0))), (0, .ref 3), (1, .retAddr 23)]) (st' := []) rfl ?_
      have key28 : ∀ (n28 : Nat) (σ21 : SG) (y20 : Int32), WT σ21 → Fr [] σ0 σ21 → (σ21 3)[1]? = some (.int z2) → (σ21 3)[3]? = some (.int z6) → (σ21 3)[2]? = some (.int z10) → 0 ≤ y20.toInt → y20.toInt ≤ 8 → z6.toInt - y20.toInt < (n28 : Int) → Imp (Sp.1 = 0) (ISQ By Nb 11 Sp 1 y20.toInt) → En 4 90 none mr_71 (P_71s11x σ0 By Nb Sp) 28 [(0, .ref 3), (1, .retAddr 23), (2, .int y20)] [] σ21 := by
        intro n28
        induction n28 with
        | zero =>
          intro σ21 y20 h22 h23 h24 h25 h26 h27 h28 h29 h30
          exfalso; omega
        | succ n28 ih28 =>
          intro σ21 y20 h22 h23 h24 h25 h26 h27 h28 h29 h30
          refine En_Ps 2 (pc' := 30) (lv' := [(0, .ref 3), (1, .retAddr 23), (2, .int y20)]) (st' := [.retAddr 23, .int y20]) rfl ?_
          refine En_slen 11 8 rfl rfl (by decide) rfl ?_
          refine En_icGe _ rfl (by decide : (Int32.ofNat 8).toInt = 8) rfl (fun h31 => ?_) (fun h31 => ?_)
          · refine En_Ps 1 (pc' := 67) (lv' := [(0, .ref 3), (1, .retAddr 23), (2, .int y20)]) (st' := [.int ((Int32.ofInt 1))]) rfl ?_
            refine En_top (by decide : (Int32.ofInt 1).toInt = 1) (fun z32 h33 => ?_)
            exact En_ret (v := some (.int z32)) rfl rfl (retZ rfl rfl (by omega) (by omega)) ⟨h22, h23, z32, rfl, ⟨by omega, by omega, fun z => by have q := ISQ_x (Imp_m h30 z) (Or.inr (by simp only [LWl]; omega)); omega⟩⟩
          · refine En_Ps 1 (pc' := 37) (lv' := [(0, .ref 3), (1, .retAddr 23), (2, .int y20)]) (st' := [.ref 3]) rfl ?_
            refine En_getU (j := 0) (u := 1) (g' := 1) (q := 0) rfl rfl rfl (by decide +kernel : TG 3 = 3) (by decide +kernel) h22 (by decide +kernel) (by decide +kernel) (fun h34 => ?_)
            refine En_getU (j := 0) (u := 2) (g' := 2) (q := 0) rfl rfl rfl (by decide +kernel : TG 1 = 1) (by decide +kernel) h22 (by decide +kernel) (by decide +kernel) (fun h36 => ?_)
            refine En_Ps 1 (pc' := 44) (lv' := [(0, .ref 3), (1, .retAddr 23), (2, .int y20)]) (st' := [.ref 3, .ref 2]) rfl ?_
            refine En_getK (j := 2) h26 rfl rfl rfl (by decide +kernel : TG 3 = 3) (by decide +kernel) ?_
            refine En_Ps 2 (pc' := 49) (lv' := [(0, .ref 3), (1, .retAddr 23), (2, .int y20)]) (st' := [.int ((z10 + y20)), .ref 2]) rfl ?_
            refine En_top (addI rfl rfl (by omega) (by omega)) (fun z38 h39 => ?_)
            refine En_bald (l := (-128)) (u := 127) rfl rfl (by decide +kernel : TG 2 = 2) (by decide +kernel) h22 (by omega) (lnI (by decide +kernel : LN _ = 1600) (by omega)) (FTsgl (by decide +kernel)) (fun z41 h40 h42 h43 => ?_)
            refine En_Ps 2 (pc' := 52) (lv' := [(0, .ref 3), (1, .retAddr 23), (2, .int y20)]) (st' := [.int y20, .retAddr 23, .int z41]) rfl ?_
            refine En_scharX 11 8 rfl rfl rfl (by decide) (by omega) (by omega) rfl (fun z44 h45 h46 h47 => ?_)
            refine En_icEq _ rfl rfl rfl (fun h48 => ?_) (fun h48 => ?_)
            · refine En_Ps 1 (pc' := 63) (lv' := [(2, .int ((y20 + Int32.ofInt 1))), (0, .ref 3), (1, .retAddr 23)]) (st' := []) rfl ?_
              refine En_lv1 (addI rfl (by decide : (Int32.ofInt 1).toInt = 1) (by omega) (by omega)) (fun z49 h50 => ?_)
              refine En_Ps 1 (pc' := 28) (lv' := [(2, .int z49), (0, .ref 3), (1, .retAddr 23)]) (st' := []) rfl ?_
              refine En_lv (lv := [(0, .ref 3), (1, .retAddr 23), (2, .int z49)]) ⟨rfl, rfl, rfl, trivial⟩ ?_
              exact ih28 σ21 z49 h22 h23 h24 h25 h26 (by omega) (by omega) (by omega) (fun z => by have q1 := CT_t hC h1 z; have q2 := CT_fa hC h5 h9 z; exact ISQc_n (CT_fr hC h23 (by decide +kernel)) (Imp_m h30 z) (by simp only [LWl]; omega) (by omega) h40 h47 (by omega) (by omega))
            · refine En_Ps 1 (pc' := 59) (lv' := [(0, .ref 3), (1, .retAddr 23), (2, .int y20)]) (st' := [.int ((Int32.ofInt 0))]) rfl ?_
              refine En_top (by decide : (Int32.ofInt 0).toInt = 0) (fun z51 h52 => ?_)
              exact En_ret (v := some (.int z51)) rfl rfl (retZ rfl rfl (by omega) (by omega)) ⟨h22, h23, z51, rfl, ⟨by omega, by omega, fun z => by have q1 := CT_t hC h1 z; have q2 := CT_fa hC h5 h9 z; have q := ISQc_n (b' := 0) (CT_fr hC h23 (by decide +kernel)) (Imp_m h30 z) (by simp only [LWl]; omega) (by omega) h40 h47 rfl (Or.inr ⟨rfl, by omega⟩); have q2 := ISQ_x q (Or.inl rfl); omega⟩⟩
      have := (by decide : (Int32.ofInt 0).toInt = 0)
      refine En_lv (lv := [(0, .ref 3), (1, .retAddr 23), (2, .int ((Int32.ofInt 0)))]) ⟨rfl, rfl, rfl, trivial⟩ ?_
      exact key28 (Int.toNat (z6.toInt) + 1) σ0 ((Int32.ofInt 0)) hσ0 hF0 h1 h5 h9 (by omega) (by omega) (by omega) (fun z => by have q1 := CT_t hC h1 z; have q2 := CT_fa hC h5 h9 z; exact ISQc_s (by decide) z (by omega) (by simp only [LWl]; omega))
    · refine En_Ps 1 (pc' := 25) (lv' := [(0, .ref 3), (1, .retAddr 23)]) (st' := [.int ((Int32.ofInt 0))]) rfl ?_
      refine En_top (by decide : (Int32.ofInt 0).toInt = 0) (fun z53 h54 => ?_)
      exact En_ret (v := some (.int z53)) rfl rfl (retZ rfl rfl (by omega) (by omega)) ⟨hσ0, hF0, z53, rfl, ⟨by omega, by omega, fun z => by have q1 := CT_t hC h1 z; have q2 := CT_fa hC h5 h9 z; have q := iW_0 (By := By) (Nb := Nb) (i := 11) (S := Sp) (by simp only [LWl]; omega); omega⟩⟩
/-- DoorSchool$Reader.stands(Ljava/lang/String;)Z -/
abbrev P_71s12x (σ0 : SG) (By : Int → Int) (Nb : Int) (Sp : PS) : PO := fun v σ => WT σ ∧ Fr [] σ0 σ ∧ ∃ ret : Int32, v = some (.int ret) ∧ -ret.toInt ≤ 0 ∧ ret.toInt - 1 ≤ 0 ∧ Imp (Sp.1 = 0) (ret.toInt = iW By Nb 12 Sp)
set_option maxRecDepth 10000 in
set_option maxHeartbeats 4000000 in
theorem c_71s12x {By : Int → Int} {Nb : Int} {Sp : PS} (σ0 : SG) (hσ0 : WT σ0) (hC : CT By Nb σ0 Sp) : En 4 90 none mr_71 (P_71s12x σ0 By Nb Sp) 0 [(0, .ref 3), (1, .retAddr 25)] [] σ0 := by
  have hF0 : Fr [] σ0 σ0 := Fr_rfl
  obtain ⟨z2, h1, h3, h4⟩ := WT_peekI hσ0 (by decide +kernel : TG 3 = 3) (by decide +kernel : FT 3 1 = (0, 0, 4)) (by decide +kernel)
  obtain ⟨z6, h5, h7, h8⟩ := WT_peekI hσ0 (by decide +kernel : TG 3 = 3) (by decide +kernel : FT 3 3 = (0, 0, 1600)) (by decide +kernel)
  obtain ⟨z10, h9, h11, h12⟩ := WT_peekI hσ0 (by decide +kernel : TG 3 = 3) (by decide +kernel : FT 3 2 = (0, 0, 1600)) (by decide +kernel)
  have h13 : Imp (Sp.1 = 0) (tK By Nb Sp.2.2.1 = z2.toInt) := CT_t hC h1
  refine En_Ps 1 (pc' := 1) (lv' := [(0, .ref 3), (1, .retAddr 25)]) (st' := [.ref 3]) rfl ?_
  refine En_getK (j := 1) h1 rfl rfl rfl (by decide +kernel : TG 3 = 3) (by decide +kernel) ?_
  refine En_Ps 1 (pc' := 5) (lv' := [(0, .ref 3), (1, .retAddr 25)]) (st' := [.int ((Int32.ofInt 1)), .int z2]) rfl ?_
  refine En_icNe _ rfl (by decide : (Int32.ofInt 1).toInt = 1) rfl (fun h14 => ?_) (fun h14 => ?_)
  · refine En_Ps 1 (pc' := 25) (lv' := [(0, .ref 3), (1, .retAddr 25)]) (st' := [.int ((Int32.ofInt 0))]) rfl ?_
    refine En_top (by decide : (Int32.ofInt 0).toInt = 0) (fun z15 h16 => ?_)
    exact En_ret (v := some (.int z15)) rfl rfl (retZ rfl rfl (by omega) (by omega)) ⟨hσ0, hF0, z15, rfl, ⟨by omega, by omega, fun z => by have q1 := CT_t hC h1 z; have q2 := CT_fa hC h5 h9 z; have q := iW_0 (By := By) (Nb := Nb) (i := 12) (S := Sp) (by simp only [LWl]; omega); omega⟩⟩
  · refine En_Ps 1 (pc' := 9) (lv' := [(0, .ref 3), (1, .retAddr 25)]) (st' := [.ref 3]) rfl ?_
    refine En_getK (j := 3) h5 rfl rfl rfl (by decide +kernel : TG 3 = 3) (by decide +kernel) ?_
    refine En_Ps 1 (pc' := 13) (lv' := [(0, .ref 3), (1, .retAddr 25)]) (st' := [.ref 3, .int z6]) rfl ?_
    refine En_getK (j := 2) h9 rfl rfl rfl (by decide +kernel : TG 3 = 3) (by decide +kernel) ?_
    refine En_Ps 1 (pc' := 17) (lv' := [(0, .ref 3), (1, .retAddr 25)]) (st' := [.int ((z6 - z10))]) rfl ?_
    refine En_top (subI rfl rfl (by omega) (by omega)) (fun z17 h18 => ?_)
    refine En_Ps 1 (pc' := 18) (lv' := [(0, .ref 3), (1, .retAddr 25)]) (st' := [.retAddr 25, .int z17]) rfl ?_
    refine En_slen 12 4 rfl rfl (by decide) rfl ?_
    refine En_icEq _ rfl (by decide : (Int32.ofNat 4).toInt = 4) rfl (fun h19 => ?_) (fun h19 => ?_)
    · refine En_Ps 2 (pc' := 28) (lv' := [(2, .int ((Int32.ofInt 0))), (0, .ref 3), (1, .retAddr 25)]) (st' := []) rfl ?_
      have key28 : ∀ (n28 : Nat) (σ21 : SG) (y20 : Int32), WT σ21 → Fr [] σ0 σ21 → (σ21 3)[1]? = some (.int z2) → (σ21 3)[3]? = some (.int z6) → (σ21 3)[2]? = some (.int z10) → 0 ≤ y20.toInt → y20.toInt ≤ 4 → z6.toInt - y20.toInt < (n28 : Int) → Imp (Sp.1 = 0) (ISQ By Nb 12 Sp 1 y20.toInt) → En 4 90 none mr_71 (P_71s12x σ0 By Nb Sp) 28 [(0, .ref 3), (1, .retAddr 25), (2, .int y20)] [] σ21 := by
        intro n28
        induction n28 with
        | zero =>
          intro σ21 y20 h22 h23 h24 h25 h26 h27 h28 h29 h30
          exfalso; omega
        | succ n28 ih28 =>
          intro σ21 y20 h22 h23 h24 h25 h26 h27 h28 h29 h30
          refine En_Ps 2 (pc' := 30) (lv' := [(0, .ref 3), (1, .retAddr 25), (2, .int y20)]) (st' := [.retAddr 25, .int y20]) rfl ?_
          refine En_slen 12 4 rfl rfl (by decide) rfl ?_
          refine En_icGe _ rfl (by decide : (Int32.ofNat 4).toInt = 4) rfl (fun h31 => ?_) (fun h31 => ?_)
          · refine En_Ps 1 (pc' := 67) (lv' := [(0, .ref 3), (1, .retAddr 25), (2, .int y20)]) (st' := [.int ((Int32.ofInt 1))]) rfl ?_
            refine En_top (by decide : (Int32.ofInt 1).toInt = 1) (fun z32 h33 => ?_)
            exact En_ret (v := some (.int z32)) rfl rfl (retZ rfl rfl (by omega) (by omega)) ⟨h22, h23, z32, rfl, ⟨by omega, by omega, fun z => by have q := ISQ_x (Imp_m h30 z) (Or.inr (by simp only [LWl]; omega)); omega⟩⟩
          · refine En_Ps 1 (pc' := 37) (lv' := [(0, .ref 3), (1, .retAddr 25), (2, .int y20)]) (st' := [.ref 3]) rfl ?_
            refine En_getU (j := 0) (u := 1) (g' := 1) (q := 0) rfl rfl rfl (by decide +kernel : TG 3 = 3) (by decide +kernel) h22 (by decide +kernel) (by decide +kernel) (fun h34 => ?_)
            refine En_getU (j := 0) (u := 2) (g' := 2) (q := 0) rfl rfl rfl (by decide +kernel : TG 1 = 1) (by decide +kernel) h22 (by decide +kernel) (by decide +kernel) (fun h36 => ?_)
            refine En_Ps 1 (pc' := 44) (lv' := [(0, .ref 3), (1, .retAddr 25), (2, .int y20)]) (st' := [.ref 3, .ref 2]) rfl ?_
            refine En_getK (j := 2) h26 rfl rfl rfl (by decide +kernel : TG 3 = 3) (by decide +kernel) ?_
            refine En_Ps 2 (pc' := 49) (lv' := [(0, .ref 3), (1, .retAddr 25), (2, .int y20)]) (st' := [.int ((z10 + y20)), .ref 2]) rfl ?_
            refine En_top (addI rfl rfl (by omega) (by omega)) (fun z38 h39 => ?_)
            refine En_bald (l := (-128)) (u := 127) rfl rfl (by decide +kernel : TG 2 = 2) (by decide +kernel) h22 (by omega) (lnI (by decide +kernel : LN _ = 1600) (by omega)) (FTsgl (by decide +kernel)) (fun z41 h40 h42 h43 => ?_)
            refine En_Ps 2 (pc' := 52) (lv' := [(0, .ref 3), (1, .retAddr 25), (2, .int y20)]) (st' := [.int y20, .retAddr 25, .int z41]) rfl ?_
            refine En_scharX 12 4 rfl rfl rfl (by decide) (by omega) (by omega) rfl (fun z44 h45 h46 h47 => ?_)
            refine En_icEq _ rfl rfl rfl (fun h48 => ?_) (fun h48 => ?_)
            · refine En_Ps 1 (pc' := 63) (lv' := [(2, .int ((y20 + Int32.ofInt 1))), (0, .ref 3), (1, .retAddr 25)]) (st' := []) rfl ?_
              refine En_lv1 (addI rfl (by decide : (Int32.ofInt 1).toInt = 1) (by omega) (by omega)) (fun z49 h50 => ?_)
              refine En_Ps 1 (pc' := 28) (lv' := [(2, .int z49), (0, .ref 3), (1, .retAddr 25)]) (st' := []) rfl ?_
              refine En_lv (lv := [(0, .ref 3), (1, .retAddr 25), (2, .int z49)]) ⟨rfl, rfl, rfl, trivial⟩ ?_
              exact ih28 σ21 z49 h22 h23 h24 h25 h26 (by omega) (by omega) (by omega) (fun z => by have q1 := CT_t hC h1 z; have q2 := CT_fa hC h5 h9 z; exact ISQc_n (CT_fr hC h23 (by decide +kernel)) (Imp_m h30 z) (by simp only [LWl]; omega) (by omega) h40 h47 (by omega) (by omega))
            · refine En_Ps 1 (pc' := 59) (lv' := [(0, .ref 3), (1, .retAddr 25), (2, .int y20)]) (st' := [.int ((Int32.ofInt 0))]) rfl ?_
              refine En_top (by decide : (Int32.ofInt 0).toInt = 0) (fun z51 h52 => ?_)
              exact En_ret (v := some (.int z51)) rfl rfl (retZ rfl rfl (by omega) (by omega)) ⟨h22, h23, z51, rfl, ⟨by omega, by omega, fun z => by have q1 := CT_t hC h1 z; have q2 := CT_fa hC h5 h9 z; have q := ISQc_n (b' := 0) (CT_fr hC h23 (by decide +kernel)) (Imp_m h30 z) (by simp only [LWl]; omega) (by omega) h40 h47 rfl (Or.inr ⟨rfl, by omega⟩); have q2 := ISQ_x q (Or.inl rfl); omega⟩⟩
      have := (by decide : (Int32.ofInt 0).toInt = 0)
      refine En_lv (lv := [(0, .ref 3), (1, .retAddr 25), (2, .int ((Int32.ofInt 0)))]) ⟨rfl, rfl, rfl, trivial⟩ ?_
      exact key28 (Int.toNat (z6.toInt) + 1) σ0 ((Int32.ofInt 0)) hσ0 hF0 h1 h5 h9 (by omega) (by omega) (by omega) (fun z => by have q1 := CT_t hC h1 z; have q2 := CT_fa hC h5 h9 z; exact ISQc_s (by decide) z (by omega) (by simp only [LWl]; omega))
    · refine En_Ps 1 (pc' := 25) (lv' := [(0, .ref 3), (1, .retAddr 25)]) (st' := [.int ((Int32.ofInt 0))]) rfl ?_
      refine En_top (by decide : (Int32.ofInt 0).toInt = 0) (fun z53 h54 => ?_)
      exact En_ret (v := some (.int z53)) rfl rfl (retZ rfl rfl (by omega) (by omega)) ⟨hσ0, hF0, z53, rfl, ⟨by omega, by omega, fun z => by have q1 := CT_t hC h1 z; have q2 := CT_fa hC h5 h9 z; have q := iW_0 (By := By) (Nb := Nb) (i := 12) (S := Sp) (by simp only [LWl]; omega); omega⟩⟩
/-- DoorSchool$Reader.stands(Ljava/lang/String;)Z -/
abbrev P_71s13x (σ0 : SG) (By : Int → Int) (Nb : Int) (Sp : PS) : PO := fun v σ => WT σ ∧ Fr [] σ0 σ ∧ ∃ ret : Int32, v = some (.int ret) ∧ -ret.toInt ≤ 0 ∧ ret.toInt - 1 ≤ 0 ∧ Imp (Sp.1 = 0) (ret.toInt = iW By Nb 13 Sp)
set_option maxRecDepth 10000 in
set_option maxHeartbeats 4000000 in
theorem c_71s13x {By : Int → Int} {Nb : Int} {Sp : PS} (σ0 : SG) (hσ0 : WT σ0) (hC : CT By Nb σ0 Sp) : En 4 90 none mr_71 (P_71s13x σ0 By Nb Sp) 0 [(0, .ref 3), (1, .retAddr 27)] [] σ0 := by
  have hF0 : Fr [] σ0 σ0 := Fr_rfl
  obtain ⟨z2, h1, h3, h4⟩ := WT_peekI hσ0 (by decide +kernel : TG 3 = 3) (by decide +kernel : FT 3 1 = (0, 0, 4)) (by decide +kernel)
  obtain ⟨z6, h5, h7, h8⟩ := WT_peekI hσ0 (by decide +kernel : TG 3 = 3) (by decide +kernel : FT 3 3 = (0, 0, 1600)) (by decide +kernel)
  obtain ⟨z10, h9, h11, h12⟩ := WT_peekI hσ0 (by decide +kernel : TG 3 = 3) (by decide +kernel : FT 3 2 = (0, 0, 1600)) (by decide +kernel)
  have h13 : Imp (Sp.1 = 0) (tK By Nb Sp.2.2.1 = z2.toInt) := CT_t hC h1
  refine En_Ps 1 (pc' := 1) (lv' := [(0, .ref 3), (1, .retAddr 27)]) (st' := [.ref 3]) rfl ?_
  refine En_getK (j := 1) h1 rfl rfl rfl (by decide +kernel : TG 3 = 3) (by decide +kernel) ?_
  refine En_Ps 1 (pc' := 5) (lv' := [(0, .ref 3), (1, .retAddr 27)]) (st' := [.int ((Int32.ofInt 1)), .int z2]) rfl ?_
  refine En_icNe _ rfl (by decide : (Int32.ofInt 1).toInt = 1) rfl (fun h14 => ?_) (fun h14 => ?_)
  · refine En_Ps 1 (pc' := 25) (lv' := [(0, .ref 3), (1, .retAddr 27)]) (st' := [.int ((Int32.ofInt 0))]) rfl ?_
    refine En_top (by decide : (Int32.ofInt 0).toInt = 0) (fun z15 h16 => ?_)
    exact En_ret (v := some (.int z15)) rfl rfl (retZ rfl rfl (by omega) (by omega)) ⟨hσ0, hF0, z15, rfl, ⟨by omega, by omega, fun z => by have q1 := CT_t hC h1 z; have q2 := CT_fa hC h5 h9 z; have q := iW_0 (By := By) (Nb := Nb) (i := 13) (S := Sp) (by simp only [LWl]; omega); omega⟩⟩
  · refine En_Ps 1 (pc' := 9) (lv' := [(0, .ref 3), (1, .retAddr 27)]) (st' := [.ref 3]) rfl ?_
    refine En_getK (j := 3) h5 rfl rfl rfl (by decide +kernel : TG 3 = 3) (by decide +kernel) ?_
    refine En_Ps 1 (pc' := 13) (lv' := [(0, .ref 3), (1, .retAddr 27)]) (st' := [.ref 3, .int z6]) rfl ?_
    refine En_getK (j := 2) h9 rfl rfl rfl (by decide +kernel : TG 3 = 3) (by decide +kernel) ?_
    refine En_Ps 1 (pc' := 17) (lv' := [(0, .ref 3), (1, .retAddr 27)]) (st' := [.int ((z6 - z10))]) rfl ?_
    refine En_top (subI rfl rfl (by omega) (by omega)) (fun z17 h18 => ?_)
    refine En_Ps 1 (pc' := 18) (lv' := [(0, .ref 3), (1, .retAddr 27)]) (st' := [.retAddr 27, .int z17]) rfl ?_
    refine En_slen 13 5 rfl rfl (by decide) rfl ?_
    refine En_icEq _ rfl (by decide : (Int32.ofNat 5).toInt = 5) rfl (fun h19 => ?_) (fun h19 => ?_)
    · refine En_Ps 2 (pc' := 28) (lv' := [(2, .int ((Int32.ofInt 0))), (0, .ref 3), (1, .retAddr 27)]) (st' := []) rfl ?_
      have key28 : ∀ (n28 : Nat) (σ21 : SG) (y20 : Int32), WT σ21 → Fr [] σ0 σ21 → (σ21 3)[1]? = some (.int z2) → (σ21 3)[3]? = some (.int z6) → (σ21 3)[2]? = some (.int z10) → 0 ≤ y20.toInt → y20.toInt ≤ 5 → z6.toInt - y20.toInt < (n28 : Int) → Imp (Sp.1 = 0) (ISQ By Nb 13 Sp 1 y20.toInt) → En 4 90 none mr_71 (P_71s13x σ0 By Nb Sp) 28 [(0, .ref 3), (1, .retAddr 27), (2, .int y20)] [] σ21 := by
        intro n28
        induction n28 with
        | zero =>
          intro σ21 y20 h22 h23 h24 h25 h26 h27 h28 h29 h30
          exfalso; omega
        | succ n28 ih28 =>
          intro σ21 y20 h22 h23 h24 h25 h26 h27 h28 h29 h30
          refine En_Ps 2 (pc' := 30) (lv' := [(0, .ref 3), (1, .retAddr 27), (2, .int y20)]) (st' := [.retAddr 27, .int y20]) rfl ?_
          refine En_slen 13 5 rfl rfl (by decide) rfl ?_
          refine En_icGe _ rfl (by decide : (Int32.ofNat 5).toInt = 5) rfl (fun h31 => ?_) (fun h31 => ?_)
          · refine En_Ps 1 (pc' := 67) (lv' := [(0, .ref 3), (1, .retAddr 27), (2, .int y20)]) (st' := [.int ((Int32.ofInt 1))]) rfl ?_
            refine En_top (by decide : (Int32.ofInt 1).toInt = 1) (fun z32 h33 => ?_)
            exact En_ret (v := some (.int z32)) rfl rfl (retZ rfl rfl (by omega) (by omega)) ⟨h22, h23, z32, rfl, ⟨by omega, by omega, fun z => by have q := ISQ_x (Imp_m h30 z) (Or.inr (by simp only [LWl]; omega)); omega⟩⟩
          · refine En_Ps 1 (pc' := 37) (lv' := [(0, .ref 3), (1, .retAddr 27), (2, .int y20)]) (st' := [.ref 3]) rfl ?_
            refine En_getU (j := 0) (u := 1) (g' := 1) (q := 0) rfl rfl rfl (by decide +kernel : TG 3 = 3) (by decide +kernel) h22 (by decide +kernel) (by decide +kernel) (fun h34 => ?_)
            refine En_getU (j := 0) (u := 2) (g' := 2) (q := 0) rfl rfl rfl (by decide +kernel : TG 1 = 1) (by decide +kernel) h22 (by decide +kernel) (by decide +kernel) (fun h36 => ?_)
            refine En_Ps 1 (pc' := 44) (lv' := [(0, .ref 3), (1, .retAddr 27), (2, .int y20)]) (st' := [.ref 3, .ref 2]) rfl ?_
            refine En_getK (j := 2) h26 rfl rfl rfl (by decide +kernel : TG 3 = 3) (by decide +kernel) ?_
            refine En_Ps 2 (pc' := 49) (lv' := [(0, .ref 3), (1, .retAddr 27), (2, .int y20)]) (st' := [.int ((z10 + y20)), .ref 2]) rfl ?_
            refine En_top (addI rfl rfl (by omega) (by omega)) (fun z38 h39 => ?_)
            refine En_bald (l := (-128)) (u := 127) rfl rfl (by decide +kernel : TG 2 = 2) (by decide +kernel) h22 (by omega) (lnI (by decide +kernel : LN _ = 1600) (by omega)) (FTsgl (by decide +kernel)) (fun z41 h40 h42 h43 => ?_)
            refine En_Ps 2 (pc' := 52) (lv' := [(0, .ref 3), (1, .retAddr 27), (2, .int y20)]) (st' := [.int y20, .retAddr 27, .int z41]) rfl ?_
            refine En_scharX 13 5 rfl rfl rfl (by decide) (by omega) (by omega) rfl (fun z44 h45 h46 h47 => ?_)
            refine En_icEq _ rfl rfl rfl (fun h48 => ?_) (fun h48 => ?_)
            · refine En_Ps 1 (pc' := 63) (lv' := [(2, .int ((y20 + Int32.ofInt 1))), (0, .ref 3), (1, .retAddr 27)]) (st' := []) rfl ?_
              refine En_lv1 (addI rfl (by decide : (Int32.ofInt 1).toInt = 1) (by omega) (by omega)) (fun z49 h50 => ?_)
              refine En_Ps 1 (pc' := 28) (lv' := [(2, .int z49), (0, .ref 3), (1, .retAddr 27)]) (st' := []) rfl ?_
              refine En_lv (lv := [(0, .ref 3), (1, .retAddr 27), (2, .int z49)]) ⟨rfl, rfl, rfl, trivial⟩ ?_
              exact ih28 σ21 z49 h22 h23 h24 h25 h26 (by omega) (by omega) (by omega) (fun z => by have q1 := CT_t hC h1 z; have q2 := CT_fa hC h5 h9 z; exact ISQc_n (CT_fr hC h23 (by decide +kernel)) (Imp_m h30 z) (by simp only [LWl]; omega) (by omega) h40 h47 (by omega) (by omega))
            · refine En_Ps 1 (pc' := 59) (lv' := [(0, .ref 3), (1, .retAddr 27), (2, .int y20)]) (st' := [.int ((Int32.ofInt 0))]) rfl ?_
              refine En_top (by decide : (Int32.ofInt 0).toInt = 0) (fun z51 h52 => ?_)
              exact En_ret (v := some (.int z51)) rfl rfl (retZ rfl rfl (by omega) (by omega)) ⟨h22, h23, z51, rfl, ⟨by omega, by omega, fun z => by have q1 := CT_t hC h1 z; have q2 := CT_fa hC h5 h9 z; have q := ISQc_n (b' := 0) (CT_fr hC h23 (by decide +kernel)) (Imp_m h30 z) (by simp only [LWl]; omega) (by omega) h40 h47 rfl (Or.inr ⟨rfl, by omega⟩); have q2 := ISQ_x q (Or.inl rfl); omega⟩⟩
      have := (by decide : (Int32.ofInt 0).toInt = 0)
      refine En_lv (lv := [(0, .ref 3), (1, .retAddr 27), (2, .int ((Int32.ofInt 0)))]) ⟨rfl, rfl, rfl, trivial⟩ ?_
      exact key28 (Int.toNat (z6.toInt) + 1) σ0 ((Int32.ofInt 0)) hσ0 hF0 h1 h5 h9 (by omega) (by omega) (by omega) (fun z => by have q1 := CT_t hC h1 z; have q2 := CT_fa hC h5 h9 z; exact ISQc_s (by decide) z (by omega) (by simp only [LWl]; omega))
    · refine En_Ps 1 (pc' := 25) (lv' := [(0, .ref 3), (1, .retAddr 27)]) (st' := [.int ((Int32.ofInt 0))]) rfl ?_
      refine En_top (by decide : (Int32.ofInt 0).toInt = 0) (fun z53 h54 => ?_)
      exact En_ret (v := some (.int z53)) rfl rfl (retZ rfl rfl (by omega) (by omega)) ⟨hσ0, hF0, z53, rfl, ⟨by omega, by omega, fun z => by have q1 := CT_t hC h1 z; have q2 := CT_fa hC h5 h9 z; have q := iW_0 (By := By) (Nb := Nb) (i := 13) (S := Sp) (by simp only [LWl]; omega); omega⟩⟩
/-- DoorSchool$Reader.stands(Ljava/lang/String;)Z -/
abbrev P_71s14x (σ0 : SG) (By : Int → Int) (Nb : Int) (Sp : PS) : PO := fun v σ => WT σ ∧ Fr [] σ0 σ ∧ ∃ ret : Int32, v = some (.int ret) ∧ -ret.toInt ≤ 0 ∧ ret.toInt - 1 ≤ 0 ∧ Imp (Sp.1 = 0) (ret.toInt = iW By Nb 14 Sp)
set_option maxRecDepth 10000 in
set_option maxHeartbeats 4000000 in
theorem c_71s14x {By : Int → Int} {Nb : Int} {Sp : PS} (σ0 : SG) (hσ0 : WT σ0) (hC : CT By Nb σ0 Sp) : En 4 90 none mr_71 (P_71s14x σ0 By Nb Sp) 0 [(0, .ref 3), (1, .retAddr 29)] [] σ0 := by
  have hF0 : Fr [] σ0 σ0 := Fr_rfl
  obtain ⟨z2, h1, h3, h4⟩ := WT_peekI hσ0 (by decide +kernel : TG 3 = 3) (by decide +kernel : FT 3 1 = (0, 0, 4)) (by decide +kernel)
  obtain ⟨z6, h5, h7, h8⟩ := WT_peekI hσ0 (by decide +kernel : TG 3 = 3) (by decide +kernel : FT 3 3 = (0, 0, 1600)) (by decide +kernel)
  obtain ⟨z10, h9, h11, h12⟩ := WT_peekI hσ0 (by decide +kernel : TG 3 = 3) (by decide +kernel : FT 3 2 = (0, 0, 1600)) (by decide +kernel)
  have h13 : Imp (Sp.1 = 0) (tK By Nb Sp.2.2.1 = z2.toInt) := CT_t hC h1
  refine En_Ps 1 (pc' := 1) (lv' := [(0, .ref 3), (1, .retAddr 29)]) (st' := [.ref 3]) rfl ?_
  refine En_getK (j := 1) h1 rfl rfl rfl (by decide +kernel : TG 3 = 3) (by decide +kernel) ?_
  refine En_Ps 1 (pc' := 5) (lv' := [(0, .ref 3), (1, .retAddr 29)]) (st' := [.int ((Int32.ofInt 1)), .int z2]) rfl ?_
  refine En_icNe _ rfl (by decide : (Int32.ofInt 1).toInt = 1) rfl (fun h14 => ?_) (fun h14 => ?_)
  · refine En_Ps 1 (pc' := 25) (lv' := [(0, .ref 3), (1, .retAddr 29)]) (st' := [.int ((Int32.ofInt 0))]) rfl ?_
    refine En_top (by decide : (Int32.ofInt 0).toInt = 0) (fun z15 h16 => ?_)
    exact En_ret (v := some (.int z15)) rfl rfl (retZ rfl rfl (by omega) (by omega)) ⟨hσ0, hF0, z15, rfl, ⟨by omega, by omega, fun z => by have q1 := CT_t hC h1 z; have q2 := CT_fa hC h5 h9 z; have q := iW_0 (By := By) (Nb := Nb) (i := 14) (S := Sp) (by simp only [LWl]; omega); omega⟩⟩
  · refine En_Ps 1 (pc' := 9) (lv' := [(0, .ref 3), (1, .retAddr 29)]) (st' := [.ref 3]) rfl ?_
    refine En_getK (j := 3) h5 rfl rfl rfl (by decide +kernel : TG 3 = 3) (by decide +kernel) ?_
    refine En_Ps 1 (pc' := 13) (lv' := [(0, .ref 3), (1, .retAddr 29)]) (st' := [.ref 3, .int z6]) rfl ?_
    refine En_getK (j := 2) h9 rfl rfl rfl (by decide +kernel : TG 3 = 3) (by decide +kernel) ?_
    refine En_Ps 1 (pc' := 17) (lv' := [(0, .ref 3), (1, .retAddr 29)]) (st' := [.int ((z6 - z10))]) rfl ?_
    refine En_top (subI rfl rfl (by omega) (by omega)) (fun z17 h18 => ?_)
    refine En_Ps 1 (pc' := 18) (lv' := [(0, .ref 3), (1, .retAddr 29)]) (st' := [.retAddr 29, .int z17]) rfl ?_
    refine En_slen 14 5 rfl rfl (by decide) rfl ?_
    refine En_icEq _ rfl (by decide : (Int32.ofNat 5).toInt = 5) rfl (fun h19 => ?_) (fun h19 => ?_)
    · refine En_Ps 2 (pc' := 28) (lv' := [(2, .int ((Int32.ofInt 0))), (0, .ref 3), (1, .retAddr 29)]) (st' := []) rfl ?_
      have key28 : ∀ (n28 : Nat) (σ21 : SG) (y20 : Int32), WT σ21 → Fr [] σ0 σ21 → (σ21 3)[1]? = some (.int z2) → (σ21 3)[3]? = some (.int z6) → (σ21 3)[2]? = some (.int z10) → 0 ≤ y20.toInt → y20.toInt ≤ 5 → z6.toInt - y20.toInt < (n28 : Int) → Imp (Sp.1 = 0) (ISQ By Nb 14 Sp 1 y20.toInt) → En 4 90 none mr_71 (P_71s14x σ0 By Nb Sp) 28 [(0, .ref 3), (1, .retAddr 29), (2, .int y20)] [] σ21 := by
        intro n28
        induction n28 with
        | zero =>
          intro σ21 y20 h22 h23 h24 h25 h26 h27 h28 h29 h30
          exfalso; omega
        | succ n28 ih28 =>
          intro σ21 y20 h22 h23 h24 h25 h26 h27 h28 h29 h30
          refine En_Ps 2 (pc' := 30) (lv' := [(0, .ref 3), (1, .retAddr 29), (2, .int y20)]) (st' := [.retAddr 29, .int y20]) rfl ?_
          refine En_slen 14 5 rfl rfl (by decide) rfl ?_
          refine En_icGe _ rfl (by decide : (Int32.ofNat 5).toInt = 5) rfl (fun h31 => ?_) (fun h31 => ?_)
          · refine En_Ps 1 (pc' := 67) (lv' := [(0, .ref 3), (1, .retAddr 29), (2, .int y20)]) (st' := [.int ((Int32.ofInt 1))]) rfl ?_
            refine En_top (by decide : (Int32.ofInt 1).toInt = 1) (fun z32 h33 => ?_)
            exact En_ret (v := some (.int z32)) rfl rfl (retZ rfl rfl (by omega) (by omega)) ⟨h22, h23, z32, rfl, ⟨by omega, by omega, fun z => by have q := ISQ_x (Imp_m h30 z) (Or.inr (by simp only [LWl]; omega)); omega⟩⟩
          · refine En_Ps 1 (pc' := 37) (lv' := [(0, .ref 3), (1, .retAddr 29), (2, .int y20)]) (st' := [.ref 3]) rfl ?_
            refine En_getU (j := 0) (u := 1) (g' := 1) (q := 0) rfl rfl rfl (by decide +kernel : TG 3 = 3) (by decide +kernel) h22 (by decide +kernel) (by decide +kernel) (fun h34 => ?_)
            refine En_getU (j := 0) (u := 2) (g' := 2) (q := 0) rfl rfl rfl (by decide +kernel : TG 1 = 1) (by decide +kernel) h22 (by decide +kernel) (by decide +kernel) (fun h36 => ?_)
            refine En_Ps 1 (pc' := 44) (lv' := [(0, .ref 3), (1, .retAddr 29), (2, .int y20)]) (st' := [.ref 3, .ref 2]) rfl ?_
            refine En_getK (j := 2) h26 rfl rfl rfl (by decide +kernel : TG 3 = 3) (by decide +kernel) ?_
            refine En_Ps 2 (pc' := 49) (lv' := [(0, .ref 3), (1, .retAddr 29), (2, .int y20)]) (st' := [.int ((z10 + y20)), .ref 2]) rfl ?_
            refine En_top (addI rfl rfl (by omega) (by omega)) (fun z38 h39 => ?_)
            refine En_bald (l := (-128)) (u := 127) rfl rfl (by decide +kernel : TG 2 = 2) (by decide +kernel) h22 (by omega) (lnI (by decide +kernel : LN _ = 1600) (by omega)) (FTsgl (by decide +kernel)) (fun z41 h40 h42 h43 => ?_)
            refine En_Ps 2 (pc' := 52) (lv' := [(0, .ref 3), (1, .retAddr 29), (2, .int y20)]) (st' := [.int y20, .retAddr 29, .int z41]) rfl ?_
            refine En_scharX 14 5 rfl rfl rfl (by decide) (by omega) (by omega) rfl (fun z44 h45 h46 h47 => ?_)
            refine En_icEq _ rfl rfl rfl (fun h48 => ?_) (fun h48 => ?_)
            · refine En_Ps 1 (pc' := 63) (lv' := [(2, .int ((y20 + Int32.ofInt 1))), (0, .ref 3), (1, .retAddr 29)]) (st' := []) rfl ?_
              refine En_lv1 (addI rfl (by decide : (Int32.ofInt 1).toInt = 1) (by omega) (by omega)) (fun z49 h50 => ?_)
              refine En_Ps 1 (pc' := 28) (lv' := [(2, .int z49), (0, .ref 3), (1, .retAddr 29)]) (st' := []) rfl ?_
              refine En_lv (lv := [(0, .ref 3), (1, .retAddr 29), (2, .int z49)]) ⟨rfl, rfl, rfl, trivial⟩ ?_
              exact ih28 σ21 z49 h22 h23 h24 h25 h26 (by omega) (by omega) (by omega) (fun z => by have q1 := CT_t hC h1 z; have q2 := CT_fa hC h5 h9 z; exact ISQc_n (CT_fr hC h23 (by decide +kernel)) (Imp_m h30 z) (by simp only [LWl]; omega) (by omega) h40 h47 (by omega) (by omega))
            · refine En_Ps 1 (pc' := 59) (lv' := [(0, .ref 3), (1, .retAddr 29), (2, .int y20)]) (st' := [.int ((Int32.ofInt 0))]) rfl ?_
              refine En_top (by decide : (Int32.ofInt 0).toInt = 0) (fun z51 h52 => ?_)
              exact En_ret (v := some (.int z51)) rfl rfl (retZ rfl rfl (by omega) (by omega)) ⟨h22, h23, z51, rfl, ⟨by omega, by omega, fun z => by have q1 := CT_t hC h1 z; have q2 := CT_fa hC h5 h9 z; have q := ISQc_n (b' := 0) (CT_fr hC h23 (by decide +kernel)) (Imp_m h30 z) (by simp only [LWl]; omega) (by omega) h40 h47 rfl (Or.inr ⟨rfl, by omega⟩); have q2 := ISQ_x q (Or.inl rfl); omega⟩⟩
      have := (by decide : (Int32.ofInt 0).toInt = 0)
      refine En_lv (lv := [(0, .ref 3), (1, .retAddr 29), (2, .int ((Int32.ofInt 0)))]) ⟨rfl, rfl, rfl, trivial⟩ ?_
      exact key28 (Int.toNat (z6.toInt) + 1) σ0 ((Int32.ofInt 0)) hσ0 hF0 h1 h5 h9 (by omega) (by omega) (by omega) (fun z => by have q1 := CT_t hC h1 z; have q2 := CT_fa hC h5 h9 z; exact ISQc_s (by decide) z (by omega) (by simp only [LWl]; omega))
    · refine En_Ps 1 (pc' := 25) (lv' := [(0, .ref 3), (1, .retAddr 29)]) (st' := [.int ((Int32.ofInt 0))]) rfl ?_
      refine En_top (by decide : (Int32.ofInt 0).toInt = 0) (fun z53 h54 => ?_)
      exact En_ret (v := some (.int z53)) rfl rfl (retZ rfl rfl (by omega) (by omega)) ⟨hσ0, hF0, z53, rfl, ⟨by omega, by omega, fun z => by have q1 := CT_t hC h1 z; have q2 := CT_fa hC h5 h9 z; have q := iW_0 (By := By) (Nb := Nb) (i := 14) (S := Sp) (by simp only [LWl]; omega); omega⟩⟩
/-- DoorSchool$Reader.stands(Ljava/lang/String;)Z -/
abbrev P_71s15x (σ0 : SG) (By : Int → Int) (Nb : Int) (Sp : PS) : PO := fun v σ => WT σ ∧ Fr [] σ0 σ ∧ ∃ ret : Int32, v = some (.int ret) ∧ -ret.toInt ≤ 0 ∧ ret.toInt - 1 ≤ 0 ∧ Imp (Sp.1 = 0) (ret.toInt = iW By Nb 15 Sp)
set_option maxRecDepth 10000 in
set_option maxHeartbeats 4000000 in
theorem c_71s15x {By : Int → Int} {Nb : Int} {Sp : PS} (σ0 : SG) (hσ0 : WT σ0) (hC : CT By Nb σ0 Sp) : En 4 90 none mr_71 (P_71s15x σ0 By Nb Sp) 0 [(0, .ref 3), (1, .retAddr 31)] [] σ0 := by
  have hF0 : Fr [] σ0 σ0 := Fr_rfl
  obtain ⟨z2, h1, h3, h4⟩ := WT_peekI hσ0 (by decide +kernel : TG 3 = 3) (by decide +kernel : FT 3 1 = (0, 0, 4)) (by decide +kernel)
  obtain ⟨z6, h5, h7, h8⟩ := WT_peekI hσ0 (by decide +kernel : TG 3 = 3) (by decide +kernel : FT 3 3 = (0, 0, 1600)) (by decide +kernel)
  obtain ⟨z10, h9, h11, h12⟩ := WT_peekI hσ0 (by decide +kernel : TG 3 = 3) (by decide +kernel : FT 3 2 = (0, 0, 1600)) (by decide +kernel)
  have h13 : Imp (Sp.1 = 0) (tK By Nb Sp.2.2.1 = z2.toInt) := CT_t hC h1
  refine En_Ps 1 (pc' := 1) (lv' := [(0, .ref 3), (1, .retAddr 31)]) (st' := [.ref 3]) rfl ?_
  refine En_getK (j := 1) h1 rfl rfl rfl (by decide +kernel : TG 3 = 3) (by decide +kernel) ?_
  refine En_Ps 1 (pc' := 5) (lv' := [(0, .ref 3), (1, .retAddr 31)]) (st' := [.int ((Int32.ofInt 1)), .int z2]) rfl ?_
  refine En_icNe _ rfl (by decide : (Int32.ofInt 1).toInt = 1) rfl (fun h14 => ?_) (fun h14 => ?_)
  · refine En_Ps 1 (pc' := 25) (lv' := [(0, .ref 3), (1, .retAddr 31)]) (st' := [.int ((Int32.ofInt 0))]) rfl ?_
    refine En_top (by decide : (Int32.ofInt 0).toInt = 0) (fun z15 h16 => ?_)
    exact En_ret (v := some (.int z15)) rfl rfl (retZ rfl rfl (by omega) (by omega)) ⟨hσ0, hF0, z15, rfl, ⟨by omega, by omega, fun z => by have q1 := CT_t hC h1 z; have q2 := CT_fa hC h5 h9 z; have q := iW_0 (By := By) (Nb := Nb) (i := 15) (S := Sp) (by simp only [LWl]; omega); omega⟩⟩
  · refine En_Ps 1 (pc' := 9) (lv' := [(0, .ref 3), (1, .retAddr 31)]) (st' := [.ref 3]) rfl ?_
    refine En_getK (j := 3) h5 rfl rfl rfl (by decide +kernel : TG 3 = 3) (by decide +kernel) ?_
    refine En_Ps 1 (pc' := 13) (lv' := [(0, .ref 3), (1, .retAddr 31)]) (st' := [.ref 3, .int z6]) rfl ?_
    refine En_getK (j := 2) h9 rfl rfl rfl (by decide +kernel : TG 3 = 3) (by decide +kernel) ?_
    refine En_Ps 1 (pc' := 17) (lv' := [(0, .ref 3), (1, .retAddr 31)]) (st' := [.int ((z6 - z10))]) rfl ?_
    refine En_top (subI rfl rfl (by omega) (by omega)) (fun z17 h18 => ?_)
    refine En_Ps 1 (pc' := 18) (lv' := [(0, .ref 3), (1, .retAddr 31)]) (st' := [.retAddr 31, .int z17]) rfl ?_
    refine En_slen 15 5 rfl rfl (by decide) rfl ?_
    refine En_icEq _ rfl (by decide : (Int32.ofNat 5).toInt = 5) rfl (fun h19 => ?_) (fun h19 => ?_)
    · refine En_Ps 2 (pc' := 28) (lv' := [(2, .int ((Int32.ofInt 0))), (0, .ref 3), (1, .retAddr 31)]) (st' := []) rfl ?_
      have key28 : ∀ (n28 : Nat) (σ21 : SG) (y20 : Int32), WT σ21 → Fr [] σ0 σ21 → (σ21 3)[1]? = some (.int z2) → (σ21 3)[3]? = some (.int z6) → (σ21 3)[2]? = some (.int z10) → 0 ≤ y20.toInt → y20.toInt ≤ 5 → z6.toInt - y20.toInt < (n28 : Int) → Imp (Sp.1 = 0) (ISQ By Nb 15 Sp 1 y20.toInt) → En 4 90 none mr_71 (P_71s15x σ0 By Nb Sp) 28 [(0, .ref 3), (1, .retAddr 31), (2, .int y20)] [] σ21 := by
        intro n28
        induction n28 with
        | zero =>
          intro σ21 y20 h22 h23 h24 h25 h26 h27 h28 h29 h30
          exfalso; omega
        | succ n28 ih28 =>
          intro σ21 y20 h22 h23 h24 h25 h26 h27 h28 h29 h30
          refine En_Ps 2 (pc' := 30) (lv' := [(0, .ref 3), (1, .retAddr 31), (2, .int y20)]) (st' := [.retAddr 31, .int y20]) rfl ?_
          refine En_slen 15 5 rfl rfl (by decide) rfl ?_
          refine En_icGe _ rfl (by decide : (Int32.ofNat 5).toInt = 5) rfl (fun h31 => ?_) (fun h31 => ?_)
          · refine En_Ps 1 (pc' := 67) (lv' := [(0, .ref 3), (1, .retAddr 31), (2, .int y20)]) (st' := [.int ((Int32.ofInt 1))]) rfl ?_
            refine En_top (by decide : (Int32.ofInt 1).toInt = 1) (fun z32 h33 => ?_)
            exact En_ret (v := some (.int z32)) rfl rfl (retZ rfl rfl (by omega) (by omega)) ⟨h22, h23, z32, rfl, ⟨by omega, by omega, fun z => by have q := ISQ_x (Imp_m h30 z) (Or.inr (by simp only [LWl]; omega)); omega⟩⟩
          · refine En_Ps 1 (pc' := 37) (lv' := [(0, .ref 3), (1, .retAddr 31), (2, .int y20)]) (st' := [.ref 3]) rfl ?_
            refine En_getU (j := 0) (u := 1) (g' := 1) (q := 0) rfl rfl rfl (by decide +kernel : TG 3 = 3) (by decide +kernel) h22 (by decide +kernel) (by decide +kernel) (fun h34 => ?_)
            refine En_getU (j := 0) (u := 2) (g' := 2) (q := 0) rfl rfl rfl (by decide +kernel : TG 1 = 1) (by decide +kernel) h22 (by decide +kernel) (by decide +kernel) (fun h36 => ?_)
            refine En_Ps 1 (pc' := 44) (lv' := [(0, .ref 3), (1, .retAddr 31), (2, .int y20)]) (st' := [.ref 3, .ref 2]) rfl ?_
            refine En_getK (j := 2) h26 rfl rfl rfl (by decide +kernel : TG 3 = 3) (by decide +kernel) ?_
            refine En_Ps 2 (pc' := 49) (lv' := [(0, .ref 3), (1, .retAddr 31), (2, .int y20)]) (st' := [.int ((z10 + y20)), .ref 2]) rfl ?_
            refine En_top (addI rfl rfl (by omega) (by omega)) (fun z38 h39 => ?_)
            refine En_bald (l := (-128)) (u := 127) rfl rfl (by decide +kernel : TG 2 = 2) (by decide +kernel) h22 (by omega) (lnI (by decide +kernel : LN _ = 1600) (by omega)) (FTsgl (by decide +kernel)) (fun z41 h40 h42 h43 => ?_)
            refine En_Ps 2 (pc' := 52) (lv' := [(0, .ref 3), (1, .retAddr 31), (2, .int y20)]) (st' := [.int y20, .retAddr 31, .int z41]) rfl ?_
            refine En_scharX 15 5 rfl rfl rfl (by decide) (by omega) (by omega) rfl (fun z44 h45 h46 h47 => ?_)
            refine En_icEq _ rfl rfl rfl (fun h48 => ?_) (fun h48 => ?_)
            · refine En_Ps 1 (pc' := 63) (lv' := [(2, .int ((y20 + Int32.ofInt 1))), (0, .ref 3), (1, .retAddr 31)]) (st' := []) rfl ?_
              refine En_lv1 (addI rfl (by decide : (Int32.ofInt 1).toInt = 1) (by omega) (by omega)) (fun z49 h50 => ?_)
              refine En_Ps 1 (pc' := 28) (lv' := [(2, .int z49), (0, .ref 3), (1, .retAddr 31)]) (st' := []) rfl ?_
              refine En_lv (lv := [(0, .ref 3), (1, .retAddr 31), (2, .int z49)]) ⟨rfl, rfl, rfl, trivial⟩ ?_
              exact ih28 σ21 z49 h22 h23 h24 h25 h26 (by omega) (by omega) (by omega) (fun z => by have q1 := CT_t hC h1 z; have q2 := CT_fa hC h5 h9 z; exact ISQc_n (CT_fr hC h23 (by decide +kernel)) (Imp_m h30 z) (by simp only [LWl]; omega) (by omega) h40 h47 (by omega) (by omega))
            · refine En_Ps 1 (pc' := 59) (lv' := [(0, .ref 3), (1, .retAddr 31), (2, .int y20)]) (st' := [.int ((Int32.ofInt 0))]) rfl ?_
              refine En_top (by decide : (Int32.ofInt 0).toInt = 0) (fun z51 h52 => ?_)
              exact En_ret (v := some (.int z51)) rfl rfl (retZ rfl rfl (by omega) (by omega)) ⟨h22, h23, z51, rfl, ⟨by omega, by omega, fun z => by have q1 := CT_t hC h1 z; have q2 := CT_fa hC h5 h9 z; have q := ISQc_n (b' := 0) (CT_fr hC h23 (by decide +kernel)) (Imp_m h30 z) (by simp only [LWl]; omega) (by omega) h40 h47 rfl (Or.inr ⟨rfl, by omega⟩); have q2 := ISQ_x q (Or.inl rfl); omega⟩⟩
      have := (by decide : (Int32.ofInt 0).toInt = 0)
      refine En_lv (lv := [(0, .ref 3), (1, .retAddr 31), (2, .int ((Int32.ofInt 0)))]) ⟨rfl, rfl, rfl, trivial⟩ ?_
      exact key28 (Int.toNat (z6.toInt) + 1) σ0 ((Int32.ofInt 0)) hσ0 hF0 h1 h5 h9 (by omega) (by omega) (by omega) (fun z => by have q1 := CT_t hC h1 z; have q2 := CT_fa hC h5 h9 z; exact ISQc_s (by decide) z (by omega) (by simp only [LWl]; omega))
    · refine En_Ps 1 (pc' := 25) (lv' := [(0, .ref 3), (1, .retAddr 31)]) (st' := [.int ((Int32.ofInt 0))]) rfl ?_
      refine En_top (by decide : (Int32.ofInt 0).toInt = 0) (fun z53 h54 => ?_)
      exact En_ret (v := some (.int z53)) rfl rfl (retZ rfl rfl (by omega) (by omega)) ⟨hσ0, hF0, z53, rfl, ⟨by omega, by omega, fun z => by have q1 := CT_t hC h1 z; have q2 := CT_fa hC h5 h9 z; have q := iW_0 (By := By) (Nb := Nb) (i := 15) (S := Sp) (by simp only [LWl]; omega); omega⟩⟩
/-- DoorSchool$Reader.stands(Ljava/lang/String;)Z -/
abbrev P_71s16x (σ0 : SG) (By : Int → Int) (Nb : Int) (Sp : PS) : PO := fun v σ => WT σ ∧ Fr [] σ0 σ ∧ ∃ ret : Int32, v = some (.int ret) ∧ -ret.toInt ≤ 0 ∧ ret.toInt - 1 ≤ 0 ∧ Imp (Sp.1 = 0) (ret.toInt = iW By Nb 16 Sp)
set_option maxRecDepth 10000 in
set_option maxHeartbeats 4000000 in
theorem c_71s16x {By : Int → Int} {Nb : Int} {Sp : PS} (σ0 : SG) (hσ0 : WT σ0) (hC : CT By Nb σ0 Sp) : En 4 90 none mr_71 (P_71s16x σ0 By Nb Sp) 0 [(0, .ref 3), (1, .retAddr 33)] [] σ0 := by
  have hF0 : Fr [] σ0 σ0 := Fr_rfl
  obtain ⟨z2, h1, h3, h4⟩ := WT_peekI hσ0 (by decide +kernel : TG 3 = 3) (by decide +kernel : FT 3 1 = (0, 0, 4)) (by decide +kernel)
  obtain ⟨z6, h5, h7, h8⟩ := WT_peekI hσ0 (by decide +kernel : TG 3 = 3) (by decide +kernel : FT 3 3 = (0, 0, 1600)) (by decide +kernel)
  obtain ⟨z10, h9, h11, h12⟩ := WT_peekI hσ0 (by decide +kernel : TG 3 = 3) (by decide +kernel : FT 3 2 = (0, 0, 1600)) (by decide +kernel)
  have h13 : Imp (Sp.1 = 0) (tK By Nb Sp.2.2.1 = z2.toInt) := CT_t hC h1
  refine En_Ps 1 (pc' := 1) (lv' := [(0, .ref 3), (1, .retAddr 33)]) (st' := [.ref 3]) rfl ?_
  refine En_getK (j := 1) h1 rfl rfl rfl (by decide +kernel : TG 3 = 3) (by decide +kernel) ?_
  refine En_Ps 1 (pc' := 5) (lv' := [(0, .ref 3), (1, .retAddr 33)]) (st' := [.int ((Int32.ofInt 1)), .int z2]) rfl ?_
  refine En_icNe _ rfl (by decide : (Int32.ofInt 1).toInt = 1) rfl (fun h14 => ?_) (fun h14 => ?_)
  · refine En_Ps 1 (pc' := 25) (lv' := [(0, .ref 3), (1, .retAddr 33)]) (st' := [.int ((Int32.ofInt 0))]) rfl ?_
    refine En_top (by decide : (Int32.ofInt 0).toInt = 0) (fun z15 h16 => ?_)
    exact En_ret (v := some (.int z15)) rfl rfl (retZ rfl rfl (by omega) (by omega)) ⟨hσ0, hF0, z15, rfl, ⟨by omega, by omega, fun z => by have q1 := CT_t hC h1 z; have q2 := CT_fa hC h5 h9 z; have q := iW_0 (By := By) (Nb := Nb) (i := 16) (S := Sp) (by simp only [LWl]; omega); omega⟩⟩
  · refine En_Ps 1 (pc' := 9) (lv' := [(0, .ref 3), (1, .retAddr 33)]) (st' := [.ref 3]) rfl ?_
    refine En_getK (j := 3) h5 rfl rfl rfl (by decide +kernel : TG 3 = 3) (by decide +kernel) ?_
    refine En_Ps 1 (pc' := 13) (lv' := [(0, .ref 3), (1, .retAddr 33)]) (st' := [.ref 3, .int z6]) rfl ?_
    refine En_getK (j := 2) h9 rfl rfl rfl (by decide +kernel : TG 3 = 3) (by decide +kernel) ?_
    refine En_Ps 1 (pc' := 17) (lv' := [(0, .ref 3), (1, .retAddr 33)]) (st' := [.int ((z6 - z10))]) rfl ?_
    refine En_top (subI rfl rfl (by omega) (by omega)) (fun z17 h18 => ?_)
    refine En_Ps 1 (pc' := 18) (lv' := [(0, .ref 3), (1, .retAddr 33)]) (st' := [.retAddr 33, .int z17]) rfl ?_
    refine En_slen 16 8 rfl rfl (by decide) rfl ?_
    refine En_icEq _ rfl (by decide : (Int32.ofNat 8).toInt = 8) rfl (fun h19 => ?_) (fun h19 => ?_)
    · refine En_Ps 2 (pc' := 28) (lv' := [(2, .int ((Int32.ofInt 0))), (0, .ref 3), (1, .retAddr 33)]) (st' := []) rfl ?_
      have key28 : ∀ (n28 : Nat) (σ21 : SG) (y20 : Int32), WT σ21 → Fr [] σ0 σ21 → (σ21 3)[1]? = some (.int z2) → (σ21 3)[3]? = some (.int z6) → (σ21 3)[2]? = some (.int z10) → 0 ≤ y20.toInt → y20.toInt ≤ 8 → z6.toInt - y20.toInt < (n28 : Int) → Imp (Sp.1 = 0) (ISQ By Nb 16 Sp 1 y20.toInt) → En 4 90 none mr_71 (P_71s16x σ0 By Nb Sp) 28 [(0, .ref 3), (1, .retAddr 33), (2, .int y20)] [] σ21 := by
        intro n28
        induction n28 with
        | zero =>
          intro σ21 y20 h22 h23 h24 h25 h26 h27 h28 h29 h30
          exfalso; omega
        | succ n28 ih28 =>
          intro σ21 y20 h22 h23 h24 h25 h26 h27 h28 h29 h30
          refine En_Ps 2 (pc' := 30) (lv' := [(0, .ref 3), (1, .retAddr 33), (2, .int y20)]) (st' := [.retAddr 33, .int y20]) rfl ?_
          refine En_slen 16 8 rfl rfl (by decide) rfl ?_
          refine En_icGe _ rfl (by decide : (Int32.ofNat 8).toInt = 8) rfl (fun h31 => ?_) (fun h31 => ?_)
          · refine En_Ps 1 (pc' := 67) (lv' := [(0, .ref 3), (1, .retAddr 33), (2, .int y20)]) (st' := [.int ((Int32.ofInt 1))]) rfl ?_
            refine En_top (by decide : (Int32.ofInt 1).toInt = 1) (fun z32 h33 => ?_)
            exact En_ret (v := some (.int z32)) rfl rfl (retZ rfl rfl (by omega) (by omega)) ⟨h22, h23, z32, rfl, ⟨by omega, by omega, fun z => by have q := ISQ_x (Imp_m h30 z) (Or.inr (by simp only [LWl]; omega)); omega⟩⟩
          · refine En_Ps 1 (pc' := 37) (lv' := [(0, .ref 3), (1, .retAddr 33), (2, .int y20)]) (st' := [.ref 3]) rfl ?_
            refine En_getU (j := 0) (u := 1) (g' := 1) (q := 0) rfl rfl rfl (by decide +kernel : TG 3 = 3) (by decide +kernel) h22 (by decide +kernel) (by decide +kernel) (fun h34 => ?_)
            refine En_getU (j := 0) (u := 2) (g' := 2) (q := 0) rfl rfl rfl (by decide +kernel : TG 1 = 1) (by decide +kernel) h22 (by decide +kernel) (by decide +kernel) (fun h36 => ?_)
            refine En_Ps 1 (pc' := 44) (lv' := [(0, .ref 3), (1, .retAddr 33), (2, .int y20)]) (st' := [.ref 3, .ref 2]) rfl ?_
            refine En_getK (j := 2) h26 rfl rfl rfl (by decide +kernel : TG 3 = 3) (by decide +kernel) ?_
            refine En_Ps 2 (pc' := 49) (lv' := [(0, .ref 3), (1, .retAddr 33), (2, .int y20)]) (st' := [.int ((z10 + y20)), .ref 2]) rfl ?_
            refine En_top (addI rfl rfl (by omega) (by omega)) (fun z38 h39 => ?_)
            refine En_bald (l := (-128)) (u := 127) rfl rfl (by decide +kernel : TG 2 = 2) (by decide +kernel) h22 (by omega) (lnI (by decide +kernel : LN _ = 1600) (by omega)) (FTsgl (by decide +kernel)) (fun z41 h40 h42 h43 => ?_)
            refine En_Ps 2 (pc' := 52) (lv' := [(0, .ref 3), (1, .retAddr 33), (2, .int y20)]) (st' := [.int y20, .retAddr 33, .int z41]) rfl ?_
            refine En_scharX 16 8 rfl rfl rfl (by decide) (by omega) (by omega) rfl (fun z44 h45 h46 h47 => ?_)
            refine En_icEq _ rfl rfl rfl (fun h48 => ?_) (fun h48 => ?_)
            · refine En_Ps 1 (pc' := 63) (lv' := [(2, .int ((y20 + Int32.ofInt 1))), (0, .ref 3), (1, .retAddr 33)]) (st' := []) rfl ?_
              refine En_lv1 (addI rfl (by decide : (Int32.ofInt 1).toInt = 1) (by omega) (by omega)) (fun z49 h50 => ?_)
              refine En_Ps 1 (pc' := 28) (lv' := [(2, .int z49), (0, .ref 3), (1, .retAddr 33)]) (st' := []) rfl ?_
              refine En_lv (lv := [(0, .ref 3), (1, .retAddr 33), (2, .int z49)]) ⟨rfl, rfl, rfl, trivial⟩ ?_
              exact ih28 σ21 z49 h22 h23 h24 h25 h26 (by omega) (by omega) (by omega) (fun z => by have q1 := CT_t hC h1 z; have q2 := CT_fa hC h5 h9 z; exact ISQc_n (CT_fr hC h23 (by decide +kernel)) (Imp_m h30 z) (by simp only [LWl]; omega) (by omega) h40 h47 (by omega) (by omega))
            · refine En_Ps 1 (pc' := 59) (lv' := [(0, .ref 3), (1, .retAddr 33), (2, .int y20)]) (st' := [.int ((Int32.ofInt 0))]) rfl ?_
              refine En_top (by decide : (Int32.ofInt 0).toInt = 0) (fun z51 h52 => ?_)
              exact En_ret (v := some (.int z51)) rfl rfl (retZ rfl rfl (by omega) (by omega)) ⟨h22, h23, z51, rfl, ⟨by omega, by omega, fun z => by have q1 := CT_t hC h1 z; have q2 := CT_fa hC h5 h9 z; have q := ISQc_n (b' := 0) (CT_fr hC h23 (by decide +kernel)) (Imp_m h30 z) (by simp only [LWl]; omega) (by omega) h40 h47 rfl (Or.inr ⟨rfl, by omega⟩); have q2 := ISQ_x q (Or.inl rfl); omega⟩⟩
      have := (by decide : (Int32.ofInt 0).toInt = 0)
      refine En_lv (lv := [(0, .ref 3), (1, .retAddr 33), (2, .int ((Int32.ofInt 0)))]) ⟨rfl, rfl, rfl, trivial⟩ ?_
      exact key28 (Int.toNat (z6.toInt) + 1) σ0 ((Int32.ofInt 0)) hσ0 hF0 h1 h5 h9 (by omega) (by omega) (by omega) (fun z => by have q1 := CT_t hC h1 z; have q2 := CT_fa hC h5 h9 z; exact ISQc_s (by decide) z (by omega) (by simp only [LWl]; omega))
    · refine En_Ps 1 (pc' := 25) (lv' := [(0, .ref 3), (1, .retAddr 33)]) (st' := [.int ((Int32.ofInt 0))]) rfl ?_
      refine En_top (by decide : (Int32.ofInt 0).toInt = 0) (fun z53 h54 => ?_)
      exact En_ret (v := some (.int z53)) rfl rfl (retZ rfl rfl (by omega) (by omega)) ⟨hσ0, hF0, z53, rfl, ⟨by omega, by omega, fun z => by have q1 := CT_t hC h1 z; have q2 := CT_fa hC h5 h9 z; have q := iW_0 (By := By) (Nb := Nb) (i := 16) (S := Sp) (by simp only [LWl]; omega); omega⟩⟩
/-- DoorSchool$Reader.stands(Ljava/lang/String;)Z -/
abbrev P_71s17x (σ0 : SG) (By : Int → Int) (Nb : Int) (Sp : PS) : PO := fun v σ => WT σ ∧ Fr [] σ0 σ ∧ ∃ ret : Int32, v = some (.int ret) ∧ -ret.toInt ≤ 0 ∧ ret.toInt - 1 ≤ 0 ∧ Imp (Sp.1 = 0) (ret.toInt = iW By Nb 17 Sp)
set_option maxRecDepth 10000 in
set_option maxHeartbeats 4000000 in
theorem c_71s17x {By : Int → Int} {Nb : Int} {Sp : PS} (σ0 : SG) (hσ0 : WT σ0) (hC : CT By Nb σ0 Sp) : En 4 90 none mr_71 (P_71s17x σ0 By Nb Sp) 0 [(0, .ref 3), (1, .retAddr 35)] [] σ0 := by
  have hF0 : Fr [] σ0 σ0 := Fr_rfl
  obtain ⟨z2, h1, h3, h4⟩ := WT_peekI hσ0 (by decide +kernel : TG 3 = 3) (by decide +kernel : FT 3 1 = (0, 0, 4)) (by decide +kernel)
  obtain ⟨z6, h5, h7, h8⟩ := WT_peekI hσ0 (by decide +kernel : TG 3 = 3) (by decide +kernel : FT 3 3 = (0, 0, 1600)) (by decide +kernel)
  obtain ⟨z10, h9, h11, h12⟩ := WT_peekI hσ0 (by decide +kernel : TG 3 = 3) (by decide +kernel : FT 3 2 = (0, 0, 1600)) (by decide +kernel)
  have h13 : Imp (Sp.1 = 0) (tK By Nb Sp.2.2.1 = z2.toInt) := CT_t hC h1
  refine En_Ps 1 (pc' := 1) (lv' := [(0, .ref 3), (1, .retAddr 35)]) (st' := [.ref 3]) rfl ?_
  refine En_getK (j := 1) h1 rfl rfl rfl (by decide +kernel : TG 3 = 3) (by decide +kernel) ?_
  refine En_Ps 1 (pc' := 5) (lv' := [(0, .ref 3), (1, .retAddr 35)]) (st' := [.int ((Int32.ofInt 1)), .int z2]) rfl ?_
  refine En_icNe _ rfl (by decide : (Int32.ofInt 1).toInt = 1) rfl (fun h14 => ?_) (fun h14 => ?_)
  · refine En_Ps 1 (pc' := 25) (lv' := [(0, .ref 3), (1, .retAddr 35)]) (st' := [.int ((Int32.ofInt 0))]) rfl ?_
    refine En_top (by decide : (Int32.ofInt 0).toInt = 0) (fun z15 h16 => ?_)
    exact En_ret (v := some (.int z15)) rfl rfl (retZ rfl rfl (by omega) (by omega)) ⟨hσ0, hF0, z15, rfl, ⟨by omega, by omega, fun z => by have q1 := CT_t hC h1 z; have q2 := CT_fa hC h5 h9 z; have q := iW_0 (By := By) (Nb := Nb) (i := 17) (S := Sp) (by simp only [LWl]; omega); omega⟩⟩
  · refine En_Ps 1 (pc' := 9) (lv' := [(0, .ref 3), (1, .retAddr 35)]) (st' := [.ref 3]) rfl ?_
    refine En_getK (j := 3) h5 rfl rfl rfl (by decide +kernel : TG 3 = 3) (by decide +kernel) ?_
    refine En_Ps 1 (pc' := 13) (lv' := [(0, .ref 3), (1, .retAddr 35)]) (st' := [.ref 3, .int z6]) rfl ?_
    refine En_getK (j := 2) h9 rfl rfl rfl (by decide +kernel : TG 3 = 3) (by decide +kernel) ?_
    refine En_Ps 1 (pc' := 17) (lv' := [(0, .ref 3), (1, .retAddr 35)]) (st' := [.int ((z6 - z10))]) rfl ?_
    refine En_top (subI rfl rfl (by omega) (by omega)) (fun z17 h18 => ?_)
    refine En_Ps 1 (pc' := 18) (lv' := [(0, .ref 3), (1, .retAddr 35)]) (st' := [.retAddr 35, .int z17]) rfl ?_
    refine En_slen 17 4 rfl rfl (by decide) rfl ?_
    refine En_icEq _ rfl (by decide : (Int32.ofNat 4).toInt = 4) rfl (fun h19 => ?_) (fun h19 => ?_)
    · refine En_Ps 2 (pc' := 28) (lv' := [(2, .int ((Int32.ofInt 0))), (0, .ref 3), (1, .retAddr 35)]) (st' := []) rfl ?_
      have key28 : ∀ (n28 : Nat) (σ21 : SG) (y20 : Int32), WT σ21 → Fr [] σ0 σ21 → (σ21 3)[1]? = some (.int z2) → (σ21 3)[3]? = some (.int z6) → (σ21 3)[2]? = some (.int z10) → 0 ≤ y20.toInt → y20.toInt ≤ 4 → z6.toInt - y20.toInt < (n28 : Int) → Imp (Sp.1 = 0) (ISQ By Nb 17 Sp 1 y20.toInt) → En 4 90 none mr_71 (P_71s17x σ0 By Nb Sp) 28 [(0, .ref 3), (1, .retAddr 35), (2, .int y20)] [] σ21 := by
        intro n28
        induction n28 with
        | zero =>
          intro σ21 y20 h22 h23 h24 h25 h26 h27 h28 h29 h30
          exfalso; omega
        | succ n28 ih28 =>
          intro σ21 y20 h22 h23 h24 h25 h26 h27 h28 h29 h30
          refine En_Ps 2 (pc' := 30) (lv' := [(0, .ref 3), (1, .retAddr 35), (2, .int y20)]) (st' := [.retAddr 35, .int y20]) rfl ?_
          refine En_slen 17 4 rfl rfl (by decide) rfl ?_
          refine En_icGe _ rfl (by decide : (Int32.ofNat 4).toInt = 4) rfl (fun h31 => ?_) (fun h31 => ?_)
          · refine En_Ps 1 (pc' := 67) (lv' := [(0, .ref 3), (1, .retAddr 35), (2, .int y20)]) (st' := [.int ((Int32.ofInt 1))]) rfl ?_
            refine En_top (by decide : (Int32.ofInt 1).toInt = 1) (fun z32 h33 => ?_)
            exact En_ret (v := some (.int z32)) rfl rfl (retZ rfl rfl (by omega) (by omega)) ⟨h22, h23, z32, rfl, ⟨by omega, by omega, fun z => by have q := ISQ_x (Imp_m h30 z) (Or.inr (by simp only [LWl]; omega)); omega⟩⟩
          · refine En_Ps 1 (pc' := 37) (lv' := [(0, .ref 3), (1, .retAddr 35), (2, .int y20)]) (st' := [.ref 3]) rfl ?_
            refine En_getU (j := 0) (u := 1) (g' := 1) (q := 0) rfl rfl rfl (by decide +kernel : TG 3 = 3) (by decide +kernel) h22 (by decide +kernel) (by decide +kernel) (fun h34 => ?_)
            refine En_getU (j := 0) (u := 2) (g' := 2) (q := 0) rfl rfl rfl (by decide +kernel : TG 1 = 1) (by decide +kernel) h22 (by decide +kernel) (by decide +kernel) (fun h36 => ?_)
            refine En_Ps 1 (pc' := 44) (lv' := [(0, .ref 3), (1, .retAddr 35), (2, .int y20)]) (st' := [.ref 3, .ref 2]) rfl ?_
            refine En_getK (j := 2) h26 rfl rfl rfl (by decide +kernel : TG 3 = 3) (by decide +kernel) ?_
            refine En_Ps 2 (pc' := 49) (lv' := [(0, .ref 3), (1, .retAddr 35), (2, .int y20)]) (st' := [.int ((z10 + y20)), .ref 2]) rfl ?_
            refine En_top (addI rfl rfl (by omega) (by omega)) (fun z38 h39 => ?_)
            refine En_bald (l := (-128)) (u := 127) rfl rfl (by decide +kernel : TG 2 = 2) (by decide +kernel) h22 (by omega) (lnI (by decide +kernel : LN _ = 1600) (by omega)) (FTsgl (by decide +kernel)) (fun z41 h40 h42 h43 => ?_)
            refine En_Ps 2 (pc' := 52) (lv' := [(0, .ref 3), (1, .retAddr 35), (2, .int y20)]) (st' := [.int y20, .retAddr 35, .int z41]) rfl ?_
            refine En_scharX 17 4 rfl rfl rfl (by decide) (by omega) (by omega) rfl (fun z44 h45 h46 h47 => ?_)
            refine En_icEq _ rfl rfl rfl (fun h48 => ?_) (fun h48 => ?_)
            · refine En_Ps 1 (pc' := 63) (lv' := [(2, .int ((y20 + Int32.ofInt 1))), (0, .ref 3), (1, .retAddr 35)]) (st' := []) rfl ?_
              refine En_lv1 (addI rfl (by decide : (Int32.ofInt 1).toInt = 1) (by omega) (by omega)) (fun z49 h50 => ?_)
              refine En_Ps 1 (pc' := 28) (lv' := [(2, .int z49), (0, .ref 3), (1, .retAddr 35)]) (st' := []) rfl ?_
              refine En_lv (lv := [(0, .ref 3), (1, .retAddr 35), (2, .int z49)]) ⟨rfl, rfl, rfl, trivial⟩ ?_
              exact ih28 σ21 z49 h22 h23 h24 h25 h26 (by omega) (by omega) (by omega) (fun z => by have q1 := CT_t hC h1 z; have q2 := CT_fa hC h5 h9 z; exact ISQc_n (CT_fr hC h23 (by decide +kernel)) (Imp_m h30 z) (by simp only [LWl]; omega) (by omega) h40 h47 (by omega) (by omega))
            · refine En_Ps 1 (pc' := 59) (lv' := [(0, .ref 3), (1, .retAddr 35), (2, .int y20)]) (st' := [.int ((Int32.ofInt 0))]) rfl ?_
              refine En_top (by decide : (Int32.ofInt 0).toInt = 0) (fun z51 h52 => ?_)
              exact En_ret (v := some (.int z51)) rfl rfl (retZ rfl rfl (by omega) (by omega)) ⟨h22, h23, z51, rfl, ⟨by omega, by omega, fun z => by have q1 := CT_t hC h1 z; have q2 := CT_fa hC h5 h9 z; have q := ISQc_n (b' := 0) (CT_fr hC h23 (by decide +kernel)) (Imp_m h30 z) (by simp only [LWl]; omega) (by omega) h40 h47 rfl (Or.inr ⟨rfl, by omega⟩); have q2 := ISQ_x q (Or.inl rfl); omega⟩⟩
      have := (by decide : (Int32.ofInt 0).toInt = 0)
      refine En_lv (lv := [(0, .ref 3), (1, .retAddr 35), (2, .int ((Int32.ofInt 0)))]) ⟨rfl, rfl, rfl, trivial⟩ ?_
      exact key28 (Int.toNat (z6.toInt) + 1) σ0 ((Int32.ofInt 0)) hσ0 hF0 h1 h5 h9 (by omega) (by omega) (by omega) (fun z => by have q1 := CT_t hC h1 z; have q2 := CT_fa hC h5 h9 z; exact ISQc_s (by decide) z (by omega) (by simp only [LWl]; omega))
    · refine En_Ps 1 (pc' := 25) (lv' := [(0, .ref 3), (1, .retAddr 35)]) (st' := [.int ((Int32.ofInt 0))]) rfl ?_
      refine En_top (by decide : (Int32.ofInt 0).toInt = 0) (fun z53 h54 => ?_)
      exact En_ret (v := some (.int z53)) rfl rfl (retZ rfl rfl (by omega) (by omega)) ⟨hσ0, hF0, z53, rfl, ⟨by omega, by omega, fun z => by have q1 := CT_t hC h1 z; have q2 := CT_fa hC h5 h9 z; have q := iW_0 (By := By) (Nb := Nb) (i := 17) (S := Sp) (by simp only [LWl]; omega); omega⟩⟩
/-- DoorSchool$Reader.takeNumber(II)I -/
abbrev P_73x (σ0 : SG) (By : Int → Int) (Nb : Int) (Sp : PS) (a : Int32) (b : Int32) (f : Int32) : PO := fun v σ => WT σ ∧ Fr [(3, 1), (3, 2), (3, 3), (3, 4), (3, 5), (3, 6)] σ0 σ ∧ ∃ f1 : Int32, (σ 3)[5]? = some (.int f1) ∧ ∃ ret : Int32, v = some (.int ret) ∧ ret.toInt - 1000000 ≤ 0 ∧ -f1.toInt ≤ 0 ∧ f1.toInt - 3 ≤ 0 ∧ -f1.toInt + f.toInt ≤ 0 ∧ f1.toInt - f.toInt - 3 ≤ 0 ∧ f.toInt - f1.toInt ≤ 0 ∧ Imp (f1.toInt ≤ 0) (a.toInt - ret.toInt ≤ 0 ∧ ret.toInt - b.toInt ≤ 0) ∧ Imp (-f1.toInt + 1 ≤ 0) (ret.toInt + 1 ≤ 0 ∧ -ret.toInt - 1 ≤ 0) ∧ Imp (-b.toInt - 1 ≤ 0) (ret.toInt - b.toInt ≤ 0) ∧ Imp (-a.toInt - 1 ≤ 0) (-ret.toInt - 1 ≤ 0) ∧ (CT By Nb σ (tN By Nb a.toInt b.toInt Sp) ∧ Imp ((tN By Nb a.toInt b.toInt Sp).1 = 0) (ret.toInt = tV By Nb Sp.2.2.1))
set_option maxRecDepth 10000 in
set_option maxHeartbeats 4000000 in
theorem c_73x {By : Int → Int} {Nb : Int} {Sp : PS} (σ0 : SG) (hσ0 : WT σ0) (a : Int32) (b : Int32) (f : Int32) (h_f : (σ0 3)[5]? = some (.int f)) (hC : CT By Nb σ0 Sp) : En 2 43 none mr_73 (P_73x σ0 By Nb Sp a b f) 0 [(0, .ref 3), (1, .int a), (2, .int b)] [] σ0 := by
  obtain ⟨hl_f, hu_f⟩ := WT_int hσ0 (g := 3) (by decide +kernel) (by decide +kernel) (l := 0) (u := 3) (by decide +kernel) h_f
  have hF0 : Fr [(3, 1), (3, 2), (3, 3), (3, 4), (3, 5), (3, 6)] σ0 σ0 := Fr_rfl
  have h1 := CT_k hC h_f
  refine En_Ps 3 (pc' := 3) (lv' := [(0, .ref 3), (1, .int a), (2, .int b)]) (st' := [.int b, .int a, .ref 3]) rfl ?_
  refine En_callV rfl rfl rfl rfl rfl rfl rfl rfl (by decide +kernel : TG 3 = 3) (by decide +kernel) rfl (c_58x σ0 hσ0 a b f h_f hC) (by decide) (by decide) (fun v3 σ4 h2 => ?_)
  obtain ⟨h5, h6, z8, h9, z10, rfl, h7⟩ := h2
  have h11 := h7.2.2.2.2.2.2.2.2.2.2
  have h12 := Fr_trans hF0 h6 (by decide +kernel)
  have h13 : nH By Nb a.toInt b.toInt Sp = nH By Nb (a.toInt) (b.toInt) Sp := nH_cg2 (fun zz => by omega) (fun zz => by omega)
  obtain ⟨S14, h15⟩ : ∃ q : PS, q = nH By Nb (a.toInt) (b.toInt) Sp := ⟨_, rfl⟩
  have h16 : CT By Nb σ4 S14 := by rw [h15]; exact (CT_eq h11.1 h13)
  have h17 := CT_k h16 h9
  have h18 : Imp (S14.1 = 0) (z10.toInt = tV By Nb Sp.2.2.1) := fun z => Imp_m h11.2 (by rw [h13, ← h15]; exact z)
  have h19 : Imp (S14.1 = 0) (Sp.1 = 0 ∧ tK By Nb Sp.2.2.1 = 2 ∧ a.toInt ≤ tV By Nb Sp.2.2.1 ∧ tV By Nb Sp.2.2.1 ≤ b.toInt) := fun z => nH_gg (by rw [← h15]; exact z)
  have h20 : S14.2.2.2 = Sp.2.2.2 := by rw [h15]; exact nH_w
  refine En_Ps 2 (pc' := 8) (lv' := [(3, .int z10), (0, .ref 3), (1, .int a), (2, .int b)]) (st' := [.ref 3]) rfl ?_
  refine En_getK (j := 5) h9 rfl rfl rfl (by decide +kernel : TG 3 = 3) (by decide +kernel) ?_
  refine En_iNe _ rfl rfl (fun h21 => ?_) (fun h21 => ?_)
  · have h22 := Imp_m h7.2.2.2.2.2.2.2.1 (by omega)
    refine En_Ps 1 (pc' := 19) (lv' := [(3, .int z10), (0, .ref 3), (1, .int a), (2, .int b)]) (st' := [.int z10]) rfl ?_
    exact En_ret (v := some (.int z10)) rfl rfl rfl ⟨h5, h12, z8, h9, z10, rfl, ⟨by omega, by omega, by omega, by omega, by omega, by omega, fun _ => by have := Imp_m h7.2.2.2.2.2.2.1 (by omega); have := Imp_m h7.2.2.2.2.2.2.2.2.1 (by omega); omega, fun _ => by omega, fun _ => by omega, fun _ => by omega, (by have q0 : tN By Nb a.toInt b.toInt Sp = S14 := (by first | (subst h15; rfl) | (subst h15; unfold tN; exact adv_bad (by omega))); rw [q0]; exact ⟨h16, fun zz => by (try have i0 := Imp_m h19 (by omega)); (try have i1 := Imp_m h18 (by omega)); (try have i2 := Imp_m h7.2.2.2.2.2.2.1 (by omega)); (try have i3 := Imp_m h7.2.2.2.2.2.2.2.2.1 (by omega)); (try have i4 := Imp_m h7.2.2.2.2.2.2.2.2.2.1 (by omega)); omega⟩)⟩⟩
  · have h23 := Imp_m h7.2.2.2.2.2.2.1 (by omega)
    refine En_Ps 1 (pc' := 15) (lv' := [(3, .int z10), (0, .ref 3), (1, .int a), (2, .int b)]) (st' := [.ref 3]) rfl ?_
    obtain ⟨z25, h24, h26, h27⟩ := WT_peekI h5 (by decide +kernel : TG 3 = 3) (by decide +kernel : FT 3 3 = (0, 0, 1600)) (by decide +kernel)
    refine En_callV rfl rfl rfl rfl rfl rfl rfl rfl (by decide +kernel : TG 3 = 3) (by decide +kernel) rfl (c_72x σ4 h5 z25 h24 h16.1 (CT_at h16 (by omega) h24)) (by decide) (by decide) (fun v29 σ30 h28 => ?_)
    obtain ⟨h31, h32, rfl, h33⟩ := h28
    have h34 := h33
    have h35 := Fr_trans h12 h32 (by decide +kernel)
    obtain ⟨S36, h37⟩ : ∃ q : PS, q = adv By Nb S14 := ⟨_, rfl⟩
    have h38 : CT By Nb σ30 S36 := by rw [h37]; exact (CT_adv h16 (by omega) h24 h32 (by decide +kernel) h34.2)
    have h39 := CT_k h38 ((h32 _ _ (inW (by decide +kernel : TG 3 = 3) (by decide +kernel))).trans h9)
    have h40 : S36.2.2.2 = S14.2.2.2 := by rw [h37]; exact adv_w
    have h41 : S36.1 = S14.1 := by rw [h37]; exact adv_1
    refine En_Ps 1 (pc' := 19) (lv' := [(3, .int z10), (0, .ref 3), (1, .int a), (2, .int b)]) (st' := [.int z10]) rfl ?_
    exact En_ret (v := some (.int z10)) rfl rfl rfl ⟨h31, h35, z8, ((h32 _ _ (inW (by decide +kernel : TG 3 = 3) (by decide +kernel))).trans h9), z10, rfl, ⟨by omega, by omega, by omega, by omega, by omega, by omega, fun _ => by omega, fun _ => by have := Imp_m h7.2.2.2.2.2.2.2.1 (by omega); have := Imp_m h7.2.2.2.2.2.2.2.2.1 (by omega); omega, fun _ => by omega, fun _ => by omega, (by have q0 : tN By Nb a.toInt b.toInt Sp = S36 := (by first | (subst h37; subst h15; rfl) | (subst h37; subst h15; unfold tN; exact adv_bad (by omega))); rw [q0]; exact ⟨h38, fun zz => by (try have i0 := Imp_m h19 (by omega)); (try have i1 := Imp_m h18 (by omega)); (try have i2 := Imp_m h7.2.2.2.2.2.2.2.1 (by omega)); (try have i3 := Imp_m h7.2.2.2.2.2.2.2.2.1 (by omega)); (try have i4 := Imp_m h7.2.2.2.2.2.2.2.2.2.1 (by omega)); omega⟩)⟩⟩

/-- DoorSchool$Reader.readFirst(LDoorSchool$Plan;)V -/
abbrev P_65x (σ0 : SG) (By : Int → Int) (Nb : Int) (Sp : PS) (a : Nat) (f : Int32) : PO := fun v σ => WT σ ∧ Fr [(3, 1), (3, 2), (3, 3), (3, 4), (3, 5), (3, 6), (18, 1), (18, 2)] σ0 σ ∧ ∃ f1 : Int32, (σ 3)[5]? = some (.int f1) ∧ ∃ sg1 : Int32, (σ a)[1]? = some (.int sg1) ∧ v = none ∧ OUT σ0 σ a ∧ -f1.toInt ≤ 0 ∧ f1.toInt - 3 ≤ 0 ∧ -f1.toInt + f.toInt ≤ 0 ∧ f1.toInt - f.toInt - 3 ≤ 0 ∧ -sg1.toInt - 1 ≤ 0 ∧ sg1.toInt - 4 ≤ 0 ∧ -sg1.toInt + f.toInt - 4 ≤ 0 ∧ sg1.toInt - f.toInt - 4 ≤ 0 ∧ f.toInt - f1.toInt ≤ 0 ∧ -sg1.toInt - f1.toInt ≤ 0 ∧ (OTH a σ0 σ ∧ CT By Nb σ (fFirst By Nb Sp) ∧ ((fFirst By Nb Sp).1 = 0 → KN σ a (fFirst By Nb Sp).2.2.2 (act (fFirst By Nb Sp).2.2.2)))
set_option maxRecDepth 10000 in
set_option maxHeartbeats 4000000 in
theorem c_65x {By : Int → Int} {Nb : Int} {Sp : PS} (σ0 : SG) (hσ0 : WT σ0) (a : Nat) (ha : TG a = 18) (f : Int32) (h_f : (σ0 3)[5]? = some (.int f)) (hC : CT By Nb σ0 Sp) (hg : Sp.1 = 0) (hP : PLA a) (hX : FXP σ0 a) (hK : KN σ0 a Sp.2.2.2 (act Sp.2.2.2)) : En 5 112 none mr_65 (P_65x σ0 By Nb Sp a f) 0 [(0, .ref 3), (1, .ref a)] [] σ0 := by
  obtain ⟨hl_f, hu_f⟩ := WT_int hσ0 (g := 3) (by decide +kernel) (by decide +kernel) (l := 0) (u := 3) (by decide +kernel) h_f
  have hF0 : Fr [(3, 1), (3, 2), (3, 3), (3, 4), (3, 5), (3, 6), (18, 1), (18, 2)] σ0 σ0 := Fr_rfl
  have h1 := CT_k hC h_f
  have h2 : Imp (Sp.1 = 0) (KN σ0 a Sp.2.2.2 (fun t => act Sp.2.2.2 t)) := fun _ => hK
  refine En_Ps 2 (pc' := 2) (lv' := [(0, .ref 3), (1, .ref a)]) (st' := [.ref 3, .ref 3]) rfl ?_
  refine En_ldcS (i := 10) rfl rfl rfl ?_
  refine En_callV rfl rfl rfl rfl rfl rfl rfl rfl (by decide +kernel : TG 3 = 3) (by decide +kernel) rfl (c_71s10x σ0 hσ0 hC) (by decide) (by decide) (fun v4 σ5 h3 => ?_)
  obtain ⟨h6, h7, z9, rfl, h8⟩ := h3
  have h10 := h8.2.2
  obtain rfl : σ0 = σ5 := Fr_nil h7
  have h11 := h10
  refine En_callV rfl rfl rfl rfl rfl rfl rfl rfl (by decide +kernel : TG 3 = 3) (by decide +kernel) rfl (c_59x σ0 hσ0 z9 (geI rfl (by omega)) (leI rfl (by omega)) f h_f hC) (by decide) (by decide) (fun v13 σ14 h12 => ?_)
  obtain ⟨h15, h16, z18, h19, rfl, h17⟩ := h12
  have h20 := h17.2.2.2.2.2.2.2
  have h21 := Fr_trans hF0 h16 (by decide +kernel)
  have h22 := OTH_fr (OTH_0 (a := a) (σ := σ0)) h16 (by decide +kernel)
  have h23 : pss By Nb z9.toInt Sp = pss By Nb (iW By Nb 10 Sp) Sp := pss_cg2 (fun zz => by (try have i0 := Imp_m h11 (by omega)); omega)
  obtain ⟨S24, h25⟩ : ∃ q : PS, q = pss By Nb (iW By Nb 10 Sp) Sp := ⟨_, rfl⟩
  have h26 : CT By Nb σ14 S24 := by rw [h25]; exact (CT_eq h20 h23)
  have h27 := CT_k h26 h19
  have h28 : S24.2.2.2 = Sp.2.2.2 := by rw [h25]; exact pss_w
  have h29 : Imp (S24.1 = 0) (Sp.1 = 0) := fun z => (pss_g (by rw [h23, ← h25]; exact z)).1
  have h30 : Imp (S24.1 = 0) (z9.toInt = 1) := fun z => (pss_g (by rw [h23, ← h25]; exact z)).2.1
  have h31 : Imp (S24.1 = 0) (KN σ14 a Sp.2.2.2 (fun t => act Sp.2.2.2 t)) := fun zz => KN_fr hP (Imp_m h2 (by (try have i0 := Imp_m h30 (by omega)); (try have i1 := Imp_m h29 (by omega)); (try have i2 := Imp_m h11 (by omega)); omega)) h16 (by decide +kernel)
  have h32 : S24.2.2.2 = Sp.2.2.2 := h28.trans (rfl : Sp.2.2.2 = Sp.2.2.2)
  have o33 : OUT σ0 σ14 a := OUT_fr OUT_0 h16 (by decide +kernel)
  refine En_Ps 2 (pc' := 12) (lv' := [(0, .ref 3), (1, .ref a)]) (st' := [.ref 3, .ref 3]) rfl ?_
  refine En_ldcS (i := 13) rfl rfl rfl ?_
  refine En_callV rfl rfl rfl rfl rfl rfl rfl rfl (by decide +kernel : TG 3 = 3) (by decide +kernel) rfl (c_71s13x σ14 h15 h26) (by decide) (by decide) (fun v35 σ36 h34 => ?_)
  obtain ⟨h37, h38, z40, rfl, h39⟩ := h34
  have h41 := h39.2.2
  obtain rfl : σ14 = σ36 := Fr_nil h38
  have h42 := h41
  refine En_callV rfl rfl rfl rfl rfl rfl rfl rfl (by decide +kernel : TG 3 = 3) (by decide +kernel) rfl (c_59x σ14 h15 z40 (geI rfl (by omega)) (leI rfl (by omega)) z18 h19 h26) (by decide) (by decide) (fun v44 σ45 h43 => ?_)
  obtain ⟨h46, h47, z49, h50, rfl, h48⟩ := h43
  have h51 := h48.2.2.2.2.2.2.2
  have h52 := Fr_trans h21 h47 (by decide +kernel)
  have h53 := OTH_fr h22 h47 (by decide +kernel)
  have h54 : pss By Nb z40.toInt S24 = pss By Nb (iW By Nb 13 S24) S24 := pss_cg2 (fun zz => by (try have i0 := Imp_m h42 (by omega)); (try have i1 := Imp_m h30 (by omega)); (try have i2 := Imp_m h29 (by omega)); (try have i3 := Imp_m h11 (by omega)); (try have i4 := Imp_m h17.2.2.2.2.1 (by omega)); (try have i5 := Imp_m h17.2.2.2.2.2.2.1 (by omega)); omega)
  obtain ⟨S55, h56⟩ : ∃ q : PS, q = pss By Nb (iW By Nb 13 S24) S24 := ⟨_, rfl⟩
  have h57 : CT By Nb σ45 S55 := by rw [h56]; exact (CT_eq h51 h54)
  have h58 := CT_k h57 h50
  have h59 : S55.2.2.2 = S24.2.2.2 := by rw [h56]; exact pss_w
  have h60 : Imp (S55.1 = 0) (S24.1 = 0) := fun z => (pss_g (by rw [h54, ← h56]; exact z)).1
  have h61 : Imp (S55.1 = 0) (z40.toInt = 1) := fun z => (pss_g (by rw [h54, ← h56]; exact z)).2.1
  have h62 : Imp (S55.1 = 0) (KN σ45 a Sp.2.2.2 (fun t => act Sp.2.2.2 t)) := fun zz => KN_fr hP (Imp_m h31 (by (try have i0 := Imp_m h61 (by omega)); (try have i1 := Imp_m h60 (by omega)); (try have i2 := Imp_m h42 (by omega)); (try have i3 := Imp_m h30 (by omega)); (try have i4 := Imp_m h29 (by omega)); (try have i5 := Imp_m h11 (by omega)); (try have i6 := Imp_m h17.2.2.2.2.1 (by omega)); (try have i7 := Imp_m h17.2.2.2.2.2.2.1 (by omega)); omega)) h47 (by decide +kernel)
  have h63 : S55.2.2.2 = Sp.2.2.2 := h59.trans h32
  have o64 : OUT σ0 σ45 a := OUT_fr o33 h47 (by decide +kernel)
  refine En_Ps 4 (pc' := 24) (lv' := [(0, .ref 3), (1, .ref a)]) (st' := [.int ((Int32.ofInt 4)), .int ((Int32.ofInt 2)), .ref 3, .ref a]) rfl ?_
  have := (by decide : ((Int32.ofInt 2)).toInt = 2)
  have := (by decide : ((Int32.ofInt 4)).toInt = 4)
  refine En_callV rfl rfl rfl rfl rfl rfl rfl rfl (by decide +kernel : TG 3 = 3) (by decide +kernel) rfl (c_73x σ45 h46 ((Int32.ofInt 2)) ((Int32.ofInt 4)) z49 h50 h57) (by decide) (by decide) (fun v66 σ67 h65 => ?_)
  obtain ⟨h68, h69, z71, h72, z73, rfl, h70⟩ := h65
  have h74 := h70.2.2.2.2.2.2.2.2.2.2
  have h75 := Fr_trans h52 h69 (by decide +kernel)
  have h76 := Imp_m h70.2.2.2.2.2.2.1
  have h77 := Imp_m h70.2.2.2.2.2.2.2.1
  have h78 := Imp_m h70.2.2.2.2.2.2.2.2.1
  have h79 := Imp_m h70.2.2.2.2.2.2.2.2.2.1
  have h80 := OTH_fr h53 h69 (by decide +kernel)
  have h81 : tN By Nb ((Int32.ofInt 2)).toInt ((Int32.ofInt 4)).toInt S55 = tN By Nb (2) (4) S55 := tN_cg2 (fun zz => by omega) (fun zz => by omega)
  obtain ⟨S82, h83⟩ : ∃ q : PS, q = tN By Nb (2) (4) S55 := ⟨_, rfl⟩
  have h84 : CT By Nb σ67 S82 := by rw [h83]; exact (CT_eq h74.1 h81)
  have h85 := CT_k h84 h72
  have h86 : Imp (S82.1 = 0) (z73.toInt = tV By Nb S55.2.2.1) := fun z => Imp_m h74.2 (by rw [h81, ← h83]; exact z)
  have h87 : Imp (S82.1 = 0) (S55.1 = 0 ∧ tK By Nb S55.2.2.1 = 2 ∧ 2 ≤ tV By Nb S55.2.2.1 ∧ tV By Nb S55.2.2.1 ≤ 4) := fun z => tN_gg (by rw [← h83]; exact z)
  have h88 : S82.2.2.2 = S55.2.2.2 := by rw [h83]; exact tN_w
  have h89 : Imp (S82.1 = 0) (KN σ67 a Sp.2.2.2 (fun t => act Sp.2.2.2 t)) := fun zz => KN_fr hP (Imp_m h62 (by (try have i0 := Imp_m h87 (by omega)); (try have i1 := Imp_m h86 (by omega)); (try have i2 := Imp_m h61 (by omega)); (try have i3 := Imp_m h60 (by omega)); (try have i4 := Imp_m h42 (by omega)); (try have i5 := Imp_m h30 (by omega)); (try have i6 := Imp_m h29 (by omega)); (try have i7 := Imp_m h11 (by omega)); (try have i8 := Imp_m h17.2.2.2.2.1 (by omega)); (try have i9 := Imp_m h17.2.2.2.2.2.2.1 (by omega)); (try have i10 := Imp_m h48.2.2.2.2.1 (by omega)); (try have i11 := Imp_m h48.2.2.2.2.2.2.1 (by omega)); omega)) h69 (by decide +kernel)
  have h90 : S82.2.2.2 = Sp.2.2.2 := h88.trans h63
  have o91 : OUT σ0 σ67 a := OUT_fr o64 h69 (by decide +kernel)
  have h92 := Imp_m h70.2.2.2.2.2.2.2.2.1 (by omega)
  have h93 := Imp_m h70.2.2.2.2.2.2.2.2.2.1 (by omega)
  refine En_put (j := 1) rfl rfl rfl ha (by decide +kernel) rfl (vI (l := (-1)) (u := 4) (by decide +kernel) rfl (by omega) (by omega)) h68 h75 (by decide +kernel) (fun σ94 h95 h96 h97 h98 => ?_)
  have h99 := OTH_pt h80 h98
  obtain ⟨S100, h101⟩ : ∃ q : PS, q = wst S82 (0) ((tV By Nb S55.2.2.1)) := ⟨_, rfl⟩
  have h102 : CT By Nb σ94 S100 := by rw [h101]; exact CT_wst (CT_ne h84 h98 (by have := hP; unfold PLA at this; omega))
  have h103 : Imp (S100.1 = 0) (KN σ94 a (uPd Sp.2.2.2 (0) ((tV By Nb S55.2.2.1))) (fun t => (act Sp.2.2.2 t ∨ t = 0))) := fun zz => KN_st (Imp_m h89 (by rw [h101] at zz; exact zz)) h97 h98 (by omega) (by omega) (by rw [lcO_lt (by decide) (by decide), Nat.add_zero]) (by decide) (by have z2 : S82.1 = 0 := (by rw [h101] at zz; exact zz); (try have i0 := Imp_m h87 (by omega)); (try have i1 := Imp_m h86 (by omega)); (try have i2 := Imp_m h61 (by omega)); (try have i3 := Imp_m h60 (by omega)); (try have i4 := Imp_m h42 (by omega)); (try have i5 := Imp_m h30 (by omega)); (try have i6 := Imp_m h29 (by omega)); (try have i7 := Imp_m h11 (by omega)); (try have i8 := Imp_m h17.2.2.2.2.1 (by omega)); (try have i9 := Imp_m h17.2.2.2.2.2.2.1 (by omega)); (try have i10 := Imp_m h48.2.2.2.2.1 (by omega)); (try have i11 := Imp_m h48.2.2.2.2.2.2.1 (by omega)); (try have i12 := Imp_m h70.2.2.2.2.2.2.1 (by omega)); (try have i13 := Imp_m h70.2.2.2.2.2.2.2.1 (by omega)); omega)
  have h104 : S100.2.2.2 = (uPd Sp.2.2.2 (0) ((tV By Nb S55.2.2.1))) := by rw [h101]; show uPd S82.2.2.2 _ _ = _; rw [h90]
  have h105 : S100.1 = S82.1 := by rw [h101]; rfl
  have h106 := CT_k h102 ((h98 _ _ (Or.inr (by decide))).trans h72)
  have o107 : OUT σ0 σ94 a := OUT_st o91 h98 (by omega)
  refine En_Ps 2 (pc' := 32) (lv' := [(0, .ref 3), (1, .ref a)]) (st' := [.ref 3, .ref 3]) rfl ?_
  refine En_ldcS (i := 16) rfl rfl rfl ?_
  refine En_callV rfl rfl rfl rfl rfl rfl rfl rfl (by decide +kernel : TG 3 = 3) (by decide +kernel) rfl (c_71s16x σ94 h95 h102) (by decide) (by decide) (fun v109 σ110 h108 => ?_)
  obtain ⟨h111, h112, z114, rfl, h113⟩ := h108
  have h115 := h113.2.2
  obtain rfl : σ94 = σ110 := Fr_nil h112
  have h116 := h115
  refine En_callV rfl rfl rfl rfl rfl rfl rfl rfl (by decide +kernel : TG 3 = 3) (by decide +kernel) rfl (c_59x σ94 h95 z114 (geI rfl (by omega)) (leI rfl (by omega)) z71 ((h98 _ _ (Or.inr (by decide))).trans h72) h102) (by decide) (by decide) (fun v118 σ119 h117 => ?_)
  obtain ⟨h120, h121, z123, h124, rfl, h122⟩ := h117
  have h125 := h122.2.2.2.2.2.2.2
  have h126 := Fr_trans h96 h121 (by decide +kernel)
  have h127 := OTH_fr h99 h121 (by decide +kernel)
  have h128 : pss By Nb z114.toInt S100 = pss By Nb (iW By Nb 16 S100) S100 := pss_cg2 (fun zz => by (try have i0 := Imp_m h116 (by omega)); (try have i1 := Imp_m h87 (by omega)); (try have i2 := Imp_m h86 (by omega)); (try have i3 := Imp_m h61 (by omega)); (try have i4 := Imp_m h60 (by omega)); (try have i5 := Imp_m h42 (by omega)); (try have i6 := Imp_m h30 (by omega)); (try have i7 := Imp_m h29 (by omega)); (try have i8 := Imp_m h11 (by omega)); (try have i9 := Imp_m h17.2.2.2.2.1 (by omega)); (try have i10 := Imp_m h17.2.2.2.2.2.2.1 (by omega)); (try have i11 := Imp_m h48.2.2.2.2.1 (by omega)); (try have i12 := Imp_m h48.2.2.2.2.2.2.1 (by omega)); (try have i13 := Imp_m h70.2.2.2.2.2.2.1 (by omega)); (try have i14 := Imp_m h70.2.2.2.2.2.2.2.1 (by omega)); omega)
  obtain ⟨S129, h130⟩ : ∃ q : PS, q = pss By Nb (iW By Nb 16 S100) S100 := ⟨_, rfl⟩
  have h131 : CT By Nb σ119 S129 := by rw [h130]; exact (CT_eq h125 h128)
  have h132 := CT_k h131 h124
  have h133 : S129.2.2.2 = S100.2.2.2 := by rw [h130]; exact pss_w
  have h134 : Imp (S129.1 = 0) (S100.1 = 0) := fun z => (pss_g (by rw [h128, ← h130]; exact z)).1
  have h135 : Imp (S129.1 = 0) (z114.toInt = 1) := fun z => (pss_g (by rw [h128, ← h130]; exact z)).2.1
  have h136 : Imp (S129.1 = 0) (KN σ119 a (uPd Sp.2.2.2 (0) ((tV By Nb S55.2.2.1))) (fun t => (act Sp.2.2.2 t ∨ t = 0))) := fun zz => KN_fr hP (Imp_m h103 (by (try have i0 := Imp_m h135 (by omega)); (try have i1 := Imp_m h134 (by omega)); (try have i2 := Imp_m h116 (by omega)); (try have i3 := Imp_m h87 (by omega)); (try have i4 := Imp_m h86 (by omega)); (try have i5 := Imp_m h61 (by omega)); (try have i6 := Imp_m h60 (by omega)); (try have i7 := Imp_m h42 (by omega)); (try have i8 := Imp_m h30 (by omega)); (try have i9 := Imp_m h29 (by omega)); (try have i10 := Imp_m h11 (by omega)); (try have i11 := Imp_m h17.2.2.2.2.1 (by omega)); (try have i12 := Imp_m h17.2.2.2.2.2.2.1 (by omega)); (try have i13 := Imp_m h48.2.2.2.2.1 (by omega)); (try have i14 := Imp_m h48.2.2.2.2.2.2.1 (by omega)); (try have i15 := Imp_m h70.2.2.2.2.2.2.1 (by omega)); (try have i16 := Imp_m h70.2.2.2.2.2.2.2.1 (by omega)); omega)) h121 (by decide +kernel)
  have h137 : S129.2.2.2 = (uPd Sp.2.2.2 (0) ((tV By Nb S55.2.2.1))) := h133.trans h104
  have o138 : OUT σ0 σ119 a := OUT_fr o107 h121 (by decide +kernel)
  refine En_Ps 4 (pc' := 44) (lv' := [(0, .ref 3), (1, .ref a)]) (st' := [.int ((Int32.ofInt 3)), .int ((Int32.ofInt 1)), .ref 3, .ref a]) rfl ?_
  have := (by decide : ((Int32.ofInt 1)).toInt = 1)
  have := (by decide : ((Int32.ofInt 3)).toInt = 3)
  refine En_callV rfl rfl rfl rfl rfl rfl rfl rfl (by decide +kernel : TG 3 = 3) (by decide +kernel) rfl (c_73x σ119 h120 ((Int32.ofInt 1)) ((Int32.ofInt 3)) z123 h124 h131) (by decide) (by decide) (fun v140 σ141 h139 => ?_)
  obtain ⟨h142, h143, z145, h146, z147, rfl, h144⟩ := h139
  have h148 := h144.2.2.2.2.2.2.2.2.2.2
  have h149 := Fr_trans h126 h143 (by decide +kernel)
  have h150 := Imp_m h144.2.2.2.2.2.2.1
  have h151 := Imp_m h144.2.2.2.2.2.2.2.1
  have h152 := Imp_m h144.2.2.2.2.2.2.2.2.1
  have h153 := Imp_m h144.2.2.2.2.2.2.2.2.2.1
  have h154 := OTH_fr h127 h143 (by decide +kernel)
  have h155 : tN By Nb ((Int32.ofInt 1)).toInt ((Int32.ofInt 3)).toInt S129 = tN By Nb (1) (3) S129 := tN_cg2 (fun zz => by omega) (fun zz => by omega)
  obtain ⟨S156, h157⟩ : ∃ q : PS, q = tN By Nb (1) (3) S129 := ⟨_, rfl⟩
  have h158 : CT By Nb σ141 S156 := by rw [h157]; exact (CT_eq h148.1 h155)
  have h159 := CT_k h158 h146
  have h160 : Imp (S156.1 = 0) (z147.toInt = tV By Nb S129.2.2.1) := fun z => Imp_m h148.2 (by rw [h155, ← h157]; exact z)
  have h161 : Imp (S156.1 = 0) (S129.1 = 0 ∧ tK By Nb S129.2.2.1 = 2 ∧ 1 ≤ tV By Nb S129.2.2.1 ∧ tV By Nb S129.2.2.1 ≤ 3) := fun z => tN_gg (by rw [← h157]; exact z)
  have h162 : S156.2.2.2 = S129.2.2.2 := by rw [h157]; exact tN_w
  have h163 : Imp (S156.1 = 0) (KN σ141 a (uPd Sp.2.2.2 (0) ((tV By Nb S55.2.2.1))) (fun t => (act Sp.2.2.2 t ∨ t = 0))) := fun zz => KN_fr hP (Imp_m h136 (by (try have i0 := Imp_m h161 (by omega)); (try have i1 := Imp_m h160 (by omega)); (try have i2 := Imp_m h135 (by omega)); (try have i3 := Imp_m h134 (by omega)); (try have i4 := Imp_m h116 (by omega)); (try have i5 := Imp_m h87 (by omega)); (try have i6 := Imp_m h86 (by omega)); (try have i7 := Imp_m h61 (by omega)); (try have i8 := Imp_m h60 (by omega)); (try have i9 := Imp_m h42 (by omega)); (try have i10 := Imp_m h30 (by omega)); (try have i11 := Imp_m h29 (by omega)); (try have i12 := Imp_m h11 (by omega)); (try have i13 := Imp_m h17.2.2.2.2.1 (by omega)); (try have i14 := Imp_m h17.2.2.2.2.2.2.1 (by omega)); (try have i15 := Imp_m h48.2.2.2.2.1 (by omega)); (try have i16 := Imp_m h48.2.2.2.2.2.2.1 (by omega)); (try have i17 := Imp_m h70.2.2.2.2.2.2.1 (by omega)); (try have i18 := Imp_m h70.2.2.2.2.2.2.2.1 (by omega)); (try have i19 := Imp_m h122.2.2.2.2.1 (by omega)); (try have i20 := Imp_m h122.2.2.2.2.2.2.1 (by omega)); omega)) h143 (by decide +kernel)
  have h164 : S156.2.2.2 = (uPd Sp.2.2.2 (0) ((tV By Nb S55.2.2.1))) := h162.trans h137
  have o165 : OUT σ0 σ141 a := OUT_fr o138 h143 (by decide +kernel)
  have h166 := Imp_m h144.2.2.2.2.2.2.2.2.1 (by omega)
  have h167 := Imp_m h144.2.2.2.2.2.2.2.2.2.1 (by omega)
  refine En_put (j := 2) rfl rfl rfl ha (by decide +kernel) rfl (vI (l := (-1)) (u := 3) (by decide +kernel) rfl (by omega) (by omega)) h142 h149 (by decide +kernel) (fun σ168 h169 h170 h171 h172 => ?_)
  have h173 := OTH_pj h154 h172 (by decide)
  obtain ⟨S174, h175⟩ : ∃ q : PS, q = wst S156 (1) ((tV By Nb S129.2.2.1)) := ⟨_, rfl⟩
  have h176 : CT By Nb σ168 S174 := by rw [h175]; exact CT_wst (CT_ne h158 h172 (by have := hP; unfold PLA at this; omega))
  have h177 : Imp (S174.1 = 0) (KN σ168 a (uPd (uPd Sp.2.2.2 (0) ((tV By Nb S55.2.2.1))) (1) ((tV By Nb S129.2.2.1))) (fun t => ((act Sp.2.2.2 t ∨ t = 0) ∨ t = 1))) := fun zz => KN_st (Imp_m h163 (by rw [h175] at zz; exact zz)) h171 h172 (by omega) (by omega) (by rw [lcO_lt (by decide) (by decide), Nat.add_zero]) (by decide) (by have z2 : S156.1 = 0 := (by rw [h175] at zz; exact zz); (try have i0 := Imp_m h161 (by omega)); (try have i1 := Imp_m h160 (by omega)); (try have i2 := Imp_m h135 (by omega)); (try have i3 := Imp_m h134 (by omega)); (try have i4 := Imp_m h116 (by omega)); (try have i5 := Imp_m h87 (by omega)); (try have i6 := Imp_m h86 (by omega)); (try have i7 := Imp_m h61 (by omega)); (try have i8 := Imp_m h60 (by omega)); (try have i9 := Imp_m h42 (by omega)); (try have i10 := Imp_m h30 (by omega)); (try have i11 := Imp_m h29 (by omega)); (try have i12 := Imp_m h11 (by omega)); (try have i13 := Imp_m h17.2.2.2.2.1 (by omega)); (try have i14 := Imp_m h17.2.2.2.2.2.2.1 (by omega)); (try have i15 := Imp_m h48.2.2.2.2.1 (by omega)); (try have i16 := Imp_m h48.2.2.2.2.2.2.1 (by omega)); (try have i17 := Imp_m h70.2.2.2.2.2.2.1 (by omega)); (try have i18 := Imp_m h70.2.2.2.2.2.2.2.1 (by omega)); (try have i19 := Imp_m h122.2.2.2.2.1 (by omega)); (try have i20 := Imp_m h122.2.2.2.2.2.2.1 (by omega)); (try have i21 := Imp_m h144.2.2.2.2.2.2.1 (by omega)); (try have i22 := Imp_m h144.2.2.2.2.2.2.2.1 (by omega)); omega)
  have h178 : S174.2.2.2 = (uPd (uPd Sp.2.2.2 (0) ((tV By Nb S55.2.2.1))) (1) ((tV By Nb S129.2.2.1))) := by rw [h175]; show uPd S156.2.2.2 _ _ = _; rw [h164]
  have h179 : S174.1 = S156.1 := by rw [h175]; rfl
  have h180 := CT_k h176 ((h172 _ _ (Or.inr (by decide))).trans h146)
  have o181 : OUT σ0 σ168 a := OUT_st o165 h172 (by omega)
  have h182 : fFirst By Nb Sp = S174 := by unfold fFirst; (try dsimp only); first | (rw [← h25, ← h56, ← h83, ← h101, ← h130, ← h157, ← h175]; first | done | rfl) | (rw [← h25, ← h56, ← h83, ← h101, ← h130, ← h157, ← h175]; rw [if_pos (by omega)]; first | done | rfl) | (rw [← h25, ← h56, ← h83, ← h101, ← h130, ← h157, ← h175]; rw [if_neg (by omega)]; first | done | rfl) | (rw [← h25, ← h56, ← h83, ← h101, ← h130, ← h157, ← h175]; rw [if_neg (by omega), if_pos (by omega)]; first | done | rfl) | (rw [← h25, ← h56, ← h83, ← h101, ← h130, ← h157, ← h175]; rw [if_neg (by omega), if_neg (by omega)]; first | done | rfl) | (rw [← h25, ← h56, ← h83, ← h101, ← h130, ← h157, ← h175]; rw [if_neg (by omega), if_neg (by omega), if_neg (by omega)]; first | done | rfl)
  exact En_ret (v := none) rfl rfl rfl ⟨h169, h170, z145, ((h172 _ _ (Or.inr (by decide))).trans h146), z73, ((h172 _ _ (Or.inr (by decide))).trans ((h143 _ _ (inW ha (by decide +kernel))).trans ((h121 _ _ (inW ha (by decide +kernel))).trans h97))), rfl, ⟨o181, by omega, by omega, by omega, by omega, by omega, by omega, by omega, by omega, by omega, by omega, (by rw [h182]; exact ⟨h173, h176, fun zz => by rw [h178]; exact KN_sub (Imp_m h177 zz) (fun t t0 t1 y => Or.inl (Or.inl (act_low (by omega) (act_low (by omega) y))))⟩)⟩⟩
/-- DoorSchool$Reader.takeWay()I -/
abbrev P_75x (σ0 : SG) (By : Int → Int) (Nb : Int) (Sp : PS) (f : Int32) : PO := fun v σ => WT σ ∧ Fr [(3, 1), (3, 2), (3, 3), (3, 4), (3, 5), (3, 6)] σ0 σ ∧ ∃ f1 : Int32, (σ 3)[5]? = some (.int f1) ∧ ∃ ret : Int32, v = some (.int ret) ∧ -ret.toInt - 1 ≤ 0 ∧ ret.toInt - 2 ≤ 0 ∧ -f1.toInt ≤ 0 ∧ f1.toInt - 3 ≤ 0 ∧ -f1.toInt + f.toInt ≤ 0 ∧ f1.toInt - f.toInt - 3 ≤ 0 ∧ f.toInt - f1.toInt ≤ 0 ∧ Imp (f1.toInt ≤ 0) (-ret.toInt ≤ 0) ∧ (CT By Nb σ (tW By Nb Sp) ∧ Imp ((tW By Nb Sp).1 = 0) (ret.toInt = wyV By Nb Sp))
set_option maxRecDepth 10000 in
set_option maxHeartbeats 4000000 in
theorem c_75x {By : Int → Int} {Nb : Int} {Sp : PS} (σ0 : SG) (hσ0 : WT σ0) (f : Int32) (h_f : (σ0 3)[5]? = some (.int f)) (hC : CT By Nb σ0 Sp) : En 5 112 none mr_75 (P_75x σ0 By Nb Sp f) 0 [(0, .ref 3)] [] σ0 := by
  obtain ⟨hl_f, hu_f⟩ := WT_int hσ0 (g := 3) (by decide +kernel) (by decide +kernel) (l := 0) (u := 3) (by decide +kernel) h_f
  have hF0 : Fr [(3, 1), (3, 2), (3, 3), (3, 4), (3, 5), (3, 6)] σ0 σ0 := Fr_rfl
  have h1 := CT_k hC h_f
  refine En_Ps 3 (pc' := 3) (lv' := [(1, .int ((Int32.ofInt (-1)))), (0, .ref 3)]) (st' := [.ref 3]) rfl ?_
  refine En_ldcS (i := 4) rfl rfl rfl ?_
  refine En_callV rfl rfl rfl rfl rfl rfl rfl rfl (by decide +kernel : TG 3 = 3) (by decide +kernel) rfl (c_71s4x σ0 hσ0 hC) (by decide) (by decide) (fun v3 σ4 h2 => ?_)
  obtain ⟨h5, h6, z8, rfl, h7⟩ := h2
  have h9 := h7.2.2
  obtain rfl : σ0 = σ4 := Fr_nil h6
  have h10 := h9
  refine En_iEq _ rfl rfl (fun h11 => ?_) (fun h11 => ?_)
  · refine En_Ps 1 (pc' := 17) (lv' := [(1, .int ((Int32.ofInt (-1)))), (0, .ref 3)]) (st' := [.ref 3]) rfl ?_
    refine En_ldcS (i := 11) rfl rfl rfl ?_
    refine En_callV rfl rfl rfl rfl rfl rfl rfl rfl (by decide +kernel : TG 3 = 3) (by decide +kernel) rfl (c_71s11x σ0 hσ0 hC) (by decide) (by decide) (fun v13 σ14 h12 => ?_)
    obtain ⟨h15, h16, z18, rfl, h17⟩ := h12
    have h19 := h17.2.2
    obtain rfl : σ0 = σ14 := Fr_nil h16
    have h20 := h19
    refine En_iEq _ rfl rfl (fun h21 => ?_) (fun h21 => ?_)
    · refine En_Ps 1 (pc' := 31) (lv' := [(1, .int ((Int32.ofInt (-1)))), (0, .ref 3)]) (st' := [.ref 3]) rfl ?_
      refine En_ldcS (i := 7) rfl rfl rfl ?_
      refine En_callV rfl rfl rfl rfl rfl rfl rfl rfl (by decide +kernel : TG 3 = 3) (by decide +kernel) rfl (c_71s7x σ0 hσ0 hC) (by decide) (by decide) (fun v23 σ24 h22 => ?_)
      obtain ⟨h25, h26, z28, rfl, h27⟩ := h22
      have h29 := h27.2.2
      obtain rfl : σ0 = σ24 := Fr_nil h26
      have h30 := h29
      refine En_iEq _ rfl rfl (fun h31 => ?_) (fun h31 => ?_)
      · refine En_Ps 3 (pc' := 44) (lv' := [(1, .int ((Int32.ofInt (-1)))), (0, .ref 3)]) (st' := [.int ((Int32.ofInt (-1))), .int ((Int32.ofInt (-1))), .ref 3]) rfl ?_
        refine En_icEq _ (by decide : (Int32.ofInt (-1)).toInt = -1) (by decide : (Int32.ofInt (-1)).toInt = -1) rfl (fun h32 => ?_) (fun hx => by exfalso; omega)
        refine En_Ps 1 (pc' := 52) (lv' := [(1, .int ((Int32.ofInt (-1)))), (0, .ref 3)]) (st' := [.int ((Int32.ofInt 0)), .ref 3]) rfl ?_
        have := (by decide : ((Int32.ofInt 0)).toInt = 0)
        refine En_callV rfl rfl rfl rfl rfl rfl rfl rfl (by decide +kernel : TG 3 = 3) (by decide +kernel) rfl (c_59x σ0 hσ0 ((Int32.ofInt 0)) (geI (by decide : (Int32.ofInt 0).toInt = 0) (by omega)) (leI (by decide : (Int32.ofInt 0).toInt = 0) (by omega)) f h_f hC) (by decide) (by decide) (fun v34 σ35 h33 => ?_)
        obtain ⟨h36, h37, z39, h40, rfl, h38⟩ := h33
        have h41 := h38.2.2.2.2.2.2.2
        have h42 := Fr_trans hF0 h37 (by decide +kernel)
        have h43 : pss By Nb ((Int32.ofInt 0)).toInt Sp = tW By Nb Sp := tWc (fun zz => by (try have i0 := Imp_m h30 (by omega)); (try have i1 := Imp_m h20 (by omega)); (try have i2 := Imp_m h10 (by omega)); omega)
        obtain ⟨S44, h45⟩ : ∃ q : PS, q = tW By Nb Sp := ⟨_, rfl⟩
        have h46 : CT By Nb σ35 S44 := by rw [h45]; exact (CT_eq h41 h43)
        have h47 := CT_k h46 h40
        have h48 : S44.2.2.2 = Sp.2.2.2 := by rw [h45]; exact pss_w
        have h49 : Imp (S44.1 = 0) (Sp.1 = 0) := fun z => (pss_g (by rw [h43, ← h45]; exact z)).1
        have h50 : Imp (S44.1 = 0) (((Int32.ofInt 0)).toInt = 1) := fun z => (pss_g (by rw [h43, ← h45]; exact z)).2.1
        have h51 := Imp_m h38.2.2.2.2.2.2.1 (by omega)
        refine En_Ps 1 (pc' := 56) (lv' := [(1, .int ((Int32.ofInt (-1)))), (0, .ref 3)]) (st' := [.int ((Int32.ofInt (-1)))]) rfl ?_
        refine En_top (by decide : (Int32.ofInt (-1)).toInt = -1) (fun z52 h53 => ?_)
        exact En_ret (v := some (.int z52)) rfl rfl rfl ⟨h36, h42, z39, h40, z52, rfl, ⟨by omega, by omega, by omega, by omega, by omega, by omega, by omega, fun _ => by omega, ⟨CT_eq h46 (by subst h45; rfl), fun zz => wyVc (by subst h45; (try have i0 := Imp_m h50 (by omega)); (try have i1 := Imp_m h49 (by omega)); (try have i2 := Imp_m h30 (by omega)); (try have i3 := Imp_m h20 (by omega)); (try have i4 := Imp_m h10 (by omega)); (try have i5 := Imp_m h38.2.2.2.2.1 (by omega)); omega)⟩⟩⟩
      · refine En_Ps 5 (pc' := 44) (lv' := [(1, .int ((Int32.ofInt 2))), (0, .ref 3)]) (st' := [.int ((Int32.ofInt (-1))), .int ((Int32.ofInt 2)), .ref 3]) rfl ?_
        refine En_icEq _ (by decide : (Int32.ofInt 2).toInt = 2) (by decide : (Int32.ofInt (-1)).toInt = -1) rfl (fun hx => by exfalso; omega) (fun h54 => ?_)
        refine En_Ps 2 (pc' := 52) (lv' := [(1, .int ((Int32.ofInt 2))), (0, .ref 3)]) (st' := [.int ((Int32.ofInt 1)), .ref 3]) rfl ?_
        have := (by decide : ((Int32.ofInt 1)).toInt = 1)
        refine En_callV rfl rfl rfl rfl rfl rfl rfl rfl (by decide +kernel : TG 3 = 3) (by decide +kernel) rfl (c_59x σ0 hσ0 ((Int32.ofInt 1)) (geI (by decide : (Int32.ofInt 1).toInt = 1) (by omega)) (leI (by decide : (Int32.ofInt 1).toInt = 1) (by omega)) f h_f hC) (by decide) (by decide) (fun v56 σ57 h55 => ?_)
        obtain ⟨h58, h59, z61, h62, rfl, h60⟩ := h55
        have h63 := h60.2.2.2.2.2.2.2
        have h64 := Fr_trans hF0 h59 (by decide +kernel)
        have h65 : pss By Nb ((Int32.ofInt 1)).toInt Sp = tW By Nb Sp := tWc (fun zz => by (try have i0 := Imp_m h30 (by omega)); (try have i1 := Imp_m h20 (by omega)); (try have i2 := Imp_m h10 (by omega)); omega)
        obtain ⟨S66, h67⟩ : ∃ q : PS, q = tW By Nb Sp := ⟨_, rfl⟩
        have h68 : CT By Nb σ57 S66 := by rw [h67]; exact (CT_eq h63 h65)
        have h69 := CT_k h68 h62
        have h70 : S66.2.2.2 = Sp.2.2.2 := by rw [h67]; exact pss_w
        have h71 : Imp (S66.1 = 0) (Sp.1 = 0) := fun z => (pss_g (by rw [h65, ← h67]; exact z)).1
        have h72 : Imp (S66.1 = 0) (((Int32.ofInt 1)).toInt = 1) := fun z => (pss_g (by rw [h65, ← h67]; exact z)).2.1
        have h73 := Imp_m h60.2.2.2.2.1 (by omega)
        refine En_Ps 1 (pc' := 56) (lv' := [(1, .int ((Int32.ofInt 2))), (0, .ref 3)]) (st' := [.int ((Int32.ofInt 2))]) rfl ?_
        refine En_top (by decide : (Int32.ofInt 2).toInt = 2) (fun z74 h75 => ?_)
        exact En_ret (v := some (.int z74)) rfl rfl rfl ⟨h58, h64, z61, h62, z74, rfl, ⟨by omega, by omega, by omega, by omega, by omega, by omega, by omega, fun _ => by omega, ⟨CT_eq h68 (by subst h67; rfl), fun zz => wyVc (by subst h67; (try have i0 := Imp_m h72 (by omega)); (try have i1 := Imp_m h71 (by omega)); (try have i2 := Imp_m h30 (by omega)); (try have i3 := Imp_m h20 (by omega)); (try have i4 := Imp_m h10 (by omega)); (try have i5 := Imp_m h60.2.2.2.2.2.2.1 (by omega)); omega)⟩⟩⟩
    · refine En_Ps 6 (pc' := 44) (lv' := [(1, .int ((Int32.ofInt 1))), (0, .ref 3)]) (st' := [.int ((Int32.ofInt (-1))), .int ((Int32.ofInt 1)), .ref 3]) rfl ?_
      refine En_icEq _ (by decide : (Int32.ofInt 1).toInt = 1) (by decide : (Int32.ofInt (-1)).toInt = -1) rfl (fun hx => by exfalso; omega) (fun h76 => ?_)
      refine En_Ps 2 (pc' := 52) (lv' := [(1, .int ((Int32.ofInt 1))), (0, .ref 3)]) (st' := [.int ((Int32.ofInt 1)), .ref 3]) rfl ?_
      have := (by decide : ((Int32.ofInt 1)).toInt = 1)
      refine En_callV rfl rfl rfl rfl rfl rfl rfl rfl (by decide +kernel : TG 3 = 3) (by decide +kernel) rfl (c_59x σ0 hσ0 ((Int32.ofInt 1)) (geI (by decide : (Int32.ofInt 1).toInt = 1) (by omega)) (leI (by decide : (Int32.ofInt 1).toInt = 1) (by omega)) f h_f hC) (by decide) (by decide) (fun v78 σ79 h77 => ?_)
      obtain ⟨h80, h81, z83, h84, rfl, h82⟩ := h77
      have h85 := h82.2.2.2.2.2.2.2
      have h86 := Fr_trans hF0 h81 (by decide +kernel)
      have h87 : pss By Nb ((Int32.ofInt 1)).toInt Sp = tW By Nb Sp := tWc (fun zz => by (try have i0 := Imp_m h20 (by omega)); (try have i1 := Imp_m h10 (by omega)); omega)
      obtain ⟨S88, h89⟩ : ∃ q : PS, q = tW By Nb Sp := ⟨_, rfl⟩
      have h90 : CT By Nb σ79 S88 := by rw [h89]; exact (CT_eq h85 h87)
      have h91 := CT_k h90 h84
      have h92 : S88.2.2.2 = Sp.2.2.2 := by rw [h89]; exact pss_w
      have h93 : Imp (S88.1 = 0) (Sp.1 = 0) := fun z => (pss_g (by rw [h87, ← h89]; exact z)).1
      have h94 : Imp (S88.1 = 0) (((Int32.ofInt 1)).toInt = 1) := fun z => (pss_g (by rw [h87, ← h89]; exact z)).2.1
      have h95 := Imp_m h82.2.2.2.2.1 (by omega)
      refine En_Ps 1 (pc' := 56) (lv' := [(1, .int ((Int32.ofInt 1))), (0, .ref 3)]) (st' := [.int ((Int32.ofInt 1))]) rfl ?_
      refine En_top (by decide : (Int32.ofInt 1).toInt = 1) (fun z96 h97 => ?_)
      exact En_ret (v := some (.int z96)) rfl rfl rfl ⟨h80, h86, z83, h84, z96, rfl, ⟨by omega, by omega, by omega, by omega, by omega, by omega, by omega, fun _ => by omega, ⟨CT_eq h90 (by subst h89; rfl), fun zz => wyVc (by subst h89; (try have i0 := Imp_m h94 (by omega)); (try have i1 := Imp_m h93 (by omega)); (try have i2 := Imp_m h20 (by omega)); (try have i3 := Imp_m h10 (by omega)); (try have i4 := Imp_m h82.2.2.2.2.2.2.1 (by omega)); omega)⟩⟩⟩
  · refine En_Ps 6 (pc' := 44) (lv' := [(1, .int ((Int32.ofInt 0))), (0, .ref 3)]) (st' := [.int ((Int32.ofInt (-1))), .int ((Int32.ofInt 0)), .ref 3]) rfl ?_
    refine En_icEq _ (by decide : (Int32.ofInt 0).toInt = 0) (by decide : (Int32.ofInt (-1)).toInt = -1) rfl (fun hx => by exfalso; omega) (fun h98 => ?_)
    refine En_Ps 2 (pc' := 52) (lv' := [(1, .int ((Int32.ofInt 0))), (0, .ref 3)]) (st' := [.int ((Int32.ofInt 1)), .ref 3]) rfl ?_
    have := (by decide : ((Int32.ofInt 1)).toInt = 1)
    refine En_callV rfl rfl rfl rfl rfl rfl rfl rfl (by decide +kernel : TG 3 = 3) (by decide +kernel) rfl (c_59x σ0 hσ0 ((Int32.ofInt 1)) (geI (by decide : (Int32.ofInt 1).toInt = 1) (by omega)) (leI (by decide : (Int32.ofInt 1).toInt = 1) (by omega)) f h_f hC) (by decide) (by decide) (fun v100 σ101 h99 => ?_)
    obtain ⟨h102, h103, z105, h106, rfl, h104⟩ := h99
    have h107 := h104.2.2.2.2.2.2.2
    have h108 := Fr_trans hF0 h103 (by decide +kernel)
    have h109 : pss By Nb ((Int32.ofInt 1)).toInt Sp = tW By Nb Sp := tWc (fun zz => by (try have i0 := Imp_m h10 (by omega)); omega)
    obtain ⟨S110, h111⟩ : ∃ q : PS, q = tW By Nb Sp := ⟨_, rfl⟩
    have h112 : CT By Nb σ101 S110 := by rw [h111]; exact (CT_eq h107 h109)
    have h113 := CT_k h112 h106
    have h114 : S110.2.2.2 = Sp.2.2.2 := by rw [h111]; exact pss_w
    have h115 : Imp (S110.1 = 0) (Sp.1 = 0) := fun z => (pss_g (by rw [h109, ← h111]; exact z)).1
    have h116 : Imp (S110.1 = 0) (((Int32.ofInt 1)).toInt = 1) := fun z => (pss_g (by rw [h109, ← h111]; exact z)).2.1
    have h117 := Imp_m h104.2.2.2.2.1 (by omega)
    refine En_Ps 1 (pc' := 56) (lv' := [(1, .int ((Int32.ofInt 0))), (0, .ref 3)]) (st' := [.int ((Int32.ofInt 0))]) rfl ?_
    refine En_top (by decide : (Int32.ofInt 0).toInt = 0) (fun z118 h119 => ?_)
    exact En_ret (v := some (.int z118)) rfl rfl rfl ⟨h102, h108, z105, h106, z118, rfl, ⟨by omega, by omega, by omega, by omega, by omega, by omega, by omega, fun _ => by omega, ⟨CT_eq h112 (by subst h111; rfl), fun zz => wyVc (by subst h111; (try have i0 := Imp_m h116 (by omega)); (try have i1 := Imp_m h115 (by omega)); (try have i2 := Imp_m h10 (by omega)); (try have i3 := Imp_m h104.2.2.2.2.2.2.1 (by omega)); omega)⟩⟩⟩
/-- DoorSchool$Reader.readDoor(LDoorSchool$Plan;)V -/
abbrev P_63x (σ0 : SG) (By : Int → Int) (Nb : Int) (Sp : PS) (a : Nat) (f : Int32) (sg : Int32) : PO := fun v σ => WT σ ∧ Fr [(3, 1), (3, 2), (3, 3), (3, 4), (3, 5), (3, 6), (18, 3), (20, 2), (28, 1), (28, 2), (28, 3)] σ0 σ ∧ ∃ f1 : Int32, (σ 3)[5]? = some (.int f1) ∧ v = none ∧ OUT σ0 σ a ∧ -f1.toInt ≤ 0 ∧ f1.toInt - 3 ≤ 0 ∧ -f1.toInt + f.toInt ≤ 0 ∧ f1.toInt - f.toInt - 3 ≤ 0 ∧ -f1.toInt + sg.toInt - 4 ≤ 0 ∧ f1.toInt - sg.toInt - 3 ≤ 0 ∧ f.toInt - f1.toInt ≤ 0 ∧ (CT By Nb σ (fDoor By Nb Sp) ∧ ((fDoor By Nb Sp).1 = 0 → KN σ a (fDoor By Nb Sp).2.2.2 (act (fDoor By Nb Sp).2.2.2)))
set_option maxRecDepth 10000 in
set_option maxHeartbeats 4000000 in
theorem c_63x {By : Int → Int} {Nb : Int} {Sp : PS} (σ0 : SG) (hσ0 : WT σ0) (a : Nat) (ha : TG a = 18) (f : Int32) (h_f : (σ0 3)[5]? = some (.int f)) (sg : Int32) (h_sg : (σ0 a)[1]? = some (.int sg)) (hp0 : -sg.toInt ≤ 0) (hC : CT By Nb σ0 Sp) (hg : Sp.1 = 0) (hP : PLA a) (hX : FXP σ0 a) (hK : KN σ0 a Sp.2.2.2 (act Sp.2.2.2)) : En 6 133 none mr_63 (P_63x σ0 By Nb Sp a f sg) 0 [(0, .ref 3), (1, .ref a)] [] σ0 := by
  obtain ⟨hl_f, hu_f⟩ := WT_int hσ0 (g := 3) (by decide +kernel) (by decide +kernel) (l := 0) (u := 3) (by decide +kernel) h_f
  obtain ⟨hl_sg, hu_sg⟩ := WT_int hσ0 (g := 18) ha (by decide +kernel) (l := (-1)) (u := 4) (by decide +kernel) h_sg
  have hF0 : Fr [(3, 1), (3, 2), (3, 3), (3, 4), (3, 5), (3, 6), (18, 3), (20, 2), (28, 1), (28, 2), (28, 3)] σ0 σ0 := Fr_rfl
  have h1 := CT_k hC h_f
  obtain ⟨z3, h2, h4, h5⟩ := WT_peekI hσ0 ha (by decide +kernel : FT 18 3 = (0, 0, 4)) (by decide +kernel)
  have h6 : Sp.2.2.2 2 = z3.toInt := KN_v hK (Or.inl (by decide)) (by decide) (by decide) (by rw [lcO_lt (by decide) (by decide), Nat.add_zero]) rfl h2
  refine En_Ps 1 (pc' := 1) (lv' := [(0, .ref 3), (1, .ref a)]) (st' := [.ref a]) rfl ?_
  refine En_getK (j := 3) h2 rfl rfl rfl ha (by decide +kernel) ?_
  refine En_Ps 1 (pc' := 5) (lv' := [(0, .ref 3), (1, .ref a)]) (st' := [.int ((Int32.ofInt 4)), .int z3]) rfl ?_
  refine En_icLt _ rfl (by decide : (Int32.ofInt 4).toInt = 4) rfl (fun h7 => ?_) (fun h7 => ?_)
  · refine En_Ps 1 (pc' := 15) (lv' := [(0, .ref 3), (1, .ref a)]) (st' := [.ref 3]) rfl ?_
    obtain ⟨z9, h8, h10, h11⟩ := WT_peekI hσ0 (by decide +kernel : TG 3 = 3) (by decide +kernel : FT 3 3 = (0, 0, 1600)) (by decide +kernel)
    refine En_callV rfl rfl rfl rfl rfl rfl rfl rfl (by decide +kernel : TG 3 = 3) (by decide +kernel) rfl (c_72x σ0 hσ0 z9 h8 hC.1 (CT_at hC (by omega) h8)) (by decide) (by decide) (fun v13 σ14 h12 => ?_)
    obtain ⟨h15, h16, rfl, h17⟩ := h12
    have h18 := h17
    have h19 := Fr_trans hF0 h16 (by decide +kernel)
    obtain ⟨S20, h21⟩ : ∃ q : PS, q = adv By Nb Sp := ⟨_, rfl⟩
    have h22 : CT By Nb σ14 S20 := by rw [h21]; exact (CT_adv hC (by omega) h8 h16 (by decide +kernel) h18.2)
    have h23 := CT_k h22 ((h16 _ _ (inW (by decide +kernel : TG 3 = 3) (by decide +kernel))).trans h_f)
    have h24 : S20.2.2.2 = Sp.2.2.2 := by rw [h21]; exact adv_w
    have h25 : S20.1 = Sp.1 := by rw [h21]; exact adv_1
    have h26 := KN_fr hP hK h16 (by decide +kernel)
    have h27 : S20.2.2.2 = Sp.2.2.2 := h24.trans (rfl : Sp.2.2.2 = Sp.2.2.2)
    have o28 : OUT σ0 σ14 a := OUT_fr OUT_0 h16 (by decide +kernel)
    refine En_Ps 1 (pc' := 19) (lv' := [(0, .ref 3), (1, .ref a)]) (st' := [.ref 3]) rfl ?_
    refine En_callV rfl rfl rfl rfl rfl rfl rfl rfl (by decide +kernel : TG 3 = 3) (by decide +kernel) rfl (c_75x σ14 h15 f ((h16 _ _ (inW (by decide +kernel : TG 3 = 3) (by decide +kernel))).trans h_f) h22) (by decide) (by decide) (fun v30 σ31 h29 => ?_)
    obtain ⟨h32, h33, z35, h36, z37, rfl, h34⟩ := h29
    have h38 := h34.2.2.2.2.2.2.2.2
    have h39 := Fr_trans h19 h33 (by decide +kernel)
    obtain ⟨S40, h41⟩ : ∃ q : PS, q = tW By Nb S20 := ⟨_, rfl⟩
    have h42 : CT By Nb σ31 S40 := by rw [h41]; exact h38.1
    have h43 := CT_k h42 h36
    have h44 : Imp (S40.1 = 0) (z37.toInt = wyV By Nb S20) := fun z => Imp_m h38.2 (by rw [← h41]; exact z)
    have h45 : Imp (S40.1 = 0) (S20.1 = 0) := fun z => tW_g (by rw [← h41]; exact z)
    have h46 : S40.2.2.2 = S20.2.2.2 := by rw [h41]; exact tW_w
    have h47 := KN_fr hP h26 h33 (by decide +kernel)
    have h48 : S40.2.2.2 = Sp.2.2.2 := h46.trans h27
    have o49 : OUT σ0 σ31 a := OUT_fr o28 h33 (by decide +kernel)
    refine En_Ps 3 (pc' := 25) (lv' := [(2, .int z37), (0, .ref 3), (1, .ref a)]) (st' := [.ref 3, .ref 3]) rfl ?_
    refine En_ldcS (i := 14) rfl rfl rfl ?_
    refine En_callV rfl rfl rfl rfl rfl rfl rfl rfl (by decide +kernel : TG 3 = 3) (by decide +kernel) rfl (c_71s14x σ31 h32 h42) (by decide) (by decide) (fun v51 σ52 h50 => ?_)
    obtain ⟨h53, h54, z56, rfl, h55⟩ := h50
    have h57 := h55.2.2
    obtain rfl : σ31 = σ52 := Fr_nil h54
    have h58 := h57
    refine En_callV rfl rfl rfl rfl rfl rfl rfl rfl (by decide +kernel : TG 3 = 3) (by decide +kernel) rfl (c_59x σ31 h32 z56 (geI rfl (by omega)) (leI rfl (by omega)) z35 h36 h42) (by decide) (by decide) (fun v60 σ61 h59 => ?_)
    obtain ⟨h62, h63, z65, h66, rfl, h64⟩ := h59
    have h67 := h64.2.2.2.2.2.2.2
    have h68 := Fr_trans h39 h63 (by decide +kernel)
    have h69 : pss By Nb z56.toInt S40 = pss By Nb (iW By Nb 14 S40) S40 := pss_cg2 (fun zz => by (try have i0 := Imp_m h58 (by omega)); (try have i1 := Imp_m h45 (by omega)); (try have i2 := Imp_m h44 (by omega)); (try have i3 := Imp_m h34.2.2.2.2.2.2.2.1 (by omega)); omega)
    obtain ⟨S70, h71⟩ : ∃ q : PS, q = pss By Nb (iW By Nb 14 S40) S40 := ⟨_, rfl⟩
    have h72 : CT By Nb σ61 S70 := by rw [h71]; exact (CT_eq h67 h69)
    have h73 := CT_k h72 h66
    have h74 : S70.2.2.2 = S40.2.2.2 := by rw [h71]; exact pss_w
    have h75 : Imp (S70.1 = 0) (S40.1 = 0) := fun z => (pss_g (by rw [h69, ← h71]; exact z)).1
    have h76 : Imp (S70.1 = 0) (z56.toInt = 1) := fun z => (pss_g (by rw [h69, ← h71]; exact z)).2.1
    have h77 := KN_fr hP h47 h63 (by decide +kernel)
    have h78 : S70.2.2.2 = Sp.2.2.2 := h74.trans h48
    have o79 : OUT σ0 σ61 a := OUT_fr o49 h63 (by decide +kernel)
    refine En_Ps 3 (pc' := 37) (lv' := [(2, .int z37), (0, .ref 3), (1, .ref a)]) (st' := [.int (((Int8.ofInt 50).toInt32)), .int ((Int32.ofInt 0)), .ref 3]) rfl ?_
    have := (by decide : ((Int32.ofInt 0)).toInt = 0)
    have := (by decide : (((Int8.ofInt 50).toInt32)).toInt = 50)
    refine En_callV rfl rfl rfl rfl rfl rfl rfl rfl (by decide +kernel : TG 3 = 3) (by decide +kernel) rfl (c_73x σ61 h62 ((Int32.ofInt 0)) (((Int8.ofInt 50).toInt32)) z65 h66 h72) (by decide) (by decide) (fun v81 σ82 h80 => ?_)
    obtain ⟨h83, h84, z86, h87, z88, rfl, h85⟩ := h80
    have h89 := h85.2.2.2.2.2.2.2.2.2.2
    have h90 := Fr_trans h68 h84 (by decide +kernel)
    have h91 : tN By Nb ((Int32.ofInt 0)).toInt (((Int8.ofInt 50).toInt32)).toInt S70 = tN By Nb (0) (50) S70 := tN_cg2 (fun zz => by omega) (fun zz => by omega)
    obtain ⟨S92, h93⟩ : ∃ q : PS, q = tN By Nb (0) (50) S70 := ⟨_, rfl⟩
    have h94 : CT By Nb σ82 S92 := by rw [h93]; exact (CT_eq h89.1 h91)
    have h95 := CT_k h94 h87
    have h96 : Imp (S92.1 = 0) (z88.toInt = tV By Nb S70.2.2.1) := fun z => Imp_m h89.2 (by rw [h91, ← h93]; exact z)
    have h97 : Imp (S92.1 = 0) (S70.1 = 0 ∧ tK By Nb S70.2.2.1 = 2 ∧ 0 ≤ tV By Nb S70.2.2.1 ∧ tV By Nb S70.2.2.1 ≤ 50) := fun z => tN_gg (by rw [← h93]; exact z)
    have h98 : S92.2.2.2 = S70.2.2.2 := by rw [h93]; exact tN_w
    have h99 := KN_fr hP h77 h84 (by decide +kernel)
    have h100 : S92.2.2.2 = Sp.2.2.2 := h98.trans h78
    have o101 : OUT σ0 σ82 a := OUT_fr o79 h84 (by decide +kernel)
    have h102 := Imp_m h85.2.2.2.2.2.2.2.2.1 (by omega)
    have h103 := Imp_m h85.2.2.2.2.2.2.2.2.2.1 (by omega)
    refine En_Ps 2 (pc' := 42) (lv' := [(3, .int z88), (2, .int z37), (0, .ref 3), (1, .ref a)]) (st' := [.ref 3]) rfl ?_
    refine En_getK (j := 5) h87 rfl rfl rfl (by decide +kernel : TG 3 = 3) (by decide +kernel) ?_
    refine En_iNe _ rfl rfl (fun h104 => ?_) (fun h104 => ?_)
    · have h105 := Imp_m h85.2.2.2.2.2.2.2.1 (by omega)
      have h106 : fDoor By Nb Sp = S92 := by unfold fDoor; (try dsimp only); first | (rw [← h21, ← h41, ← h71, ← h93]; first | done | rfl) | (rw [← h21, ← h41, ← h71, ← h93]; rw [if_pos (by omega)]; first | done | rfl) | (rw [← h21, ← h41, ← h71, ← h93]; rw [if_neg (by omega)]; first | done | rfl) | (rw [← h21, ← h41, ← h71, ← h93]; rw [if_neg (by omega), if_pos (by omega)]; first | done | rfl) | (rw [← h21, ← h41, ← h71, ← h93]; rw [if_neg (by omega), if_neg (by omega)]; first | done | rfl) | (rw [← h21, ← h41, ← h71, ← h93]; rw [if_neg (by omega), if_neg (by omega), if_neg (by omega)]; first | done | rfl)
      exact En_ret (v := none) rfl rfl rfl ⟨h83, h90, z86, h87, rfl, ⟨o101, by omega, by omega, by omega, by omega, by omega, by omega, by omega, (by rw [h106]; exact ⟨h94, fun z => absurd z (by omega)⟩)⟩⟩
    · have h107 := Imp_m h34.2.2.2.2.2.2.2.1 (by omega)
      have h108 := Imp_m h85.2.2.2.2.2.2.1 (by omega)
      try have h109 := Imp_m h97 (by omega)
      try have h110 := Imp_m h96 (by omega)
      try have h111 := Imp_m h76 (by omega)
      try have h112 := Imp_m h75 (by omega)
      try have h113 := Imp_m h58 (by omega)
      try have h114 := Imp_m h45 (by omega)
      try have h115 := Imp_m h44 (by omega)
      refine En_Ps 1 (pc' := 49) (lv' := [(3, .int z88), (2, .int z37), (0, .ref 3), (1, .ref a)]) (st' := [.ref a]) rfl ?_
      refine En_getR (j := 4) (g' := 19) (u := 0) rfl rfl rfl ha (by decide +kernel) h83 (by decide +kernel) (fun a117 h116 ha117 => ?_)
      refine En_Ps 1 (pc' := 53) (lv' := [(3, .int z88), (2, .int z37), (0, .ref 3), (1, .ref a)]) (st' := [.ref a, .ref a117]) rfl ?_
      refine En_getK (j := 3) ((h84 _ _ (inW ha (by decide +kernel))).trans ((h63 _ _ (inW ha (by decide +kernel))).trans ((h33 _ _ (inW ha (by decide +kernel))).trans ((h16 _ _ (inW ha (by decide +kernel))).trans h2)))) rfl rfl rfl ha (by decide +kernel) ?_
      refine En_aald (g' := 28) (u := 0) rfl rfl ha117 (by decide +kernel) h83 (by omega) (lnI (by decide +kernel : LN _ = 4) (by omega)) (FTsgl (by decide +kernel)) (fun a119 h118 ha119 => ?_)
      have h120 := DRc (d := z3.toInt) (FXP_fr hP hX h90 (by decide +kernel)) h116 h118 (by omega) (by omega)
      have h121 := lc_d (d := z3.toInt) (by omega) (by omega)
      obtain ⟨a124, h123, ha124⟩ := WT_peekR (g := 28) (j := 0) (g' := 20) (u := 0) h83 ha119 (by decide +kernel) (by decide +kernel)
      have h122 := DLc (d := z3.toInt) (FXP_fr hP hX h90 (by decide +kernel)) h120 h123 (by omega) (by omega)
      refine En_Ps 2 (pc' := 59) (lv' := [(3, .int z88), (2, .int z37), (0, .ref 3), (1, .ref a)]) (st' := [.int z88, .int z37, .ref a119]) rfl ?_
      refine En_callV rfl rfl rfl rfl rfl rfl rfl rfl ha119 (by decide +kernel) rfl (c_12x σ82 h83 a119 ha119 z37 z88 (geI rfl (by omega)) (leI rfl (by omega)) (geI rfl (by omega)) (leI rfl (by omega)) a124 ha124 h123) (by decide) (by decide) (fun v126 σ127 h125 => ?_)
      obtain ⟨h128, h129, rfl, h130⟩ := h125
      have h131 := h130
      have h132 := Fr_trans h90 h129 (by decide +kernel)
      obtain ⟨S133, h134⟩ : ∃ q : PS, q = wst (wst (wst (wst S92 (10 + 4 * Sp.2.2.2 2) (wyV By Nb S20)) (10 + 4 * Sp.2.2.2 2 + 1) (tV By Nb S70.2.2.1)) (10 + 4 * Sp.2.2.2 2 + 2) 0) (10 + 4 * Sp.2.2.2 2 + 3) (-1) := ⟨_, rfl⟩
      have h135 : CT By Nb σ127 S133 := by rw [h134]; exact CT_wst (CT_wst (CT_wst (CT_wst (CT_fr h94 h129 (by decide +kernel)))))
      have h138 : z3.toInt = Sp.2.2.2 2 := by omega
      have h136 : KN σ127 a (uPd (uPd (uPd (uPd Sp.2.2.2 (10 + 4 * Sp.2.2.2 2) (wyV By Nb S20)) (10 + 4 * Sp.2.2.2 2 + 1) (tV By Nb S70.2.2.1)) (10 + 4 * Sp.2.2.2 2 + 2) 0) (10 + 4 * Sp.2.2.2 2 + 3) (-1)) (fun t => ((((act Sp.2.2.2 t ∨ t = 10 + 4 * Sp.2.2.2 2) ∨ t = 10 + 4 * Sp.2.2.2 2 + 1) ∨ t = 10 + 4 * Sp.2.2.2 2 + 2) ∨ t = 10 + 4 * Sp.2.2.2 2 + 3)) := KN_w (KN_bgn (d := Sp.2.2.2 2) h99 h131 (by omega) (by omega) (by rw [← h138]; exact h120) (by rw [← h138]; exact h122)) (uPd4_cg (by omega) (by omega))
      have h137 : S133.2.2.2 = (uPd (uPd (uPd (uPd Sp.2.2.2 (10 + 4 * Sp.2.2.2 2) (wyV By Nb S20)) (10 + 4 * Sp.2.2.2 2 + 1) (tV By Nb S70.2.2.1)) (10 + 4 * Sp.2.2.2 2 + 2) 0) (10 + 4 * Sp.2.2.2 2 + 3) (-1)) := by rw [h134]; show uPd (uPd (uPd (uPd S92.2.2.2 _ _) _ _) _ _) _ _ = _; rw [h100]
      have h139 : S133.1 = S92.1 := by rw [h134]; rfl
      have o140 : OUT σ0 σ127 a := OUT_bgn o101 h131 (by omega) (by omega)
      refine En_Ps 2 (pc' := 64) (lv' := [(3, .int z88), (2, .int z37), (0, .ref 3), (1, .ref a)]) (st' := [.ref a, .ref a]) rfl ?_
      refine En_getK (j := 3) ((h129 _ _ (inW ha (by decide +kernel))).trans ((h84 _ _ (inW ha (by decide +kernel))).trans ((h63 _ _ (inW ha (by decide +kernel))).trans ((h33 _ _ (inW ha (by decide +kernel))).trans ((h16 _ _ (inW ha (by decide +kernel))).trans h2))))) rfl rfl rfl ha (by decide +kernel) ?_
      refine En_Ps 2 (pc' := 69) (lv' := [(3, .int z88), (2, .int z37), (0, .ref 3), (1, .ref a)]) (st' := [.int ((z3 + ((Int32.ofInt 1)))), .ref a]) rfl ?_
      refine En_top (addI rfl (by decide : (Int32.ofInt 1).toInt = 1) (by omega) (by omega)) (fun z141 h142 => ?_)
      refine En_put (j := 3) rfl rfl rfl ha (by decide +kernel) rfl (vI (l := 0) (u := 4) (by decide +kernel) rfl (by omega) (by omega)) h128 h132 (by decide +kernel) (fun σ143 h144 h145 h146 h147 => ?_)
      obtain ⟨S148, h149⟩ : ∃ q : PS, q = wst S133 (2) (Sp.2.2.2 2 + 1) := ⟨_, rfl⟩
      have h150 : CT By Nb σ143 S148 := by rw [h149]; exact CT_wst (CT_ne h135 h147 (by have := hP; unfold PLA at this; omega))
      have h151 : KN σ143 a (uPd (uPd (uPd (uPd (uPd Sp.2.2.2 (10 + 4 * Sp.2.2.2 2) (wyV By Nb S20)) (10 + 4 * Sp.2.2.2 2 + 1) (tV By Nb S70.2.2.1)) (10 + 4 * Sp.2.2.2 2 + 2) 0) (10 + 4 * Sp.2.2.2 2 + 3) (-1)) (2) (Sp.2.2.2 2 + 1)) (fun t => (((((act Sp.2.2.2 t ∨ t = 10 + 4 * Sp.2.2.2 2) ∨ t = 10 + 4 * Sp.2.2.2 2 + 1) ∨ t = 10 + 4 * Sp.2.2.2 2 + 2) ∨ t = 10 + 4 * Sp.2.2.2 2 + 3) ∨ t = 2)) := KN_st h136 h146 h147 (by omega) (by omega) (by rw [lcO_lt (by decide) (by decide), Nat.add_zero]) (by decide) (by (try have i0 := Imp_m h97 (by omega)); (try have i1 := Imp_m h96 (by omega)); (try have i2 := Imp_m h76 (by omega)); (try have i3 := Imp_m h75 (by omega)); (try have i4 := Imp_m h58 (by omega)); (try have i5 := Imp_m h45 (by omega)); (try have i6 := Imp_m h44 (by omega)); (try have i7 := Imp_m h64.2.2.2.2.1 (by omega)); (try have i8 := Imp_m h64.2.2.2.2.2.2.1 (by omega)); (try have i9 := Imp_m h85.2.2.2.2.2.2.2.1 (by omega)); omega)
      have h152 : S148.2.2.2 = (uPd (uPd (uPd (uPd (uPd Sp.2.2.2 (10 + 4 * Sp.2.2.2 2) (wyV By Nb S20)) (10 + 4 * Sp.2.2.2 2 + 1) (tV By Nb S70.2.2.1)) (10 + 4 * Sp.2.2.2 2 + 2) 0) (10 + 4 * Sp.2.2.2 2 + 3) (-1)) (2) (Sp.2.2.2 2 + 1)) := by rw [h149]; show uPd S133.2.2.2 _ _ = _; rw [h137]
      have h153 : S148.1 = S133.1 := by rw [h149]; rfl
      have h154 := CT_k h150 ((h147 _ _ (Or.inr (by decide))).trans ((h129 _ _ (inW (by decide +kernel : TG 3 = 3) (by decide +kernel))).trans h87))
      have o155 : OUT σ0 σ143 a := OUT_st o140 h147 (by omega)
      have h156 : fDoor By Nb Sp = S148 := by unfold fDoor; (try dsimp only); first | (rw [← h21, ← h41, ← h71, ← h93, ← h134, ← h149]; first | done | rfl) | (rw [← h21, ← h41, ← h71, ← h93, ← h134, ← h149]; rw [if_pos (by omega)]; first | done | rfl) | (rw [← h21, ← h41, ← h71, ← h93, ← h134, ← h149]; rw [if_neg (by omega)]; first | done | rfl) | (rw [← h21, ← h41, ← h71, ← h93, ← h134, ← h149]; rw [if_neg (by omega), if_pos (by omega)]; first | done | rfl) | (rw [← h21, ← h41, ← h71, ← h93, ← h134, ← h149]; rw [if_neg (by omega), if_neg (by omega)]; first | done | rfl) | (rw [← h21, ← h41, ← h71, ← h93, ← h134, ← h149]; rw [if_neg (by omega), if_neg (by omega), if_neg (by omega)]; first | done | rfl)
      exact En_ret (v := none) rfl rfl rfl ⟨h144, h145, z86, ((h147 _ _ (Or.inr (by decide))).trans ((h129 _ _ (inW (by decide +kernel : TG 3 = 3) (by decide +kernel))).trans h87)), rfl, ⟨o155, by omega, by omega, by omega, by omega, by omega, by omega, by omega, (by rw [h156]; exact ⟨h150, fun zz => by rw [h152]; exact KN_sub h151 (fun t t0 t1 y => ADr (act_dr (by omega) (by omega) y))⟩)⟩⟩
  · refine En_Ps 2 (pc' := 10) (lv' := [(0, .ref 3), (1, .ref a)]) (st' := [.int ((Int32.ofInt 3)), .ref 3]) rfl ?_
    have := (by decide : ((Int32.ofInt 3)).toInt = 3)
    refine En_callV rfl rfl rfl rfl rfl rfl rfl rfl (by decide +kernel : TG 3 = 3) (by decide +kernel) rfl (c_54x σ0 hσ0 ((Int32.ofInt 3)) (geI (by decide : (Int32.ofInt 3).toInt = 3) (by omega)) (leI (by decide : (Int32.ofInt 3).toInt = 3) (by omega)) f h_f hC) (by decide) (by decide) (fun v158 σ159 h157 => ?_)
    obtain ⟨h160, h161, z163, h164, rfl, h162⟩ := h157
    have h165 := h162.2.2.2.2.2.2
    have h166 := Fr_trans hF0 h161 (by decide +kernel)
    obtain ⟨S167, h168⟩ : ∃ q : PS, q = err By Nb 3 Sp := ⟨_, rfl⟩
    have h169 : CT By Nb σ159 S167 := by rw [h168]; exact (CT_eq h165 (err_cg (by omega)))
    have h170 := CT_k h169 h164
    have h171 : S167.2.2.2 = Sp.2.2.2 := by rw [h168]; exact err_w
    have h172 := KN_fr hP hK h161 (by decide +kernel)
    have h173 : S167.2.2.2 = Sp.2.2.2 := h171.trans (rfl : Sp.2.2.2 = Sp.2.2.2)
    have o174 : OUT σ0 σ159 a := OUT_fr OUT_0 h161 (by decide +kernel)
    have h175 : fDoor By Nb Sp = S167 := by unfold fDoor; (try dsimp only); first | (rw [← h168]; first | done | rfl) | (rw [← h168]; rw [if_pos (by omega)]; first | done | rfl) | (rw [← h168]; rw [if_neg (by omega)]; first | done | rfl) | (rw [← h168]; rw [if_neg (by omega), if_pos (by omega)]; first | done | rfl) | (rw [← h168]; rw [if_neg (by omega), if_neg (by omega)]; first | done | rfl) | (rw [← h168]; rw [if_neg (by omega), if_neg (by omega), if_neg (by omega)]; first | done | rfl)
    exact En_ret (v := none) rfl rfl rfl ⟨h160, h166, z163, h164, rfl, ⟨o174, by omega, by omega, by omega, by omega, by omega, by omega, by omega, (by rw [h175]; exact ⟨h169, fun z => absurd z (by omega)⟩)⟩⟩
/-- DoorSchool$Reader.readSaid(LDoorSchool$Plan;LDoorSchool$Lessons;)V -/
abbrev P_69x (σ0 : SG) (By : Int → Int) (Nb : Int) (Sp : PS) (ix : Int) (jx : Int) (a : Nat) (b : Nat) (f : Int32) (sg : Int32) : PO := fun v σ => WT σ ∧ Fr [(3, 1), (3, 2), (3, 3), (3, 4), (3, 5), (3, 6), (20, 2), (21, 0), (22, 0)] σ0 σ ∧ ∃ f1 : Int32, (σ 3)[5]? = some (.int f1) ∧ v = none ∧ OUT σ0 σ a ∧ -f1.toInt ≤ 0 ∧ f1.toInt - 3 ≤ 0 ∧ -f1.toInt + f.toInt ≤ 0 ∧ f1.toInt - f.toInt - 3 ≤ 0 ∧ -f1.toInt + sg.toInt - 4 ≤ 0 ∧ f1.toInt - sg.toInt - 3 ≤ 0 ∧ f.toInt - f1.toInt ≤ 0 ∧ (CT By Nb σ (fSaid By Nb ix jx Sp) ∧ ((fSaid By Nb ix jx Sp).1 = 0 → KN σ a (fSaid By Nb ix jx Sp).2.2.2 (fun t => ((act Sp.2.2.2 t ∨ t = ix) ∨ t = ix + 1) ∨ t = jx)))
set_option maxRecDepth 10000 in
set_option maxHeartbeats 4000000 in
theorem c_69x {By : Int → Int} {Nb : Int} {Sp : PS} {ix : Int} {jx : Int} (σ0 : SG) (hσ0 : WT σ0) (a : Nat) (ha : TG a = 18) (b : Nat) (hb : TG b = 20) (f : Int32) (h_f : (σ0 3)[5]? = some (.int f)) (sg : Int32) (h_sg : (σ0 a)[1]? = some (.int sg)) (hp0 : -sg.toInt ≤ 0) (hC : CT By Nb σ0 Sp) (hg : Sp.1 = 0) (hP : PLA a) (hX : FXP σ0 a) (hK : KN σ0 a Sp.2.2.2 (act Sp.2.2.2)) (hL : LSN σ0 a b Sp.2.2.2 ix jx) : En 5 112 none mr_69 (P_69x σ0 By Nb Sp ix jx a b f sg) 0 [(0, .ref 3), (1, .ref a), (2, .ref b)] [] σ0 := by
  obtain ⟨hl_f, hu_f⟩ := WT_int hσ0 (g := 3) (by decide +kernel) (by decide +kernel) (l := 0) (u := 3) (by decide +kernel) h_f
  obtain ⟨hl_sg, hu_sg⟩ := WT_int hσ0 (g := 18) ha (by decide +kernel) (l := (-1)) (u := 4) (by decide +kernel) h_sg
  have hF0 : Fr [(3, 1), (3, 2), (3, 3), (3, 4), (3, 5), (3, 6), (20, 2), (21, 0), (22, 0)] σ0 σ0 := Fr_rfl
  have h1 := CT_k hC h_f
  have h2 : Sp.2.2.2 0 = sg.toInt := KN_v hK (Or.inl (by decide)) (by decide) (by decide) (by rw [lcO_lt (by decide) (by decide), Nat.add_zero]) rfl h_sg
  have h3 : pI (Sp.2.2.2 0) = pI (sg.toInt) := by rw [h2]
  obtain ⟨L1, L2, L3, L4, L5, L6, L7, L8, L9, L10, L11, L12, L13, L14, L15⟩ := id hL
  obtain ⟨a5, h4, ha5⟩ := WT_peekR (g := 20) (j := 0) (g' := 21) (u := 0) hσ0 hb (by decide +kernel) (by decide +kernel)
  obtain ⟨a7, h6, ha7⟩ := WT_peekR (g := 20) (j := 1) (g' := 22) (u := 0) hσ0 hb (by decide +kernel) (by decide +kernel)
  obtain ⟨z9, h8, h10, h11⟩ := WT_peekI hσ0 hb (by decide +kernel : FT 20 2 = (0, 0, 13)) (by decide +kernel)
  have h12 : a5 = b + 1 := ref_uniq h4 L12
  have h13 : a7 = b + 2 := ref_uniq h6 L13
  have h14 : Sp.2.2.2 jx = z9.toInt := KN_v hK L11 L9 L10 L1 (by rw [L2]; rfl) h8
  have := lc_0 L9 L10
  have := lc_0 (i := ix + 1) (by omega) L8
  have := lc_0 (i := ix) (by omega) (by omega)
  refine En_Ps 3 (pc' := 3) (lv' := [(0, .ref 3), (1, .ref a), (2, .ref b)]) (st' := [.ref a, .int ((Int32.ofInt 0)), .ref 3]) rfl ?_
  refine En_callV rfl rfl rfl rfl rfl rfl rfl rfl ha (by decide +kernel) rfl (c_51x σ0 hσ0 a ha sg h_sg (by omega)) (by decide) (by decide) (fun v16 σ17 h15 => ?_)
  obtain ⟨h18, h19, z21, rfl, h20⟩ := h15
  have h22 := h20.2.2
  obtain rfl : σ0 = σ17 := Fr_nil h19
  have h23 := h22
  have h24 : pI (Sp.2.2.2 0) = z21.toInt := by rw [(rfl : Sp.2.2.2 = Sp.2.2.2)]; omega
  refine En_Ps 2 (pc' := 8) (lv' := [(0, .ref 3), (1, .ref a), (2, .ref b)]) (st' := [.int ((z21 - ((Int32.ofInt 1)))), .int ((Int32.ofInt 0)), .ref 3]) rfl ?_
  refine En_top (subI rfl (by decide : (Int32.ofInt 1).toInt = 1) (by omega) (by omega)) (fun z25 h26 => ?_)
  have := (by decide : ((Int32.ofInt 0)).toInt = 0)
  refine En_callV rfl rfl rfl rfl rfl rfl rfl rfl (by decide +kernel : TG 3 = 3) (by decide +kernel) rfl (c_73x σ0 hσ0 ((Int32.ofInt 0)) z25 f h_f hC) (by decide) (by decide) (fun v28 σ29 h27 => ?_)
  obtain ⟨h30, h31, z33, h34, z35, rfl, h32⟩ := h27
  have h36 := h32.2.2.2.2.2.2.2.2.2.2
  have h37 := Fr_trans hF0 h31 (by decide +kernel)
  have h38 : tN By Nb ((Int32.ofInt 0)).toInt z25.toInt Sp = tN By Nb (0) (pI (Sp.2.2.2 0) - 1) Sp := tN_cg2 (fun zz => by omega) (fun zz => by omega)
  obtain ⟨S39, h40⟩ : ∃ q : PS, q = tN By Nb (0) (pI (Sp.2.2.2 0) - 1) Sp := ⟨_, rfl⟩
  have h41 : CT By Nb σ29 S39 := by rw [h40]; exact (CT_eq h36.1 h38)
  have h42 := CT_k h41 h34
  have h43 : Imp (S39.1 = 0) (z35.toInt = tV By Nb Sp.2.2.1) := fun z => Imp_m h36.2 (by rw [h38, ← h40]; exact z)
  have h44 : Imp (S39.1 = 0) (Sp.1 = 0 ∧ tK By Nb Sp.2.2.1 = 2 ∧ 0 ≤ tV By Nb Sp.2.2.1 ∧ tV By Nb Sp.2.2.1 ≤ pI (Sp.2.2.2 0) - 1) := fun z => tN_gg (by rw [← h40]; exact z)
  have h45 : S39.2.2.2 = Sp.2.2.2 := by rw [h40]; exact tN_w
  have h46 := KN_fr hP hK h31 (by decide +kernel)
  have h47 : S39.2.2.2 = Sp.2.2.2 := h45.trans (rfl : Sp.2.2.2 = Sp.2.2.2)
  have o48 : OUT σ0 σ29 a := OUT_fr OUT_0 h31 (by decide +kernel)
  have h49 := Imp_m h32.2.2.2.2.2.2.2.2.1 (by omega)
  have h50 := Imp_m h32.2.2.2.2.2.2.2.2.2.1 (by omega)
  refine En_Ps 1 (pc' := 12) (lv' := [(3, .int z35), (0, .ref 3), (1, .ref a), (2, .ref b)]) (st' := []) rfl ?_
  refine En_Ps 1 (pc' := 13) (lv' := [(3, .int z35), (0, .ref 3), (1, .ref a), (2, .ref b)]) (st' := [.ref 3]) rfl ?_
  refine En_ldcS (i := 8) rfl rfl rfl ?_
  refine En_callV rfl rfl rfl rfl rfl rfl rfl rfl (by decide +kernel : TG 3 = 3) (by decide +kernel) rfl (c_71s8x σ29 h30 h41) (by decide) (by decide) (fun v52 σ53 h51 => ?_)
  obtain ⟨h54, h55, z57, rfl, h56⟩ := h51
  have h58 := h56.2.2
  obtain rfl : σ29 = σ53 := Fr_nil h55
  have h59 := h58
  refine En_iEq _ rfl rfl (fun h60 => ?_) (fun h60 => ?_)
  · refine En_Ps 5 (pc' := 32) (lv' := [(4, .int ((Int32.ofInt 0))), (3, .int z35), (0, .ref 3), (1, .ref a), (2, .ref b)]) (st' := [.int ((Int32.ofInt 1)), .int ((Int32.ofInt 0)), .ref 3]) rfl ?_
    refine En_icEq _ (by decide : (Int32.ofInt 0).toInt = 0) (by decide : (Int32.ofInt 1).toInt = 1) rfl (fun hx => by exfalso; have := Imp_m h32.2.2.2.2.2.2.1 (by omega); have := Imp_m h32.2.2.2.2.2.2.2.1 (by omega); omega) (fun h61 => ?_)
    refine En_Ps 1 (pc' := 36) (lv' := [(4, .int ((Int32.ofInt 0))), (3, .int z35), (0, .ref 3), (1, .ref a), (2, .ref b)]) (st' := [.ref 3, .ref 3]) rfl ?_
    refine En_ldcS (i := 12) rfl rfl rfl ?_
    refine En_callV rfl rfl rfl rfl rfl rfl rfl rfl (by decide +kernel : TG 3 = 3) (by decide +kernel) rfl (c_71s12x σ29 h30 h41) (by decide) (by decide) (fun v63 σ64 h62 => ?_)
    obtain ⟨h65, h66, z68, rfl, h67⟩ := h62
    have h69 := h67.2.2
    obtain rfl : σ29 = σ64 := Fr_nil h66
    have h70 := h69
    refine En_iEq _ rfl rfl (fun h71 => ?_) (fun h71 => ?_)
    · refine En_Ps 1 (pc' := 49) (lv' := [(4, .int ((Int32.ofInt 0))), (3, .int z35), (0, .ref 3), (1, .ref a), (2, .ref b)]) (st' := [.int ((Int32.ofInt 0)), .ref 3]) rfl ?_
      have := (by decide : ((Int32.ofInt 0)).toInt = 0)
      refine En_callV rfl rfl rfl rfl rfl rfl rfl rfl (by decide +kernel : TG 3 = 3) (by decide +kernel) rfl (c_59x σ29 h30 ((Int32.ofInt 0)) (geI (by decide : (Int32.ofInt 0).toInt = 0) (by omega)) (leI (by decide : (Int32.ofInt 0).toInt = 0) (by omega)) z33 h34 h41) (by decide) (by decide) (fun v73 σ74 h72 => ?_)
      obtain ⟨h75, h76, z78, h79, rfl, h77⟩ := h72
      have h80 := h77.2.2.2.2.2.2.2
      have h81 := Fr_trans h37 h76 (by decide +kernel)
      have h82 : pss By Nb ((Int32.ofInt 0)).toInt S39 = dD By Nb S39 := dDc (fun zz => by (try have i0 := Imp_m h70 (by omega)); (try have i1 := Imp_m h59 (by omega)); (try have i2 := Imp_m h44 (by omega)); (try have i3 := Imp_m h43 (by omega)); (try have i4 := Imp_m h32.2.2.2.2.2.2.1 (by omega)); (try have i5 := Imp_m h32.2.2.2.2.2.2.2.1 (by omega)); omega)
      obtain ⟨S83, h84⟩ : ∃ q : PS, q = dD By Nb S39 := ⟨_, rfl⟩
      have h85 : CT By Nb σ74 S83 := by rw [h84]; exact (CT_eq h80 h82)
      have h86 := CT_k h85 h79
      have h87 : S83.2.2.2 = S39.2.2.2 := by rw [h84]; exact pss_w
      have h88 : Imp (S83.1 = 0) (S39.1 = 0) := fun z => (pss_g (by rw [h82, ← h84]; exact z)).1
      have h89 : Imp (S83.1 = 0) (((Int32.ofInt 0)).toInt = 1) := fun z => (pss_g (by rw [h82, ← h84]; exact z)).2.1
      have h90 := KN_fr hP h46 h76 (by decide +kernel)
      have h91 : S83.2.2.2 = Sp.2.2.2 := h87.trans h47
      have o92 : OUT σ0 σ74 a := OUT_fr o48 h76 (by decide +kernel)
      have h93 := Imp_m h77.2.2.2.2.2.2.1 (by omega)
      refine En_Ps 1 (pc' := 53) (lv' := [(4, .int ((Int32.ofInt 0))), (3, .int z35), (0, .ref 3), (1, .ref a), (2, .ref b)]) (st' := [.ref 3]) rfl ?_
      refine En_getK (j := 5) h79 rfl rfl rfl (by decide +kernel : TG 3 = 3) (by decide +kernel) ?_
      refine En_iNe _ rfl rfl (fun h94 => ?_) (fun hx => by exfalso; have := Imp_m h32.2.2.2.2.2.2.1 (by omega); have := Imp_m h32.2.2.2.2.2.2.2.1 (by omega); omega)
      have h95 : fSaid By Nb ix jx Sp = S83 := by unfold fSaid; (try dsimp only); first | (rw [← h40, ← h84]; first | done | rfl) | (rw [← h40, ← h84]; rw [if_pos (by omega)]; first | done | rfl) | (rw [← h40, ← h84]; rw [if_neg (by omega)]; first | done | rfl) | (rw [← h40, ← h84]; rw [if_neg (by omega), if_pos (by omega)]; first | done | rfl) | (rw [← h40, ← h84]; rw [if_neg (by omega), if_neg (by omega)]; first | done | rfl) | (rw [← h40, ← h84]; rw [if_neg (by omega), if_neg (by omega), if_neg (by omega)]; first | done | rfl)
      exact En_ret (v := none) rfl rfl rfl ⟨h75, h81, z78, h79, rfl, ⟨o92, by omega, by omega, by omega, by omega, by omega, by omega, by omega, (by rw [h95]; exact ⟨h85, fun z => absurd z (by omega)⟩)⟩⟩
    · refine En_Ps 2 (pc' := 49) (lv' := [(4, .int ((Int32.ofInt 0))), (3, .int z35), (0, .ref 3), (1, .ref a), (2, .ref b)]) (st' := [.int ((Int32.ofInt 1)), .ref 3]) rfl ?_
      have := (by decide : ((Int32.ofInt 1)).toInt = 1)
      refine En_callV rfl rfl rfl rfl rfl rfl rfl rfl (by decide +kernel : TG 3 = 3) (by decide +kernel) rfl (c_59x σ29 h30 ((Int32.ofInt 1)) (geI (by decide : (Int32.ofInt 1).toInt = 1) (by omega)) (leI (by decide : (Int32.ofInt 1).toInt = 1) (by omega)) z33 h34 h41) (by decide) (by decide) (fun v97 σ98 h96 => ?_)
      obtain ⟨h99, h100, z102, h103, rfl, h101⟩ := h96
      have h104 := h101.2.2.2.2.2.2.2
      have h105 := Fr_trans h37 h100 (by decide +kernel)
      have h106 : pss By Nb ((Int32.ofInt 1)).toInt S39 = dD By Nb S39 := dDc (fun zz => by (try have i0 := Imp_m h70 (by omega)); (try have i1 := Imp_m h59 (by omega)); (try have i2 := Imp_m h44 (by omega)); (try have i3 := Imp_m h43 (by omega)); (try have i4 := Imp_m h32.2.2.2.2.2.2.1 (by omega)); (try have i5 := Imp_m h32.2.2.2.2.2.2.2.1 (by omega)); omega)
      obtain ⟨S107, h108⟩ : ∃ q : PS, q = dD By Nb S39 := ⟨_, rfl⟩
      have h109 : CT By Nb σ98 S107 := by rw [h108]; exact (CT_eq h104 h106)
      have h110 := CT_k h109 h103
      have h111 : S107.2.2.2 = S39.2.2.2 := by rw [h108]; exact pss_w
      have h112 : Imp (S107.1 = 0) (S39.1 = 0) := fun z => (pss_g (by rw [h106, ← h108]; exact z)).1
      have h113 : Imp (S107.1 = 0) (((Int32.ofInt 1)).toInt = 1) := fun z => (pss_g (by rw [h106, ← h108]; exact z)).2.1
      have h114 := KN_fr hP h46 h100 (by decide +kernel)
      have h115 : S107.2.2.2 = Sp.2.2.2 := h111.trans h47
      have o116 : OUT σ0 σ98 a := OUT_fr o48 h100 (by decide +kernel)
      have h117 := Imp_m h101.2.2.2.2.1 (by omega)
      refine En_Ps 1 (pc' := 53) (lv' := [(4, .int ((Int32.ofInt 0))), (3, .int z35), (0, .ref 3), (1, .ref a), (2, .ref b)]) (st' := [.ref 3]) rfl ?_
      refine En_getK (j := 5) h103 rfl rfl rfl (by decide +kernel : TG 3 = 3) (by decide +kernel) ?_
      refine En_iNe _ rfl rfl (fun h118 => ?_) (fun h118 => ?_)
      · have h119 := Imp_m h32.2.2.2.2.2.2.2.1 (by omega)
        have h120 : fSaid By Nb ix jx Sp = S107 := by unfold fSaid; (try dsimp only); first | (rw [← h40, ← h108]; first | done | rfl) | (rw [← h40, ← h108]; rw [if_pos (by omega)]; first | done | rfl) | (rw [← h40, ← h108]; rw [if_neg (by omega)]; first | done | rfl) | (rw [← h40, ← h108]; rw [if_neg (by omega), if_pos (by omega)]; first | done | rfl) | (rw [← h40, ← h108]; rw [if_neg (by omega), if_neg (by omega)]; first | done | rfl) | (rw [← h40, ← h108]; rw [if_neg (by omega), if_neg (by omega), if_neg (by omega)]; first | done | rfl)
        exact En_ret (v := none) rfl rfl rfl ⟨h99, h105, z102, h103, rfl, ⟨o116, by omega, by omega, by omega, by omega, by omega, by omega, by omega, (by rw [h120]; exact ⟨h109, fun z => absurd z (by omega)⟩)⟩⟩
      · have h121 := Imp_m h32.2.2.2.2.2.2.1 (by omega)
        try have h122 := Imp_m h113 (by omega)
        try have h123 := Imp_m h112 (by omega)
        try have h124 := Imp_m h70 (by omega)
        try have h125 := Imp_m h59 (by omega)
        try have h126 := Imp_m h44 (by omega)
        try have h127 := Imp_m h43 (by omega)
        refine En_Ps 3 (pc' := 63) (lv' := [(4, .int ((Int32.ofInt 0))), (3, .int z35), (0, .ref 3), (1, .ref a), (2, .ref b)]) (st' := [.int ((Int32.ofInt 0)), .int z35, .ref b]) rfl ?_
        have := (by decide : ((Int32.ofInt 0)).toInt = 0)
        refine En_callV rfl rfl rfl rfl rfl rfl rfl rfl hb (by decide +kernel) rfl (c_31x σ98 h99 b hb z35 ((Int32.ofInt 0)) (geI rfl (by omega)) (leI rfl (by omega)) (geI (by decide : (Int32.ofInt 0).toInt = 0) (by omega)) (leI (by decide : (Int32.ofInt 0).toInt = 0) (by omega)) a5 ha5 ((h100 _ _ (inW hb (by decide +kernel))).trans ((h31 _ _ (inW hb (by decide +kernel))).trans h4)) a7 ha7 ((h100 _ _ (inW hb (by decide +kernel))).trans ((h31 _ _ (inW hb (by decide +kernel))).trans h6)) z9 ((h100 _ _ (inW hb (by decide +kernel))).trans ((h31 _ _ (inW hb (by decide +kernel))).trans h8)) (by omega)) (by decide) (by decide) (fun v129 σ130 h128 => ?_)
        obtain ⟨h131, h132, z134, h135, rfl, h133⟩ := h128
        have h136 := h133.2.2.2.2
        have h137 := Fr_trans h105 h132 (by decide +kernel)
        obtain ⟨S138, h139⟩ : ∃ q : PS, q = wst (wst (wst S107 ix (tV By Nb Sp.2.2.1)) (ix + 1) (iW By Nb 8 S39)) jx (S107.2.2.2 jx + 1) := ⟨_, rfl⟩
        have h140 : CT By Nb σ130 S138 := by rw [h139]; exact CT_wst (CT_wst (CT_wst (CT_fr h109 h132 (by decide +kernel))))
        have h141 : KN σ130 a (uPd (uPd (uPd Sp.2.2.2 ix (tV By Nb Sp.2.2.1)) (ix + 1) (iW By Nb 8 S39)) jx (Sp.2.2.2 jx + 1)) (fun t => (((act Sp.2.2.2 t ∨ t = ix) ∨ t = ix + 1) ∨ t = jx)) := KN_w (KN_add (i := ix) (i' := ix + 1) (j := jx) h114 h136 L7 rfl L8 L9 L10 L1 L2 (by rw [h12]; exact L3) (by rw [L4]; exact h14) (by rw [h13]; exact L5) (by rw [L6]; exact h14) (by omega)) (uPd3_cg (by omega) (by omega) (by omega))
        have h142 : S138.2.2.2 = (uPd (uPd (uPd Sp.2.2.2 ix (tV By Nb Sp.2.2.1)) (ix + 1) (iW By Nb 8 S39)) jx (Sp.2.2.2 jx + 1)) := by rw [h139]; show uPd (uPd (uPd S107.2.2.2 _ _) _ _) _ (S107.2.2.2 jx + 1) = _; rw [h115]
        have h143 : S138.1 = S107.1 := by rw [h139]; rfl
        have o144 : OUT σ0 σ130 a := OUT_add o116 h136 (by omega) (by omega) (by omega)
        have h145 : fSaid By Nb ix jx Sp = S138 := by unfold fSaid; (try dsimp only); first | (rw [← h40, ← h108, ← h139]; first | done | rfl) | (rw [← h40, ← h108, ← h139]; rw [if_pos (by omega)]; first | done | rfl) | (rw [← h40, ← h108, ← h139]; rw [if_neg (by omega)]; first | done | rfl) | (rw [← h40, ← h108, ← h139]; rw [if_neg (by omega), if_pos (by omega)]; first | done | rfl) | (rw [← h40, ← h108, ← h139]; rw [if_neg (by omega), if_neg (by omega)]; first | done | rfl) | (rw [← h40, ← h108, ← h139]; rw [if_neg (by omega), if_neg (by omega), if_neg (by omega)]; first | done | rfl)
        exact En_ret (v := none) rfl rfl rfl ⟨h131, h137, z102, ((h132 _ _ (inW (by decide +kernel : TG 3 = 3) (by decide +kernel))).trans h103), rfl, ⟨o144, by omega, by omega, by omega, by omega, by omega, by omega, by omega, (by rw [h145]; exact ⟨h140, fun zz => by rw [h142]; exact h141⟩)⟩⟩
  · refine En_Ps 6 (pc' := 32) (lv' := [(4, .int ((Int32.ofInt 1))), (3, .int z35), (0, .ref 3), (1, .ref a), (2, .ref b)]) (st' := [.int ((Int32.ofInt 1)), .int ((Int32.ofInt 1)), .ref 3]) rfl ?_
    refine En_icEq _ (by decide : (Int32.ofInt 1).toInt = 1) (by decide : (Int32.ofInt 1).toInt = 1) rfl (fun h146 => ?_) (fun hx => by exfalso; have := Imp_m h32.2.2.2.2.2.2.1 (by omega); have := Imp_m h32.2.2.2.2.2.2.2.1 (by omega); omega)
    refine En_Ps 2 (pc' := 49) (lv' := [(4, .int ((Int32.ofInt 1))), (3, .int z35), (0, .ref 3), (1, .ref a), (2, .ref b)]) (st' := [.int ((Int32.ofInt 1)), .ref 3]) rfl ?_
    have := (by decide : ((Int32.ofInt 1)).toInt = 1)
    refine En_callV rfl rfl rfl rfl rfl rfl rfl rfl (by decide +kernel : TG 3 = 3) (by decide +kernel) rfl (c_59x σ29 h30 ((Int32.ofInt 1)) (geI (by decide : (Int32.ofInt 1).toInt = 1) (by omega)) (leI (by decide : (Int32.ofInt 1).toInt = 1) (by omega)) z33 h34 h41) (by decide) (by decide) (fun v148 σ149 h147 => ?_)
    obtain ⟨h150, h151, z153, h154, rfl, h152⟩ := h147
    have h155 := h152.2.2.2.2.2.2.2
    have h156 := Fr_trans h37 h151 (by decide +kernel)
    have h157 : pss By Nb ((Int32.ofInt 1)).toInt S39 = dD By Nb S39 := dDc (fun zz => by (try have i0 := Imp_m h59 (by omega)); (try have i1 := Imp_m h44 (by omega)); (try have i2 := Imp_m h43 (by omega)); (try have i3 := Imp_m h32.2.2.2.2.2.2.1 (by omega)); (try have i4 := Imp_m h32.2.2.2.2.2.2.2.1 (by omega)); omega)
    obtain ⟨S158, h159⟩ : ∃ q : PS, q = dD By Nb S39 := ⟨_, rfl⟩
    have h160 : CT By Nb σ149 S158 := by rw [h159]; exact (CT_eq h155 h157)
    have h161 := CT_k h160 h154
    have h162 : S158.2.2.2 = S39.2.2.2 := by rw [h159]; exact pss_w
    have h163 : Imp (S158.1 = 0) (S39.1 = 0) := fun z => (pss_g (by rw [h157, ← h159]; exact z)).1
    have h164 : Imp (S158.1 = 0) (((Int32.ofInt 1)).toInt = 1) := fun z => (pss_g (by rw [h157, ← h159]; exact z)).2.1
    have h165 := KN_fr hP h46 h151 (by decide +kernel)
    have h166 : S158.2.2.2 = Sp.2.2.2 := h162.trans h47
    have o167 : OUT σ0 σ149 a := OUT_fr o48 h151 (by decide +kernel)
    have h168 := Imp_m h152.2.2.2.2.1 (by omega)
    refine En_Ps 1 (pc' := 53) (lv' := [(4, .int ((Int32.ofInt 1))), (3, .int z35), (0, .ref 3), (1, .ref a), (2, .ref b)]) (st' := [.ref 3]) rfl ?_
    refine En_getK (j := 5) h154 rfl rfl rfl (by decide +kernel : TG 3 = 3) (by decide +kernel) ?_
    refine En_iNe _ rfl rfl (fun h169 => ?_) (fun h169 => ?_)
    · have h170 := Imp_m h32.2.2.2.2.2.2.2.1 (by omega)
      have h171 : fSaid By Nb ix jx Sp = S158 := by unfold fSaid; (try dsimp only); first | (rw [← h40, ← h159]; first | done | rfl) | (rw [← h40, ← h159]; rw [if_pos (by omega)]; first | done | rfl) | (rw [← h40, ← h159]; rw [if_neg (by omega)]; first | done | rfl) | (rw [← h40, ← h159]; rw [if_neg (by omega), if_pos (by omega)]; first | done | rfl) | (rw [← h40, ← h159]; rw [if_neg (by omega), if_neg (by omega)]; first | done | rfl) | (rw [← h40, ← h159]; rw [if_neg (by omega), if_neg (by omega), if_neg (by omega)]; first | done | rfl)
      exact En_ret (v := none) rfl rfl rfl ⟨h150, h156, z153, h154, rfl, ⟨o167, by omega, by omega, by omega, by omega, by omega, by omega, by omega, (by rw [h171]; exact ⟨h160, fun z => absurd z (by omega)⟩)⟩⟩
    · have h172 := Imp_m h32.2.2.2.2.2.2.1 (by omega)
      try have h173 := Imp_m h164 (by omega)
      try have h174 := Imp_m h163 (by omega)
      try have h175 := Imp_m h59 (by omega)
      try have h176 := Imp_m h44 (by omega)
      try have h177 := Imp_m h43 (by omega)
      refine En_Ps 3 (pc' := 63) (lv' := [(4, .int ((Int32.ofInt 1))), (3, .int z35), (0, .ref 3), (1, .ref a), (2, .ref b)]) (st' := [.int ((Int32.ofInt 1)), .int z35, .ref b]) rfl ?_
      have := (by decide : ((Int32.ofInt 1)).toInt = 1)
      refine En_callV rfl rfl rfl rfl rfl rfl rfl rfl hb (by decide +kernel) rfl (c_31x σ149 h150 b hb z35 ((Int32.ofInt 1)) (geI rfl (by omega)) (leI rfl (by omega)) (geI (by decide : (Int32.ofInt 1).toInt = 1) (by omega)) (leI (by decide : (Int32.ofInt 1).toInt = 1) (by omega)) a5 ha5 ((h151 _ _ (inW hb (by decide +kernel))).trans ((h31 _ _ (inW hb (by decide +kernel))).trans h4)) a7 ha7 ((h151 _ _ (inW hb (by decide +kernel))).trans ((h31 _ _ (inW hb (by decide +kernel))).trans h6)) z9 ((h151 _ _ (inW hb (by decide +kernel))).trans ((h31 _ _ (inW hb (by decide +kernel))).trans h8)) (by omega)) (by decide) (by decide) (fun v179 σ180 h178 => ?_)
      obtain ⟨h181, h182, z184, h185, rfl, h183⟩ := h178
      have h186 := h183.2.2.2.2
      have h187 := Fr_trans h156 h182 (by decide +kernel)
      obtain ⟨S188, h189⟩ : ∃ q : PS, q = wst (wst (wst S158 ix (tV By Nb Sp.2.2.1)) (ix + 1) (iW By Nb 8 S39)) jx (S158.2.2.2 jx + 1) := ⟨_, rfl⟩
      have h190 : CT By Nb σ180 S188 := by rw [h189]; exact CT_wst (CT_wst (CT_wst (CT_fr h160 h182 (by decide +kernel))))
      have h191 : KN σ180 a (uPd (uPd (uPd Sp.2.2.2 ix (tV By Nb Sp.2.2.1)) (ix + 1) (iW By Nb 8 S39)) jx (Sp.2.2.2 jx + 1)) (fun t => (((act Sp.2.2.2 t ∨ t = ix) ∨ t = ix + 1) ∨ t = jx)) := KN_w (KN_add (i := ix) (i' := ix + 1) (j := jx) h165 h186 L7 rfl L8 L9 L10 L1 L2 (by rw [h12]; exact L3) (by rw [L4]; exact h14) (by rw [h13]; exact L5) (by rw [L6]; exact h14) (by omega)) (uPd3_cg (by omega) (by omega) (by omega))
      have h192 : S188.2.2.2 = (uPd (uPd (uPd Sp.2.2.2 ix (tV By Nb Sp.2.2.1)) (ix + 1) (iW By Nb 8 S39)) jx (Sp.2.2.2 jx + 1)) := by rw [h189]; show uPd (uPd (uPd S158.2.2.2 _ _) _ _) _ (S158.2.2.2 jx + 1) = _; rw [h166]
      have h193 : S188.1 = S158.1 := by rw [h189]; rfl
      have o194 : OUT σ0 σ180 a := OUT_add o167 h186 (by omega) (by omega) (by omega)
      have h195 : fSaid By Nb ix jx Sp = S188 := by unfold fSaid; (try dsimp only); first | (rw [← h40, ← h159, ← h189]; first | done | rfl) | (rw [← h40, ← h159, ← h189]; rw [if_pos (by omega)]; first | done | rfl) | (rw [← h40, ← h159, ← h189]; rw [if_neg (by omega)]; first | done | rfl) | (rw [← h40, ← h159, ← h189]; rw [if_neg (by omega), if_pos (by omega)]; first | done | rfl) | (rw [← h40, ← h159, ← h189]; rw [if_neg (by omega), if_neg (by omega)]; first | done | rfl) | (rw [← h40, ← h159, ← h189]; rw [if_neg (by omega), if_neg (by omega), if_neg (by omega)]; first | done | rfl)
      exact En_ret (v := none) rfl rfl rfl ⟨h181, h187, z153, ((h182 _ _ (inW (by decide +kernel : TG 3 = 3) (by decide +kernel))).trans h154), rfl, ⟨o194, by omega, by omega, by omega, by omega, by omega, by omega, by omega, (by rw [h195]; exact ⟨h190, fun zz => by rw [h192]; exact h191⟩)⟩⟩
/-- DoorSchool$Reader.readLesson(LDoorSchool$Plan;)V -/
abbrev P_67x (σ0 : SG) (By : Int → Int) (Nb : Int) (Sp : PS) (a : Nat) (f : Int32) (sg : Int32) : PO := fun v σ => WT σ ∧ Fr [(3, 1), (3, 2), (3, 3), (3, 4), (3, 5), (3, 6), (20, 2), (21, 0), (22, 0)] σ0 σ ∧ ∃ f1 : Int32, (σ 3)[5]? = some (.int f1) ∧ v = none ∧ OUT σ0 σ a ∧ -f1.toInt ≤ 0 ∧ f1.toInt - 3 ≤ 0 ∧ -f1.toInt + f.toInt ≤ 0 ∧ f1.toInt - f.toInt - 3 ≤ 0 ∧ -f1.toInt + sg.toInt - 4 ≤ 0 ∧ f1.toInt - sg.toInt - 3 ≤ 0 ∧ f.toInt - f1.toInt ≤ 0 ∧ (CT By Nb σ (fLesson By Nb Sp) ∧ ((fLesson By Nb Sp).1 = 0 → KN σ a (fLesson By Nb Sp).2.2.2 (act (fLesson By Nb Sp).2.2.2)))
set_option maxRecDepth 10000 in
set_option maxHeartbeats 4000000 in
theorem c_67x {By : Int → Int} {Nb : Int} {Sp : PS} (σ0 : SG) (hσ0 : WT σ0) (a : Nat) (ha : TG a = 18) (f : Int32) (h_f : (σ0 3)[5]? = some (.int f)) (sg : Int32) (h_sg : (σ0 a)[1]? = some (.int sg)) (hp0 : -sg.toInt ≤ 0) (hC : CT By Nb σ0 Sp) (hg : Sp.1 = 0) (hP : PLA a) (hX : FXP σ0 a) (hK : KN σ0 a Sp.2.2.2 (act Sp.2.2.2)) : En 6 136 none mr_67 (P_67x σ0 By Nb Sp a f sg) 0 [(0, .ref 3), (1, .ref a)] [] σ0 := by
  obtain ⟨hl_f, hu_f⟩ := WT_int hσ0 (g := 3) (by decide +kernel) (by decide +kernel) (l := 0) (u := 3) (by decide +kernel) h_f
  obtain ⟨hl_sg, hu_sg⟩ := WT_int hσ0 (g := 18) ha (by decide +kernel) (l := (-1)) (u := 4) (by decide +kernel) h_sg
  have hF0 : Fr [(3, 1), (3, 2), (3, 3), (3, 4), (3, 5), (3, 6), (20, 2), (21, 0), (22, 0)] σ0 σ0 := Fr_rfl
  have h1 := CT_k hC h_f
  obtain ⟨z3, h2, h4, h5⟩ := WT_peekI hσ0 ha (by decide +kernel : FT 18 3 = (0, 0, 4)) (by decide +kernel)
  have h6 : Sp.2.2.2 2 = z3.toInt := KN_v hK (Or.inl (by decide)) (by decide) (by decide) (by rw [lcO_lt (by decide) (by decide), Nat.add_zero]) rfl h2
  refine En_Ps 1 (pc' := 1) (lv' := [(0, .ref 3), (1, .ref a)]) (st' := [.ref 3]) rfl ?_
  obtain ⟨z8, h7, h9, h10⟩ := WT_peekI hσ0 (by decide +kernel : TG 3 = 3) (by decide +kernel : FT 3 3 = (0, 0, 1600)) (by decide +kernel)
  refine En_callV rfl rfl rfl rfl rfl rfl rfl rfl (by decide +kernel : TG 3 = 3) (by decide +kernel) rfl (c_72x σ0 hσ0 z8 h7 hC.1 (CT_at hC (by omega) h7)) (by decide) (by decide) (fun v12 σ13 h11 => ?_)
  obtain ⟨h14, h15, rfl, h16⟩ := h11
  have h17 := h16
  have h18 := Fr_trans hF0 h15 (by decide +kernel)
  obtain ⟨S19, h20⟩ : ∃ q : PS, q = adv By Nb Sp := ⟨_, rfl⟩
  have h21 : CT By Nb σ13 S19 := by rw [h20]; exact (CT_adv hC (by omega) h7 h15 (by decide +kernel) h17.2)
  have h22 := CT_k h21 ((h15 _ _ (inW (by decide +kernel : TG 3 = 3) (by decide +kernel))).trans h_f)
  have h23 : S19.2.2.2 = Sp.2.2.2 := by rw [h20]; exact adv_w
  have h24 : S19.1 = Sp.1 := by rw [h20]; exact adv_1
  have h25 := KN_fr hP hK h15 (by decide +kernel)
  have h26 : S19.2.2.2 = Sp.2.2.2 := h23.trans (rfl : Sp.2.2.2 = Sp.2.2.2)
  have o27 : OUT σ0 σ13 a := OUT_fr OUT_0 h15 (by decide +kernel)
  refine En_Ps 3 (pc' := 7) (lv' := [(0, .ref 3), (1, .ref a)]) (st' := [.ref a, .int ((Int32.ofInt 0)), .ref 3]) rfl ?_
  refine En_getK (j := 3) ((h15 _ _ (inW ha (by decide +kernel))).trans h2) rfl rfl rfl ha (by decide +kernel) ?_
  refine En_Ps 2 (pc' := 12) (lv' := [(0, .ref 3), (1, .ref a)]) (st' := [.int ((z3 - ((Int32.ofInt 1)))), .int ((Int32.ofInt 0)), .ref 3]) rfl ?_
  refine En_top (subI rfl (by decide : (Int32.ofInt 1).toInt = 1) (by omega) (by omega)) (fun z28 h29 => ?_)
  have := (by decide : ((Int32.ofInt 0)).toInt = 0)
  refine En_callV rfl rfl rfl rfl rfl rfl rfl rfl (by decide +kernel : TG 3 = 3) (by decide +kernel) rfl (c_58x σ13 h14 ((Int32.ofInt 0)) z28 f ((h15 _ _ (inW (by decide +kernel : TG 3 = 3) (by decide +kernel))).trans h_f) h21) (by decide) (by decide) (fun v31 σ32 h30 => ?_)
  obtain ⟨h33, h34, z36, h37, z38, rfl, h35⟩ := h30
  have h39 := h35.2.2.2.2.2.2.2.2.2.2
  have h40 := Fr_trans h18 h34 (by decide +kernel)
  have h41 : nH By Nb ((Int32.ofInt 0)).toInt z28.toInt S19 = nH By Nb (0) (Sp.2.2.2 2 - 1) S19 := nH_cg2 (fun zz => by omega) (fun zz => by omega)
  obtain ⟨S42, h43⟩ : ∃ q : PS, q = nH By Nb (0) (Sp.2.2.2 2 - 1) S19 := ⟨_, rfl⟩
  have h44 : CT By Nb σ32 S42 := by rw [h43]; exact (CT_eq h39.1 h41)
  have h45 := CT_k h44 h37
  have h46 : Imp (S42.1 = 0) (z38.toInt = tV By Nb S19.2.2.1) := fun z => Imp_m h39.2 (by rw [h41, ← h43]; exact z)
  have h47 : Imp (S42.1 = 0) (S19.1 = 0 ∧ tK By Nb S19.2.2.1 = 2 ∧ 0 ≤ tV By Nb S19.2.2.1 ∧ tV By Nb S19.2.2.1 ≤ Sp.2.2.2 2 - 1) := fun z => nH_gg (by rw [← h43]; exact z)
  have h48 : S42.2.2.2 = S19.2.2.2 := by rw [h43]; exact nH_w
  have h49 := KN_fr hP h25 h34 (by decide +kernel)
  have h50 : S42.2.2.2 = Sp.2.2.2 := h48.trans h26
  have o51 : OUT σ0 σ32 a := OUT_fr o27 h34 (by decide +kernel)
  have h52 := Imp_m h35.2.2.2.2.2.2.2.2.1 (by omega)
  have h53 := Imp_m h35.2.2.2.2.2.2.2.2.2.1 (by omega)
  refine En_Ps 2 (pc' := 17) (lv' := [(2, .int z38), (0, .ref 3), (1, .ref a)]) (st' := [.ref 3]) rfl ?_
  refine En_getK (j := 5) h37 rfl rfl rfl (by decide +kernel : TG 3 = 3) (by decide +kernel) ?_
  refine En_iEq _ rfl rfl (fun h54 => ?_) (fun h54 => ?_)
  · have h55 := Imp_m h35.2.2.2.2.2.2.1 (by omega)
    try have h56 := Imp_m h47 (by omega)
    try have h57 := Imp_m h46 (by omega)
    refine En_Ps 1 (pc' := 25) (lv' := [(2, .int z38), (0, .ref 3), (1, .ref a)]) (st' := [.ref a]) rfl ?_
    refine En_getR (j := 4) (g' := 19) (u := 0) rfl rfl rfl ha (by decide +kernel) h33 (by decide +kernel) (fun a59 h58 ha59 => ?_)
    refine En_Ps 1 (pc' := 29) (lv' := [(2, .int z38), (0, .ref 3), (1, .ref a)]) (st' := [.int z38, .ref a59]) rfl ?_
    refine En_aald (g' := 28) (u := 0) rfl rfl ha59 (by decide +kernel) h33 (by omega) (lnI (by decide +kernel : LN _ = 4) (by omega)) (FTsgl (by decide +kernel)) (fun a61 h60 ha61 => ?_)
    have h62 := DRc (d := z38.toInt) (FXP_fr hP hX h40 (by decide +kernel)) h58 h60 (by omega) (by omega)
    have h63 := lc_d (d := z38.toInt) (by omega) (by omega)
    refine En_getR (j := 0) (g' := 20) (u := 0) rfl rfl rfl ha61 (by decide +kernel) h33 (by decide +kernel) (fun a65 h64 ha65 => ?_)
    have h66 := DLc (d := z38.toInt) (FXP_fr hP hX h40 (by decide +kernel)) h62 h64 (by omega) (by omega)
    refine En_Ps 2 (pc' := 35) (lv' := [(3, .ref a65), (2, .int z38), (0, .ref 3), (1, .ref a)]) (st' := [.ref a65]) rfl ?_
    refine En_getI (j := 2) (l := 0) (u := 13) rfl rfl rfl ha65 (by decide +kernel) h33 (by decide +kernel) (fun z68 h67 h69 h70 => ?_)
    have h71 : Sp.2.2.2 (12 + 4 * z38.toInt) = z68.toInt := KN_v h49 (Or.inr (Or.inl ⟨by omega, by omega, by omega⟩)) (by omega) (by omega) (by omega) (by omega) h67
    have h72 : z38.toInt = (tV By Nb S19.2.2.1) := by omega
    rw [h72] at h71
    refine En_Ps 1 (pc' := 40) (lv' := [(3, .ref a65), (2, .int z38), (0, .ref 3), (1, .ref a)]) (st' := [.int (((Int8.ofInt 12).toInt32)), .int z68]) rfl ?_
    refine En_icLt _ rfl (by decide : ((Int8.ofInt 12).toInt32).toInt = 12) rfl (fun h73 => ?_) (fun h73 => ?_)
    · refine En_Ps 1 (pc' := 50) (lv' := [(3, .ref a65), (2, .int z38), (0, .ref 3), (1, .ref a)]) (st' := [.ref 3]) rfl ?_
      obtain ⟨z75, h74, h76, h77⟩ := WT_peekI h33 (by decide +kernel : TG 3 = 3) (by decide +kernel : FT 3 3 = (0, 0, 1600)) (by decide +kernel)
      refine En_callV rfl rfl rfl rfl rfl rfl rfl rfl (by decide +kernel : TG 3 = 3) (by decide +kernel) rfl (c_72x σ32 h33 z75 h74 h44.1 (CT_at h44 (by omega) h74)) (by decide) (by decide) (fun v79 σ80 h78 => ?_)
      obtain ⟨h81, h82, rfl, h83⟩ := h78
      have h84 := h83
      have h85 := Fr_trans h40 h82 (by decide +kernel)
      obtain ⟨S86, h87⟩ : ∃ q : PS, q = adv By Nb S42 := ⟨_, rfl⟩
      have h88 : CT By Nb σ80 S86 := by rw [h87]; exact (CT_adv h44 (by omega) h74 h82 (by decide +kernel) h84.2)
      have h89 := CT_k h88 ((h82 _ _ (inW (by decide +kernel : TG 3 = 3) (by decide +kernel))).trans h37)
      have h90 : S86.2.2.2 = S42.2.2.2 := by rw [h87]; exact adv_w
      have h91 : S86.1 = S42.1 := by rw [h87]; exact adv_1
      have h92 := KN_fr hP h49 h82 (by decide +kernel)
      have h93 : S86.2.2.2 = Sp.2.2.2 := h90.trans h50
      have o94 : OUT σ0 σ80 a := OUT_fr o51 h82 (by decide +kernel)
      refine En_Ps 3 (pc' := 56) (lv' := [(3, .ref a65), (2, .int z38), (0, .ref 3), (1, .ref a)]) (st' := [.ref a65, .ref a, .ref 3]) rfl ?_
      refine En_callV rfl rfl rfl rfl rfl rfl rfl rfl (by decide +kernel : TG 3 = 3) (by decide +kernel) rfl (c_69x σ80 h81 a ha a65 ha65 z36 ((h82 _ _ (inW (by decide +kernel : TG 3 = 3) (by decide +kernel))).trans h37) sg ((h82 _ _ (inW ha (by decide +kernel))).trans ((h34 _ _ (inW ha (by decide +kernel))).trans ((h15 _ _ (inW ha (by decide +kernel))).trans h_sg))) (by omega) h88 (by omega) hP (FXP_fr hP hX h85 (by decide +kernel)) (by rw [h93]; exact h92) (show LSN σ80 a a65 S86.2.2.2 (26 + 24 * (tV By Nb S19.2.2.1) + 2 * Sp.2.2.2 (12 + 4 * (tV By Nb S19.2.2.1))) (12 + 4 * (tV By Nb S19.2.2.1)) from by rw [h93]; exact LSN_d (FXP_fr hP hX h85 (by decide +kernel)) (by omega) (by omega) (by omega) (by rw [← h72]; exact h66) rfl (by omega) (by omega))) (by decide) (by decide) (fun v96 σ97 h95 => ?_)
      obtain ⟨h98, h99, z101, h102, rfl, h100⟩ := h95
      have h103 := h100.2.2.2.2.2.2.2.2
      have h104 := Fr_trans h85 h99 (by decide +kernel)
      obtain ⟨S105, h106⟩ : ∃ q : PS, q = fSaid By Nb (26 + 24 * (tV By Nb S19.2.2.1) + 2 * Sp.2.2.2 (12 + 4 * (tV By Nb S19.2.2.1))) (12 + 4 * (tV By Nb S19.2.2.1)) S86 := ⟨_, rfl⟩
      have h107 : CT By Nb σ97 S105 := by rw [h106]; exact h103.1
      have h108 := CT_k h107 h102
      have o109 : OUT σ0 σ97 a := OUT_tr o94 h100.1
      have h110 : fLesson By Nb Sp = S105 := by unfold fLesson; (try dsimp only); first | (rw [← h20, ← h43, ← h87, ← h106]; first | done | rfl) | (rw [← h20, ← h43, ← h87, ← h106]; rw [if_pos (by omega)]; first | done | rfl) | (rw [← h20, ← h43, ← h87, ← h106]; rw [if_neg (by omega)]; first | done | rfl) | (rw [← h20, ← h43, ← h87, ← h106]; rw [if_neg (by omega), if_pos (by omega)]; first | done | rfl) | (rw [← h20, ← h43, ← h87, ← h106]; rw [if_neg (by omega), if_neg (by omega)]; first | done | rfl) | (rw [← h20, ← h43, ← h87, ← h106]; rw [if_neg (by omega), if_neg (by omega), if_neg (by omega)]; first | done | rfl)
      exact En_ret (v := none) rfl rfl rfl ⟨h98, h104, z101, h102, rfl, ⟨o109, by omega, by omega, by omega, by omega, by omega, by omega, by omega, (by rw [h110]; exact ⟨h107, fun zz => by exact (by rw [h106] at zz ⊢; exact KN_les (d := (tV By Nb S19.2.2.1)) zz (h103.2 zz) (by omega) (by omega) rfl rfl (by rw [h93]) (by omega))⟩)⟩⟩
    · refine En_Ps 2 (pc' := 45) (lv' := [(3, .ref a65), (2, .int z38), (0, .ref 3), (1, .ref a)]) (st' := [.int ((Int32.ofInt 3)), .ref 3]) rfl ?_
      have := (by decide : ((Int32.ofInt 3)).toInt = 3)
      refine En_callV rfl rfl rfl rfl rfl rfl rfl rfl (by decide +kernel : TG 3 = 3) (by decide +kernel) rfl (c_54x σ32 h33 ((Int32.ofInt 3)) (geI (by decide : (Int32.ofInt 3).toInt = 3) (by omega)) (leI (by decide : (Int32.ofInt 3).toInt = 3) (by omega)) z36 h37 h44) (by decide) (by decide) (fun v112 σ113 h111 => ?_)
      obtain ⟨h114, h115, z117, h118, rfl, h116⟩ := h111
      have h119 := h116.2.2.2.2.2.2
      have h120 := Fr_trans h40 h115 (by decide +kernel)
      obtain ⟨S121, h122⟩ : ∃ q : PS, q = err By Nb 3 S42 := ⟨_, rfl⟩
      have h123 : CT By Nb σ113 S121 := by rw [h122]; exact (CT_eq h119 (err_cg (by omega)))
      have h124 := CT_k h123 h118
      have h125 : S121.2.2.2 = S42.2.2.2 := by rw [h122]; exact err_w
      have h126 := KN_fr hP h49 h115 (by decide +kernel)
      have h127 : S121.2.2.2 = Sp.2.2.2 := h125.trans h50
      have o128 : OUT σ0 σ113 a := OUT_fr o51 h115 (by decide +kernel)
      have h129 := Imp_m h116.2.2.2.2.1 (by omega)
      have h130 : fLesson By Nb Sp = S121 := by unfold fLesson; (try dsimp only); first | (rw [← h20, ← h43, ← h122]; first | done | rfl) | (rw [← h20, ← h43, ← h122]; rw [if_pos (by omega)]; first | done | rfl) | (rw [← h20, ← h43, ← h122]; rw [if_neg (by omega)]; first | done | rfl) | (rw [← h20, ← h43, ← h122]; rw [if_neg (by omega), if_pos (by omega)]; first | done | rfl) | (rw [← h20, ← h43, ← h122]; rw [if_neg (by omega), if_neg (by omega)]; first | done | rfl) | (rw [← h20, ← h43, ← h122]; rw [if_neg (by omega), if_neg (by omega), if_neg (by omega)]; first | done | rfl)
      exact En_ret (v := none) rfl rfl rfl ⟨h114, h120, z117, h118, rfl, ⟨o128, by omega, by omega, by omega, by omega, by omega, by omega, by omega, (by rw [h130]; exact ⟨h123, fun z => absurd z (by omega)⟩)⟩⟩
  · have h131 := Imp_m h35.2.2.2.2.2.2.2.1 (by omega)
    have h132 : fLesson By Nb Sp = S42 := by unfold fLesson; (try dsimp only); first | (rw [← h20, ← h43]; first | done | rfl) | (rw [← h20, ← h43]; rw [if_pos (by omega)]; first | done | rfl) | (rw [← h20, ← h43]; rw [if_neg (by omega)]; first | done | rfl) | (rw [← h20, ← h43]; rw [if_neg (by omega), if_pos (by omega)]; first | done | rfl) | (rw [← h20, ← h43]; rw [if_neg (by omega), if_neg (by omega)]; first | done | rfl) | (rw [← h20, ← h43]; rw [if_neg (by omega), if_neg (by omega), if_neg (by omega)]; first | done | rfl)
    exact En_ret (v := none) rfl rfl rfl ⟨h33, h40, z36, h37, rfl, ⟨o51, by omega, by omega, by omega, by omega, by omega, by omega, by omega, (by rw [h132]; exact ⟨h44, fun z => absurd z (by omega)⟩)⟩⟩

/-- DoorSchool$Reader.readExam(LDoorSchool$Plan;)V -/
abbrev P_64x (σ0 : SG) (By : Int → Int) (Nb : Int) (Sp : PS) (a : Nat) (f : Int32) (sg : Int32) : PO := fun v σ => WT σ ∧ Fr [(3, 1), (3, 2), (3, 3), (3, 4), (3, 5), (3, 6), (20, 2), (21, 0), (22, 0)] σ0 σ ∧ ∃ f1 : Int32, (σ 3)[5]? = some (.int f1) ∧ v = none ∧ OUT σ0 σ a ∧ -f1.toInt ≤ 0 ∧ f1.toInt - 3 ≤ 0 ∧ -f1.toInt + f.toInt ≤ 0 ∧ f1.toInt - f.toInt - 3 ≤ 0 ∧ -f1.toInt + sg.toInt - 4 ≤ 0 ∧ f1.toInt - sg.toInt - 3 ≤ 0 ∧ f.toInt - f1.toInt ≤ 0 ∧ (CT By Nb σ (fExam By Nb Sp) ∧ ((fExam By Nb Sp).1 = 0 → KN σ a (fExam By Nb Sp).2.2.2 (act (fExam By Nb Sp).2.2.2)))
set_option maxRecDepth 10000 in
set_option maxHeartbeats 4000000 in
theorem c_64x {By : Int → Int} {Nb : Int} {Sp : PS} (σ0 : SG) (hσ0 : WT σ0) (a : Nat) (ha : TG a = 18) (f : Int32) (h_f : (σ0 3)[5]? = some (.int f)) (sg : Int32) (h_sg : (σ0 a)[1]? = some (.int sg)) (hp0 : -sg.toInt ≤ 0) (hC : CT By Nb σ0 Sp) (hg : Sp.1 = 0) (hP : PLA a) (hX : FXP σ0 a) (hK : KN σ0 a Sp.2.2.2 (act Sp.2.2.2)) : En 6 136 none mr_64 (P_64x σ0 By Nb Sp a f sg) 0 [(0, .ref 3), (1, .ref a)] [] σ0 := by
  obtain ⟨hl_f, hu_f⟩ := WT_int hσ0 (g := 3) (by decide +kernel) (by decide +kernel) (l := 0) (u := 3) (by decide +kernel) h_f
  obtain ⟨hl_sg, hu_sg⟩ := WT_int hσ0 (g := 18) ha (by decide +kernel) (l := (-1)) (u := 4) (by decide +kernel) h_sg
  have hF0 : Fr [(3, 1), (3, 2), (3, 3), (3, 4), (3, 5), (3, 6), (20, 2), (21, 0), (22, 0)] σ0 σ0 := Fr_rfl
  have h1 := CT_k hC h_f
  refine En_Ps 1 (pc' := 1) (lv' := [(0, .ref 3), (1, .ref a)]) (st' := [.ref a]) rfl ?_
  refine En_getR (j := 5) (g' := 20) (u := 0) rfl rfl rfl ha (by decide +kernel) hσ0 (by decide +kernel) (fun a3 h2 ha3 => ?_)
  refine En_getI (j := 2) (l := 0) (u := 13) rfl rfl rfl ha3 (by decide +kernel) hσ0 (by decide +kernel) (fun z5 h4 h6 h7 => ?_)
  have h8 : a3 = a + 2 := ref_uniq h2 hX.2.1
  have h9 : Sp.2.2.2 3 = z5.toInt := KN_v hK (Or.inl (by decide)) (by decide) (by decide) (by rw [lcO_3]; exact h8) (by decide) h4
  refine En_Ps 1 (pc' := 9) (lv' := [(0, .ref 3), (1, .ref a)]) (st' := [.int (((Int8.ofInt 12).toInt32)), .int z5]) rfl ?_
  refine En_icLt _ rfl (by decide : ((Int8.ofInt 12).toInt32).toInt = 12) rfl (fun h10 => ?_) (fun h10 => ?_)
  · refine En_Ps 1 (pc' := 19) (lv' := [(0, .ref 3), (1, .ref a)]) (st' := [.ref 3]) rfl ?_
    obtain ⟨z12, h11, h13, h14⟩ := WT_peekI hσ0 (by decide +kernel : TG 3 = 3) (by decide +kernel : FT 3 3 = (0, 0, 1600)) (by decide +kernel)
    refine En_callV rfl rfl rfl rfl rfl rfl rfl rfl (by decide +kernel : TG 3 = 3) (by decide +kernel) rfl (c_72x σ0 hσ0 z12 h11 hC.1 (CT_at hC (by omega) h11)) (by decide) (by decide) (fun v16 σ17 h15 => ?_)
    obtain ⟨h18, h19, rfl, h20⟩ := h15
    have h21 := h20
    have h22 := Fr_trans hF0 h19 (by decide +kernel)
    obtain ⟨S23, h24⟩ : ∃ q : PS, q = adv By Nb Sp := ⟨_, rfl⟩
    have h25 : CT By Nb σ17 S23 := by rw [h24]; exact (CT_adv hC (by omega) h11 h19 (by decide +kernel) h21.2)
    have h26 := CT_k h25 ((h19 _ _ (inW (by decide +kernel : TG 3 = 3) (by decide +kernel))).trans h_f)
    have h27 : S23.2.2.2 = Sp.2.2.2 := by rw [h24]; exact adv_w
    have h28 : S23.1 = Sp.1 := by rw [h24]; exact adv_1
    have h29 := KN_fr hP hK h19 (by decide +kernel)
    have h30 : S23.2.2.2 = Sp.2.2.2 := h27.trans (rfl : Sp.2.2.2 = Sp.2.2.2)
    have o31 : OUT σ0 σ17 a := OUT_fr OUT_0 h19 (by decide +kernel)
    refine En_Ps 3 (pc' := 25) (lv' := [(0, .ref 3), (1, .ref a)]) (st' := [.ref a, .ref a, .ref 3]) rfl ?_
    refine En_getK (j := 5) ((h19 _ _ (inW ha (by decide +kernel))).trans h2) rfl rfl rfl ha (by decide +kernel) ?_
    refine En_callV rfl rfl rfl rfl rfl rfl rfl rfl (by decide +kernel : TG 3 = 3) (by decide +kernel) rfl (c_69x σ17 h18 a ha a3 ha3 f ((h19 _ _ (inW (by decide +kernel : TG 3 = 3) (by decide +kernel))).trans h_f) sg ((h19 _ _ (inW ha (by decide +kernel))).trans h_sg) (by omega) h25 (by omega) hP (FXP_fr hP hX h22 (by decide +kernel)) (by rw [h30]; exact h29) (show LSN σ17 a a3 S23.2.2.2 (122 + 2 * Sp.2.2.2 3) 3 from by rw [h30]; exact LSN_e (FXP_fr hP hX h22 (by decide +kernel)) h8 rfl (by omega) (by omega))) (by decide) (by decide) (fun v33 σ34 h32 => ?_)
    obtain ⟨h35, h36, z38, h39, rfl, h37⟩ := h32
    have h40 := h37.2.2.2.2.2.2.2.2
    have h41 := Fr_trans h22 h36 (by decide +kernel)
    obtain ⟨S42, h43⟩ : ∃ q : PS, q = fSaid By Nb (122 + 2 * Sp.2.2.2 3) (3) S23 := ⟨_, rfl⟩
    have h44 : CT By Nb σ34 S42 := by rw [h43]; exact h40.1
    have h45 := CT_k h44 h39
    have o46 : OUT σ0 σ34 a := OUT_tr o31 h37.1
    have h47 : fExam By Nb Sp = S42 := by unfold fExam; (try dsimp only); first | (rw [← h24, ← h43]; first | done | rfl) | (rw [← h24, ← h43]; rw [if_pos (by omega)]; first | done | rfl) | (rw [← h24, ← h43]; rw [if_neg (by omega)]; first | done | rfl) | (rw [← h24, ← h43]; rw [if_neg (by omega), if_pos (by omega)]; first | done | rfl) | (rw [← h24, ← h43]; rw [if_neg (by omega), if_neg (by omega)]; first | done | rfl) | (rw [← h24, ← h43]; rw [if_neg (by omega), if_neg (by omega), if_neg (by omega)]; first | done | rfl)
    exact En_ret (v := none) rfl rfl rfl ⟨h35, h41, z38, h39, rfl, ⟨o46, by omega, by omega, by omega, by omega, by omega, by omega, by omega, (by rw [h47]; exact ⟨h44, fun zz => by exact (by rw [h43] at zz ⊢; exact KN_exm zz (h40.2 zz) rfl (by rw [h30]) (by omega))⟩)⟩⟩
  · refine En_Ps 2 (pc' := 14) (lv' := [(0, .ref 3), (1, .ref a)]) (st' := [.int ((Int32.ofInt 3)), .ref 3]) rfl ?_
    have := (by decide : ((Int32.ofInt 3)).toInt = 3)
    refine En_callV rfl rfl rfl rfl rfl rfl rfl rfl (by decide +kernel : TG 3 = 3) (by decide +kernel) rfl (c_54x σ0 hσ0 ((Int32.ofInt 3)) (geI (by decide : (Int32.ofInt 3).toInt = 3) (by omega)) (leI (by decide : (Int32.ofInt 3).toInt = 3) (by omega)) f h_f hC) (by decide) (by decide) (fun v49 σ50 h48 => ?_)
    obtain ⟨h51, h52, z54, h55, rfl, h53⟩ := h48
    have h56 := h53.2.2.2.2.2.2
    have h57 := Fr_trans hF0 h52 (by decide +kernel)
    obtain ⟨S58, h59⟩ : ∃ q : PS, q = err By Nb 3 Sp := ⟨_, rfl⟩
    have h60 : CT By Nb σ50 S58 := by rw [h59]; exact (CT_eq h56 (err_cg (by omega)))
    have h61 := CT_k h60 h55
    have h62 : S58.2.2.2 = Sp.2.2.2 := by rw [h59]; exact err_w
    have h63 := KN_fr hP hK h52 (by decide +kernel)
    have h64 : S58.2.2.2 = Sp.2.2.2 := h62.trans (rfl : Sp.2.2.2 = Sp.2.2.2)
    have o65 : OUT σ0 σ50 a := OUT_fr OUT_0 h52 (by decide +kernel)
    have h66 : fExam By Nb Sp = S58 := by unfold fExam; (try dsimp only); first | (rw [← h59]; first | done | rfl) | (rw [← h59]; rw [if_pos (by omega)]; first | done | rfl) | (rw [← h59]; rw [if_neg (by omega)]; first | done | rfl) | (rw [← h59]; rw [if_neg (by omega), if_pos (by omega)]; first | done | rfl) | (rw [← h59]; rw [if_neg (by omega), if_neg (by omega)]; first | done | rfl) | (rw [← h59]; rw [if_neg (by omega), if_neg (by omega), if_neg (by omega)]; first | done | rfl)
    exact En_ret (v := none) rfl rfl rfl ⟨h51, h57, z54, h55, rfl, ⟨o65, by omega, by omega, by omega, by omega, by omega, by omega, by omega, (by rw [h66]; exact ⟨h60, fun z => absurd z (by omega)⟩)⟩⟩
/-- DoorSchool$Reader.readTwin(LDoorSchool$Plan;)V -/
abbrev P_70x (σ0 : SG) (By : Int → Int) (Nb : Int) (Sp : PS) (a : Nat) (f : Int32) (sg : Int32) : PO := fun v σ => WT σ ∧ Fr [(3, 1), (3, 2), (3, 3), (3, 4), (3, 5), (3, 6), (28, 3)] σ0 σ ∧ ∃ f1 : Int32, (σ 3)[5]? = some (.int f1) ∧ v = none ∧ OUT σ0 σ a ∧ -f1.toInt ≤ 0 ∧ f1.toInt - 3 ≤ 0 ∧ -f1.toInt + f.toInt ≤ 0 ∧ f1.toInt - f.toInt - 3 ≤ 0 ∧ -f1.toInt + sg.toInt - 4 ≤ 0 ∧ f1.toInt - sg.toInt - 3 ≤ 0 ∧ f.toInt - f1.toInt ≤ 0 ∧ (CT By Nb σ (fTwin By Nb Sp) ∧ ((fTwin By Nb Sp).1 = 0 → KN σ a (fTwin By Nb Sp).2.2.2 (act (fTwin By Nb Sp).2.2.2)))
set_option maxRecDepth 10000 in
set_option maxHeartbeats 4000000 in
theorem c_70x {By : Int → Int} {Nb : Int} {Sp : PS} (σ0 : SG) (hσ0 : WT σ0) (a : Nat) (ha : TG a = 18) (f : Int32) (h_f : (σ0 3)[5]? = some (.int f)) (sg : Int32) (h_sg : (σ0 a)[1]? = some (.int sg)) (hp0 : -sg.toInt ≤ 0) (hC : CT By Nb σ0 Sp) (hg : Sp.1 = 0) (hP : PLA a) (hX : FXP σ0 a) (hK : KN σ0 a Sp.2.2.2 (act Sp.2.2.2)) : En 2 43 none mr_70 (P_70x σ0 By Nb Sp a f sg) 0 [(0, .ref 3), (1, .ref a)] [] σ0 := by
  obtain ⟨hl_f, hu_f⟩ := WT_int hσ0 (g := 3) (by decide +kernel) (by decide +kernel) (l := 0) (u := 3) (by decide +kernel) h_f
  obtain ⟨hl_sg, hu_sg⟩ := WT_int hσ0 (g := 18) ha (by decide +kernel) (l := (-1)) (u := 4) (by decide +kernel) h_sg
  have hF0 : Fr [(3, 1), (3, 2), (3, 3), (3, 4), (3, 5), (3, 6), (28, 3)] σ0 σ0 := Fr_rfl
  have h1 := CT_k hC h_f
  obtain ⟨z3, h2, h4, h5⟩ := WT_peekI hσ0 ha (by decide +kernel : FT 18 3 = (0, 0, 4)) (by decide +kernel)
  have h6 : Sp.2.2.2 2 = z3.toInt := KN_v hK (Or.inl (by decide)) (by decide) (by decide) (by rw [lcO_lt (by decide) (by decide), Nat.add_zero]) rfl h2
  refine En_Ps 1 (pc' := 1) (lv' := [(0, .ref 3), (1, .ref a)]) (st' := [.ref 3]) rfl ?_
  obtain ⟨z8, h7, h9, h10⟩ := WT_peekI hσ0 (by decide +kernel : TG 3 = 3) (by decide +kernel : FT 3 3 = (0, 0, 1600)) (by decide +kernel)
  refine En_callV rfl rfl rfl rfl rfl rfl rfl rfl (by decide +kernel : TG 3 = 3) (by decide +kernel) rfl (c_72x σ0 hσ0 z8 h7 hC.1 (CT_at hC (by omega) h7)) (by decide) (by decide) (fun v12 σ13 h11 => ?_)
  obtain ⟨h14, h15, rfl, h16⟩ := h11
  have h17 := h16
  have h18 := Fr_trans hF0 h15 (by decide +kernel)
  obtain ⟨S19, h20⟩ : ∃ q : PS, q = adv By Nb Sp := ⟨_, rfl⟩
  have h21 : CT By Nb σ13 S19 := by rw [h20]; exact (CT_adv hC (by omega) h7 h15 (by decide +kernel) h17.2)
  have h22 := CT_k h21 ((h15 _ _ (inW (by decide +kernel : TG 3 = 3) (by decide +kernel))).trans h_f)
  have h23 : S19.2.2.2 = Sp.2.2.2 := by rw [h20]; exact adv_w
  have h24 : S19.1 = Sp.1 := by rw [h20]; exact adv_1
  have h25 := KN_fr hP hK h15 (by decide +kernel)
  have h26 : S19.2.2.2 = Sp.2.2.2 := h23.trans (rfl : Sp.2.2.2 = Sp.2.2.2)
  have o27 : OUT σ0 σ13 a := OUT_fr OUT_0 h15 (by decide +kernel)
  have h28 : S19.2.2.2 2 = Sp.2.2.2 2 := by rw [h26]
  refine En_Ps 3 (pc' := 7) (lv' := [(0, .ref 3), (1, .ref a)]) (st' := [.ref a, .int ((Int32.ofInt 0)), .ref 3]) rfl ?_
  refine En_getK (j := 3) ((h15 _ _ (inW ha (by decide +kernel))).trans h2) rfl rfl rfl ha (by decide +kernel) ?_
  refine En_Ps 2 (pc' := 12) (lv' := [(0, .ref 3), (1, .ref a)]) (st' := [.int ((z3 - ((Int32.ofInt 1)))), .int ((Int32.ofInt 0)), .ref 3]) rfl ?_
  refine En_top (subI rfl (by decide : (Int32.ofInt 1).toInt = 1) (by omega) (by omega)) (fun z29 h30 => ?_)
  have := (by decide : ((Int32.ofInt 0)).toInt = 0)
  refine En_callV rfl rfl rfl rfl rfl rfl rfl rfl (by decide +kernel : TG 3 = 3) (by decide +kernel) rfl (c_58x σ13 h14 ((Int32.ofInt 0)) z29 f ((h15 _ _ (inW (by decide +kernel : TG 3 = 3) (by decide +kernel))).trans h_f) h21) (by decide) (by decide) (fun v32 σ33 h31 => ?_)
  obtain ⟨h34, h35, z37, h38, z39, rfl, h36⟩ := h31
  have h40 := h36.2.2.2.2.2.2.2.2.2.2
  have h41 := Fr_trans h18 h35 (by decide +kernel)
  have h42 : nH By Nb ((Int32.ofInt 0)).toInt z29.toInt S19 = nH By Nb (0) (S19.2.2.2 2 - 1) S19 := nH_cg2 (fun zz => by omega) (fun zz => by omega)
  obtain ⟨S43, h44⟩ : ∃ q : PS, q = nH By Nb (0) (S19.2.2.2 2 - 1) S19 := ⟨_, rfl⟩
  have h45 : CT By Nb σ33 S43 := by rw [h44]; exact (CT_eq h40.1 h42)
  have h46 := CT_k h45 h38
  have h47 : Imp (S43.1 = 0) (z39.toInt = tV By Nb S19.2.2.1) := fun z => Imp_m h40.2 (by rw [h42, ← h44]; exact z)
  have h48 : Imp (S43.1 = 0) (S19.1 = 0 ∧ tK By Nb S19.2.2.1 = 2 ∧ 0 ≤ tV By Nb S19.2.2.1 ∧ tV By Nb S19.2.2.1 ≤ S19.2.2.2 2 - 1) := fun z => nH_gg (by rw [← h44]; exact z)
  have h49 : S43.2.2.2 = S19.2.2.2 := by rw [h44]; exact nH_w
  have h50 := KN_fr hP h25 h35 (by decide +kernel)
  have h51 : S43.2.2.2 = Sp.2.2.2 := h49.trans h26
  have o52 : OUT σ0 σ33 a := OUT_fr o27 h35 (by decide +kernel)
  have h53 := Imp_m h36.2.2.2.2.2.2.2.2.1 (by omega)
  have h54 := Imp_m h36.2.2.2.2.2.2.2.2.2.1 (by omega)
  refine En_Ps 2 (pc' := 17) (lv' := [(2, .int z39), (0, .ref 3), (1, .ref a)]) (st' := [.ref 3]) rfl ?_
  refine En_getK (j := 5) h38 rfl rfl rfl (by decide +kernel : TG 3 = 3) (by decide +kernel) ?_
  refine En_iNe _ rfl rfl (fun h55 => ?_) (fun h55 => ?_)
  · have h56 := Imp_m h36.2.2.2.2.2.2.2.1 (by omega)
    have h57 : tw1 By Nb S19 = S43 := by rw [h44]; exact tw1_n (d := z39.toInt) (fun zz => by rw [← h44] at zz; rw [h26]; exact ⟨by omega, by omega, by omega⟩)
    refine En_Ps 1 (pc' := 50) (lv' := [(2, .int z39), (0, .ref 3), (1, .ref a)]) (st' := [.ref 3]) rfl ?_
    refine En_getK (j := 5) h38 rfl rfl rfl (by decide +kernel : TG 3 = 3) (by decide +kernel) ?_
    refine En_iEq _ rfl rfl (fun hx => by exfalso; have := Imp_m h36.2.2.2.2.2.2.1 (by omega); omega) (fun h58 => ?_)
    have h59 : fTwin By Nb Sp = S43 := by unfold fTwin; (try dsimp only); first | (rw [← h20, h57]; first | done | rfl) | (rw [← h20, h57]; rw [if_pos (by omega)]; first | done | rfl) | (rw [← h20, h57]; rw [if_neg (by omega)]; first | done | rfl) | (rw [← h20, h57]; rw [if_neg (by omega), if_pos (by omega)]; first | done | rfl) | (rw [← h20, h57]; rw [if_neg (by omega), if_neg (by omega)]; first | done | rfl) | (rw [← h20, h57]; rw [if_neg (by omega), if_neg (by omega), if_neg (by omega)]; first | done | rfl)
    exact En_ret (v := none) rfl rfl rfl ⟨h34, h41, z37, h38, rfl, ⟨o52, by omega, by omega, by omega, by omega, by omega, by omega, by omega, (by rw [h59]; exact ⟨h45, fun z => absurd z (by omega)⟩)⟩⟩
  · have h60 := Imp_m h36.2.2.2.2.2.2.1 (by omega)
    try have h61 := Imp_m h48 (by omega)
    try have h62 := Imp_m h47 (by omega)
    refine En_Ps 1 (pc' := 24) (lv' := [(2, .int z39), (0, .ref 3), (1, .ref a)]) (st' := [.ref a]) rfl ?_
    refine En_getR (j := 4) (g' := 19) (u := 0) rfl rfl rfl ha (by decide +kernel) h34 (by decide +kernel) (fun a64 h63 ha64 => ?_)
    refine En_Ps 1 (pc' := 28) (lv' := [(2, .int z39), (0, .ref 3), (1, .ref a)]) (st' := [.int z39, .ref a64]) rfl ?_
    refine En_aald (g' := 28) (u := 0) rfl rfl ha64 (by decide +kernel) h34 (by omega) (lnI (by decide +kernel : LN _ = 4) (by omega)) (FTsgl (by decide +kernel)) (fun a66 h65 ha66 => ?_)
    have h67 := DRc (d := z39.toInt) (FXP_fr hP hX h41 (by decide +kernel)) h63 h65 (by omega) (by omega)
    have h68 := lc_d (d := z39.toInt) (by omega) (by omega)
    refine En_getI (j := 3) (l := (-1)) (u := 3) rfl rfl rfl ha66 (by decide +kernel) h34 (by decide +kernel) (fun z70 h69 h71 h72 => ?_)
    have h73 : Sp.2.2.2 (13 + 4 * z39.toInt) = z70.toInt := KN_v h50 (Or.inr (Or.inl ⟨by omega, by omega, by omega⟩)) (by omega) (by omega) (by omega) (by omega) h69
    refine En_Ps 1 (pc' := 33) (lv' := [(2, .int z39), (0, .ref 3), (1, .ref a)]) (st' := [.int ((Int32.ofInt (-1))), .int z70]) rfl ?_
    refine En_icNe _ rfl (by decide : (Int32.ofInt (-1)).toInt = -1) rfl (fun h74 => ?_) (fun h74 => ?_)
    · refine En_Ps 2 (pc' := 46) (lv' := [(2, .int z39), (0, .ref 3), (1, .ref a)]) (st' := [.int ((Int32.ofInt 2)), .ref 3]) rfl ?_
      have := (by decide : ((Int32.ofInt 2)).toInt = 2)
      refine En_callV rfl rfl rfl rfl rfl rfl rfl rfl (by decide +kernel : TG 3 = 3) (by decide +kernel) rfl (c_54x σ33 h34 ((Int32.ofInt 2)) (geI (by decide : (Int32.ofInt 2).toInt = 2) (by omega)) (leI (by decide : (Int32.ofInt 2).toInt = 2) (by omega)) z37 h38 h45) (by decide) (by decide) (fun v76 σ77 h75 => ?_)
      obtain ⟨h78, h79, z81, h82, rfl, h80⟩ := h75
      have h83 := h80.2.2.2.2.2.2
      have h84 := Fr_trans h41 h79 (by decide +kernel)
      obtain ⟨S85, h86⟩ : ∃ q : PS, q = err By Nb 2 S43 := ⟨_, rfl⟩
      have h87 : CT By Nb σ77 S85 := by rw [h86]; exact (CT_eq h83 (err_cg (by omega)))
      have h88 := CT_k h87 h82
      have h89 : S85.2.2.2 = S43.2.2.2 := by rw [h86]; exact err_w
      have h90 := KN_fr hP h50 h79 (by decide +kernel)
      have h91 : S85.2.2.2 = Sp.2.2.2 := h89.trans h51
      have o92 : OUT σ0 σ77 a := OUT_fr o52 h79 (by decide +kernel)
      have h93 := Imp_m h80.2.2.2.2.1 (by omega)
      have h94 : tw1 By Nb S19 = S85 := by rw [h86, h44]; exact tw1_p (d := z39.toInt) (by rw [← h44]; omega) (by omega) (by rw [h26]; omega)
      refine En_Ps 1 (pc' := 50) (lv' := [(2, .int z39), (0, .ref 3), (1, .ref a)]) (st' := [.ref 3]) rfl ?_
      refine En_getK (j := 5) h82 rfl rfl rfl (by decide +kernel : TG 3 = 3) (by decide +kernel) ?_
      refine En_iEq _ rfl rfl (fun hx => by exfalso; have := Imp_m h36.2.2.2.2.2.2.2.1 (by omega); have := Imp_m h80.2.2.2.2.2.1 (by omega); omega) (fun h95 => ?_)
      have h96 : fTwin By Nb Sp = S85 := by unfold fTwin; (try dsimp only); first | (rw [← h20, h94]; first | done | rfl) | (rw [← h20, h94]; rw [if_pos (by omega)]; first | done | rfl) | (rw [← h20, h94]; rw [if_neg (by omega)]; first | done | rfl) | (rw [← h20, h94]; rw [if_neg (by omega), if_pos (by omega)]; first | done | rfl) | (rw [← h20, h94]; rw [if_neg (by omega), if_neg (by omega)]; first | done | rfl) | (rw [← h20, h94]; rw [if_neg (by omega), if_neg (by omega), if_neg (by omega)]; first | done | rfl)
      exact En_ret (v := none) rfl rfl rfl ⟨h78, h84, z81, h82, rfl, ⟨o92, by omega, by omega, by omega, by omega, by omega, by omega, by omega, (by rw [h96]; exact ⟨h87, fun z => absurd z (by omega)⟩)⟩⟩
    · refine En_Ps 2 (pc' := 38) (lv' := [(2, .int z39), (0, .ref 3), (1, .ref a)]) (st' := [.int z39, .ref a]) rfl ?_
      refine En_callV rfl rfl rfl rfl rfl rfl rfl rfl ha (by decide +kernel) rfl (c_45x σ33 h34 a ha z39 hP (FXP_fr hP hX h41 (by decide +kernel)) h50) (by decide) (by decide) (fun v98 σ99 h97 => ?_)
      obtain ⟨h100, h101, z103, rfl, h102⟩ := h97
      have h104 := h102.2.2.2
      obtain rfl : σ33 = σ99 := Fr_nil h101
      have h105 := h104
      refine En_iEq _ rfl rfl (fun h106 => ?_) (fun h106 => ?_)
      · have h107 : tw1 By Nb S19 = S43 := by rw [h44]; exact tw1_n (d := z39.toInt) (fun zz => by rw [← h44] at zz; rw [h26]; exact ⟨by omega, by omega, by omega⟩)
        refine En_Ps 1 (pc' := 50) (lv' := [(2, .int z39), (0, .ref 3), (1, .ref a)]) (st' := [.ref 3]) rfl ?_
        refine En_getK (j := 5) h38 rfl rfl rfl (by decide +kernel : TG 3 = 3) (by decide +kernel) ?_
        refine En_iEq _ rfl rfl (fun h108 => ?_) (fun hx => by exfalso; have := Imp_m h36.2.2.2.2.2.2.2.1 (by omega); omega)
        refine En_Ps 1 (pc' := 58) (lv' := [(2, .int z39), (0, .ref 3), (1, .ref a)]) (st' := [.ref 3]) rfl ?_
        obtain ⟨z110, h109, h111, h112⟩ := WT_peekI h34 (by decide +kernel : TG 3 = 3) (by decide +kernel : FT 3 3 = (0, 0, 1600)) (by decide +kernel)
        refine En_callV rfl rfl rfl rfl rfl rfl rfl rfl (by decide +kernel : TG 3 = 3) (by decide +kernel) rfl (c_72x σ33 h34 z110 h109 h45.1 (CT_at h45 (by omega) h109)) (by decide) (by decide) (fun v114 σ115 h113 => ?_)
        obtain ⟨h116, h117, rfl, h118⟩ := h113
        have h119 := h118
        have h120 := Fr_trans h41 h117 (by decide +kernel)
        obtain ⟨S121, h122⟩ : ∃ q : PS, q = adv By Nb S43 := ⟨_, rfl⟩
        have h123 : CT By Nb σ115 S121 := by rw [h122]; exact (CT_adv h45 (by omega) h109 h117 (by decide +kernel) h119.2)
        have h124 := CT_k h123 ((h117 _ _ (inW (by decide +kernel : TG 3 = 3) (by decide +kernel))).trans h38)
        have h125 : S121.2.2.2 = S43.2.2.2 := by rw [h122]; exact adv_w
        have h126 : S121.1 = S43.1 := by rw [h122]; exact adv_1
        have h127 := KN_fr hP h50 h117 (by decide +kernel)
        have h128 : S121.2.2.2 = Sp.2.2.2 := h125.trans h51
        have o129 : OUT σ0 σ115 a := OUT_fr o52 h117 (by decide +kernel)
        have h130 : S121.2.2.2 2 = Sp.2.2.2 2 := by rw [h128]
        refine En_Ps 3 (pc' := 64) (lv' := [(2, .int z39), (0, .ref 3), (1, .ref a)]) (st' := [.ref a, .int ((Int32.ofInt 0)), .ref 3]) rfl ?_
        refine En_getK (j := 3) ((h117 _ _ (inW ha (by decide +kernel))).trans ((h35 _ _ (inW ha (by decide +kernel))).trans ((h15 _ _ (inW ha (by decide +kernel))).trans h2))) rfl rfl rfl ha (by decide +kernel) ?_
        refine En_Ps 2 (pc' := 69) (lv' := [(2, .int z39), (0, .ref 3), (1, .ref a)]) (st' := [.int ((z3 - ((Int32.ofInt 1)))), .int ((Int32.ofInt 0)), .ref 3]) rfl ?_
        refine En_top (subI rfl (by decide : (Int32.ofInt 1).toInt = 1) (by omega) (by omega)) (fun z131 h132 => ?_)
        have := (by decide : ((Int32.ofInt 0)).toInt = 0)
        refine En_callV rfl rfl rfl rfl rfl rfl rfl rfl (by decide +kernel : TG 3 = 3) (by decide +kernel) rfl (c_58x σ115 h116 ((Int32.ofInt 0)) z131 z37 ((h117 _ _ (inW (by decide +kernel : TG 3 = 3) (by decide +kernel))).trans h38) h123) (by decide) (by decide) (fun v134 σ135 h133 => ?_)
        obtain ⟨h136, h137, z139, h140, z141, rfl, h138⟩ := h133
        have h142 := h138.2.2.2.2.2.2.2.2.2.2
        have h143 := Fr_trans h120 h137 (by decide +kernel)
        have h144 : nH By Nb ((Int32.ofInt 0)).toInt z131.toInt S121 = nH By Nb (0) (S121.2.2.2 2 - 1) S121 := nH_cg2 (fun zz => by (try have i0 := Imp_m h48 (by omega)); (try have i1 := Imp_m h47 (by omega)); (try have i2 := Imp_m h36.2.2.2.2.2.2.2.1 (by omega)); (try have i3 := Imp_m h102.2.2.1 (by omega)); omega) (fun zz => by (try have i0 := Imp_m h48 (by omega)); (try have i1 := Imp_m h47 (by omega)); (try have i2 := Imp_m h36.2.2.2.2.2.2.2.1 (by omega)); (try have i3 := Imp_m h102.2.2.1 (by omega)); omega)
        obtain ⟨S145, h146⟩ : ∃ q : PS, q = nH By Nb (0) (S121.2.2.2 2 - 1) S121 := ⟨_, rfl⟩
        have h147 : CT By Nb σ135 S145 := by rw [h146]; exact (CT_eq h142.1 h144)
        have h148 := CT_k h147 h140
        have h149 : Imp (S145.1 = 0) (z141.toInt = tV By Nb S121.2.2.1) := fun z => Imp_m h142.2 (by rw [h144, ← h146]; exact z)
        have h150 : Imp (S145.1 = 0) (S121.1 = 0 ∧ tK By Nb S121.2.2.1 = 2 ∧ 0 ≤ tV By Nb S121.2.2.1 ∧ tV By Nb S121.2.2.1 ≤ S121.2.2.2 2 - 1) := fun z => nH_gg (by rw [← h146]; exact z)
        have h151 : S145.2.2.2 = S121.2.2.2 := by rw [h146]; exact nH_w
        have h152 := KN_fr hP h127 h137 (by decide +kernel)
        have h153 : S145.2.2.2 = Sp.2.2.2 := h151.trans h128
        have o154 : OUT σ0 σ135 a := OUT_fr o129 h137 (by decide +kernel)
        have h155 := Imp_m h138.2.2.2.2.2.2.2.2.1 (by omega)
        have h156 := Imp_m h138.2.2.2.2.2.2.2.2.2.1 (by omega)
        refine En_Ps 2 (pc' := 74) (lv' := [(3, .int z141), (2, .int z39), (0, .ref 3), (1, .ref a)]) (st' := [.ref 3]) rfl ?_
        refine En_getK (j := 5) h140 rfl rfl rfl (by decide +kernel : TG 3 = 3) (by decide +kernel) ?_
        refine En_iNe _ rfl rfl (fun h157 => ?_) (fun h157 => ?_)
        · have h158 := Imp_m h138.2.2.2.2.2.2.2.1 (by omega)
          have h159 : tw2 By Nb (tV By Nb S19.2.2.1) S121 = S145 := by rw [h146]; exact tw2_n (d := z141.toInt) (fun zz => by rw [← h146] at zz; rw [h128]; exact ⟨by omega, by omega, by omega⟩)
          refine En_Ps 1 (pc' := 104) (lv' := [(3, .int z141), (2, .int z39), (0, .ref 3), (1, .ref a)]) (st' := [.ref 3]) rfl ?_
          refine En_getK (j := 5) h140 rfl rfl rfl (by decide +kernel : TG 3 = 3) (by decide +kernel) ?_
          refine En_iNe _ rfl rfl (fun h160 => ?_) (fun hx => by exfalso; have := Imp_m h36.2.2.2.2.2.2.2.1 (by omega); have := Imp_m h138.2.2.2.2.2.2.1 (by omega); omega)
          have h161 : fTwin By Nb Sp = S145 := by unfold fTwin; (try dsimp only); first | (rw [← h20, h107, ← h122, h159]; first | done | rfl) | (rw [← h20, h107, ← h122, h159]; rw [if_pos (by omega)]; first | done | rfl) | (rw [← h20, h107, ← h122, h159]; rw [if_neg (by omega)]; first | done | rfl) | (rw [← h20, h107, ← h122, h159]; rw [if_neg (by omega), if_pos (by omega)]; first | done | rfl) | (rw [← h20, h107, ← h122, h159]; rw [if_neg (by omega), if_neg (by omega)]; first | done | rfl) | (rw [← h20, h107, ← h122, h159]; rw [if_neg (by omega), if_neg (by omega), if_neg (by omega)]; first | done | rfl)
          exact En_ret (v := none) rfl rfl rfl ⟨h136, h143, z139, h140, rfl, ⟨o154, by omega, by omega, by omega, by omega, by omega, by omega, by omega, (by rw [h161]; exact ⟨h147, fun z => absurd z (by omega)⟩)⟩⟩
        · have h162 := Imp_m h138.2.2.2.2.2.2.1 (by omega)
          try have h163 := Imp_m h150 (by omega)
          try have h164 := Imp_m h149 (by omega)
          try have h165 := Imp_m h48 (by omega)
          try have h166 := Imp_m h47 (by omega)
          refine En_Ps 2 (pc' := 82) (lv' := [(3, .int z141), (2, .int z39), (0, .ref 3), (1, .ref a)]) (st' := [.int z39, .int z141]) rfl ?_
          refine En_icEq _ rfl rfl rfl (fun h167 => ?_) (fun h167 => ?_)
          · refine En_Ps 2 (pc' := 100) (lv' := [(3, .int z141), (2, .int z39), (0, .ref 3), (1, .ref a)]) (st' := [.int ((Int32.ofInt 2)), .ref 3]) rfl ?_
            have := (by decide : ((Int32.ofInt 2)).toInt = 2)
            refine En_callV rfl rfl rfl rfl rfl rfl rfl rfl (by decide +kernel : TG 3 = 3) (by decide +kernel) rfl (c_54x σ135 h136 ((Int32.ofInt 2)) (geI (by decide : (Int32.ofInt 2).toInt = 2) (by omega)) (leI (by decide : (Int32.ofInt 2).toInt = 2) (by omega)) z139 h140 h147) (by decide) (by decide) (fun v169 σ170 h168 => ?_)
            obtain ⟨h171, h172, z174, h175, rfl, h173⟩ := h168
            have h176 := h173.2.2.2.2.2.2
            have h177 := Fr_trans h143 h172 (by decide +kernel)
            obtain ⟨S178, h179⟩ : ∃ q : PS, q = err By Nb 2 S145 := ⟨_, rfl⟩
            have h180 : CT By Nb σ170 S178 := by rw [h179]; exact (CT_eq h176 (err_cg (by omega)))
            have h181 := CT_k h180 h175
            have h182 : S178.2.2.2 = S145.2.2.2 := by rw [h179]; exact err_w
            have h183 := KN_fr hP h152 h172 (by decide +kernel)
            have h184 : S178.2.2.2 = Sp.2.2.2 := h182.trans h153
            have o185 : OUT σ0 σ170 a := OUT_fr o154 h172 (by decide +kernel)
            have h186 := Imp_m h173.2.2.2.2.1 (by omega)
            have h187 : tw2 By Nb (tV By Nb S19.2.2.1) S121 = S178 := by rw [h179, h146]; exact tw2_p (d := z141.toInt) (by rw [← h146]; omega) (by omega) (by rw [h128]; omega)
            refine En_Ps 1 (pc' := 104) (lv' := [(3, .int z141), (2, .int z39), (0, .ref 3), (1, .ref a)]) (st' := [.ref 3]) rfl ?_
            refine En_getK (j := 5) h175 rfl rfl rfl (by decide +kernel : TG 3 = 3) (by decide +kernel) ?_
            refine En_iNe _ rfl rfl (fun h188 => ?_) (fun hx => by exfalso; have := Imp_m h36.2.2.2.2.2.2.2.1 (by omega); have := Imp_m h138.2.2.2.2.2.2.2.1 (by omega); have := Imp_m h173.2.2.2.2.2.1 (by omega); omega)
            have h189 : fTwin By Nb Sp = S178 := by unfold fTwin; (try dsimp only); first | (rw [← h20, h107, ← h122, h187]; first | done | rfl) | (rw [← h20, h107, ← h122, h187]; rw [if_pos (by omega)]; first | done | rfl) | (rw [← h20, h107, ← h122, h187]; rw [if_neg (by omega)]; first | done | rfl) | (rw [← h20, h107, ← h122, h187]; rw [if_neg (by omega), if_pos (by omega)]; first | done | rfl) | (rw [← h20, h107, ← h122, h187]; rw [if_neg (by omega), if_neg (by omega)]; first | done | rfl) | (rw [← h20, h107, ← h122, h187]; rw [if_neg (by omega), if_neg (by omega), if_neg (by omega)]; first | done | rfl)
            exact En_ret (v := none) rfl rfl rfl ⟨h171, h177, z174, h175, rfl, ⟨o185, by omega, by omega, by omega, by omega, by omega, by omega, by omega, (by rw [h189]; exact ⟨h180, fun z => absurd z (by omega)⟩)⟩⟩
          · refine En_Ps 1 (pc' := 86) (lv' := [(3, .int z141), (2, .int z39), (0, .ref 3), (1, .ref a)]) (st' := [.ref a]) rfl ?_
            refine En_getK (j := 4) ((h137 _ _ (inW ha (by decide +kernel))).trans ((h117 _ _ (inW ha (by decide +kernel))).trans h63)) rfl rfl rfl ha (by decide +kernel) ?_
            refine En_Ps 1 (pc' := 90) (lv' := [(3, .int z141), (2, .int z39), (0, .ref 3), (1, .ref a)]) (st' := [.int z141, .ref a64]) rfl ?_
            refine En_aald (g' := 28) (u := 0) rfl rfl ha64 (by decide +kernel) h136 (by omega) (lnI (by decide +kernel : LN _ = 4) (by omega)) (FTsgl (by decide +kernel)) (fun a191 h190 ha191 => ?_)
            have h192 := DRc (d := z141.toInt) (FXP_fr hP hX h143 (by decide +kernel)) ((h137 _ _ (inW ha (by decide +kernel))).trans ((h117 _ _ (inW ha (by decide +kernel))).trans h63)) h190 (by omega) (by omega)
            have h193 := lc_d (d := z141.toInt) (by omega) (by omega)
            refine En_getI (j := 3) (l := (-1)) (u := 3) rfl rfl rfl ha191 (by decide +kernel) h136 (by decide +kernel) (fun z195 h194 h196 h197 => ?_)
            have h198 : Sp.2.2.2 (13 + 4 * z141.toInt) = z195.toInt := KN_v h152 (Or.inr (Or.inl ⟨by omega, by omega, by omega⟩)) (by omega) (by omega) (by omega) (by omega) h194
            refine En_Ps 1 (pc' := 95) (lv' := [(3, .int z141), (2, .int z39), (0, .ref 3), (1, .ref a)]) (st' := [.int ((Int32.ofInt (-1))), .int z195]) rfl ?_
            refine En_icEq _ rfl (by decide : (Int32.ofInt (-1)).toInt = -1) rfl (fun h199 => ?_) (fun h199 => ?_)
            · have h200 : tw2 By Nb (tV By Nb S19.2.2.1) S121 = S145 := by rw [h146]; exact tw2_n (d := z141.toInt) (fun zz => by rw [← h146] at zz; rw [h128]; exact ⟨by omega, by omega, by omega⟩)
              refine En_Ps 1 (pc' := 104) (lv' := [(3, .int z141), (2, .int z39), (0, .ref 3), (1, .ref a)]) (st' := [.ref 3]) rfl ?_
              refine En_getK (j := 5) h140 rfl rfl rfl (by decide +kernel : TG 3 = 3) (by decide +kernel) ?_
              refine En_iNe _ rfl rfl (fun hx => by exfalso; have := Imp_m h36.2.2.2.2.2.2.2.1 (by omega); have := Imp_m h138.2.2.2.2.2.2.2.1 (by omega); omega) (fun h201 => ?_)
              try have h202 := Imp_m h150 (by omega)
              try have h203 := Imp_m h149 (by omega)
              try have h204 := Imp_m h48 (by omega)
              try have h205 := Imp_m h47 (by omega)
              refine En_Ps 1 (pc' := 111) (lv' := [(3, .int z141), (2, .int z39), (0, .ref 3), (1, .ref a)]) (st' := [.ref a]) rfl ?_
              refine En_getK (j := 4) ((h137 _ _ (inW ha (by decide +kernel))).trans ((h117 _ _ (inW ha (by decide +kernel))).trans h63)) rfl rfl rfl ha (by decide +kernel) ?_
              refine En_Ps 1 (pc' := 115) (lv' := [(3, .int z141), (2, .int z39), (0, .ref 3), (1, .ref a)]) (st' := [.int z39, .ref a64]) rfl ?_
              refine En_aald (g' := 28) (u := 0) rfl rfl ha64 (by decide +kernel) h136 (by omega) (lnI (by decide +kernel : LN _ = 4) (by omega)) (FTsgl (by decide +kernel)) (fun a207 h206 ha207 => ?_)
              have h208 := DRc (d := z39.toInt) (FXP_fr hP hX h143 (by decide +kernel)) ((h137 _ _ (inW ha (by decide +kernel))).trans ((h117 _ _ (inW ha (by decide +kernel))).trans h63)) h206 (by omega) (by omega)
              have h209 := lc_d (d := z39.toInt) (by omega) (by omega)
              have h210 := lc_d (d := (tV By Nb S19.2.2.1)) (by omega) (by omega)
              refine En_Ps 1 (pc' := 117) (lv' := [(3, .int z141), (2, .int z39), (0, .ref 3), (1, .ref a)]) (st' := [.int z141, .ref a207]) rfl ?_
              refine En_put (j := 3) rfl rfl rfl ha207 (by decide +kernel) rfl (vI (l := (-1)) (u := 3) (by decide +kernel) rfl (by omega) (by omega)) h136 h143 (by decide +kernel) (fun σ211 h212 h213 h214 h215 => ?_)
              obtain ⟨S216, h217⟩ : ∃ q : PS, q = wst S145 (13 + 4 * (tV By Nb S19.2.2.1)) ((tV By Nb S121.2.2.1)) := ⟨_, rfl⟩
              have h218 : CT By Nb σ211 S216 := by rw [h217]; exact CT_wst (CT_ne h147 h215 (by have := hP; unfold PLA at this; omega))
              have h219 : KN σ211 a (uPd Sp.2.2.2 (13 + 4 * (tV By Nb S19.2.2.1)) ((tV By Nb S121.2.2.1))) (fun t => (act Sp.2.2.2 t ∨ t = 13 + 4 * (tV By Nb S19.2.2.1))) := KN_st h152 h214 h215 (by omega) (by omega) (by omega) (by omega) (by omega)
              have h220 : S216.2.2.2 = (uPd Sp.2.2.2 (13 + 4 * (tV By Nb S19.2.2.1)) ((tV By Nb S121.2.2.1))) := by rw [h217]; show uPd S145.2.2.2 _ _ = _; rw [h153]
              have h221 : S216.1 = S145.1 := by rw [h217]; rfl
              have h222 := CT_k h218 ((h215 _ _ (Or.inr (by decide))).trans h140)
              have o223 : OUT σ0 σ211 a := OUT_st o154 h215 (by omega)
              refine En_Ps 1 (pc' := 121) (lv' := [(3, .int z141), (2, .int z39), (0, .ref 3), (1, .ref a)]) (st' := [.ref 3]) rfl ?_
              obtain ⟨z225, h224, h226, h227⟩ := WT_peekI h212 (by decide +kernel : TG 3 = 3) (by decide +kernel : FT 3 3 = (0, 0, 1600)) (by decide +kernel)
              refine En_callV rfl rfl rfl rfl rfl rfl rfl rfl (by decide +kernel : TG 3 = 3) (by decide +kernel) rfl (c_72x σ211 h212 z225 h224 h218.1 (CT_at h218 (by omega) h224)) (by decide) (by decide) (fun v229 σ230 h228 => ?_)
              obtain ⟨h231, h232, rfl, h233⟩ := h228
              have h234 := h233
              have h235 := Fr_trans h213 h232 (by decide +kernel)
              obtain ⟨S236, h237⟩ : ∃ q : PS, q = adv By Nb S216 := ⟨_, rfl⟩
              have h238 : CT By Nb σ230 S236 := by rw [h237]; exact (CT_adv h218 (by omega) h224 h232 (by decide +kernel) h234.2)
              have h239 := CT_k h238 ((h232 _ _ (inW (by decide +kernel : TG 3 = 3) (by decide +kernel))).trans ((h215 _ _ (Or.inr (by decide))).trans h140))
              have h240 : S236.2.2.2 = S216.2.2.2 := by rw [h237]; exact adv_w
              have h241 : S236.1 = S216.1 := by rw [h237]; exact adv_1
              have h242 := KN_fr hP h219 h232 (by decide +kernel)
              have h243 : S236.2.2.2 = (uPd Sp.2.2.2 (13 + 4 * (tV By Nb S19.2.2.1)) ((tV By Nb S121.2.2.1))) := h240.trans h220
              have o244 : OUT σ0 σ230 a := OUT_fr o223 h232 (by decide +kernel)
              have h245 : fTwin By Nb Sp = S236 := by unfold fTwin; (try dsimp only); first | (rw [← h20, h107, ← h122, h200, ← h217, ← h237]; first | done | rfl) | (rw [← h20, h107, ← h122, h200, ← h217, ← h237]; rw [if_pos (by omega)]; first | done | rfl) | (rw [← h20, h107, ← h122, h200, ← h217, ← h237]; rw [if_neg (by omega)]; first | done | rfl) | (rw [← h20, h107, ← h122, h200, ← h217, ← h237]; rw [if_neg (by omega), if_pos (by omega)]; first | done | rfl) | (rw [← h20, h107, ← h122, h200, ← h217, ← h237]; rw [if_neg (by omega), if_neg (by omega)]; first | done | rfl) | (rw [← h20, h107, ← h122, h200, ← h217, ← h237]; rw [if_neg (by omega), if_neg (by omega), if_neg (by omega)]; first | done | rfl)
              exact En_ret (v := none) rfl rfl rfl ⟨h231, h235, z139, ((h232 _ _ (inW (by decide +kernel : TG 3 = 3) (by decide +kernel))).trans ((h215 _ _ (Or.inr (by decide))).trans h140)), rfl, ⟨o244, by omega, by omega, by omega, by omega, by omega, by omega, by omega, (by rw [h245]; exact ⟨h238, fun zz => by rw [h243]; exact KN_sub h242 (fun t t0 t1 y => Or.inl (act_in (by omega) (by omega) y))⟩)⟩⟩
            · refine En_Ps 2 (pc' := 100) (lv' := [(3, .int z141), (2, .int z39), (0, .ref 3), (1, .ref a)]) (st' := [.int ((Int32.ofInt 2)), .ref 3]) rfl ?_
              have := (by decide : ((Int32.ofInt 2)).toInt = 2)
              refine En_callV rfl rfl rfl rfl rfl rfl rfl rfl (by decide +kernel : TG 3 = 3) (by decide +kernel) rfl (c_54x σ135 h136 ((Int32.ofInt 2)) (geI (by decide : (Int32.ofInt 2).toInt = 2) (by omega)) (leI (by decide : (Int32.ofInt 2).toInt = 2) (by omega)) z139 h140 h147) (by decide) (by decide) (fun v247 σ248 h246 => ?_)
              obtain ⟨h249, h250, z252, h253, rfl, h251⟩ := h246
              have h254 := h251.2.2.2.2.2.2
              have h255 := Fr_trans h143 h250 (by decide +kernel)
              obtain ⟨S256, h257⟩ : ∃ q : PS, q = err By Nb 2 S145 := ⟨_, rfl⟩
              have h258 : CT By Nb σ248 S256 := by rw [h257]; exact (CT_eq h254 (err_cg (by omega)))
              have h259 := CT_k h258 h253
              have h260 : S256.2.2.2 = S145.2.2.2 := by rw [h257]; exact err_w
              have h261 := KN_fr hP h152 h250 (by decide +kernel)
              have h262 : S256.2.2.2 = Sp.2.2.2 := h260.trans h153
              have o263 : OUT σ0 σ248 a := OUT_fr o154 h250 (by decide +kernel)
              have h264 := Imp_m h251.2.2.2.2.1 (by omega)
              have h265 : tw2 By Nb (tV By Nb S19.2.2.1) S121 = S256 := by rw [h257, h146]; exact tw2_p (d := z141.toInt) (by rw [← h146]; omega) (by omega) (by rw [h128]; omega)
              refine En_Ps 1 (pc' := 104) (lv' := [(3, .int z141), (2, .int z39), (0, .ref 3), (1, .ref a)]) (st' := [.ref 3]) rfl ?_
              refine En_getK (j := 5) h253 rfl rfl rfl (by decide +kernel : TG 3 = 3) (by decide +kernel) ?_
              refine En_iNe _ rfl rfl (fun h266 => ?_) (fun hx => by exfalso; have := Imp_m h36.2.2.2.2.2.2.2.1 (by omega); have := Imp_m h138.2.2.2.2.2.2.2.1 (by omega); have := Imp_m h251.2.2.2.2.2.1 (by omega); omega)
              have h267 : fTwin By Nb Sp = S256 := by unfold fTwin; (try dsimp only); first | (rw [← h20, h107, ← h122, h265]; first | done | rfl) | (rw [← h20, h107, ← h122, h265]; rw [if_pos (by omega)]; first | done | rfl) | (rw [← h20, h107, ← h122, h265]; rw [if_neg (by omega)]; first | done | rfl) | (rw [← h20, h107, ← h122, h265]; rw [if_neg (by omega), if_pos (by omega)]; first | done | rfl) | (rw [← h20, h107, ← h122, h265]; rw [if_neg (by omega), if_neg (by omega)]; first | done | rfl) | (rw [← h20, h107, ← h122, h265]; rw [if_neg (by omega), if_neg (by omega), if_neg (by omega)]; first | done | rfl)
              exact En_ret (v := none) rfl rfl rfl ⟨h249, h255, z252, h253, rfl, ⟨o263, by omega, by omega, by omega, by omega, by omega, by omega, by omega, (by rw [h267]; exact ⟨h258, fun z => absurd z (by omega)⟩)⟩⟩
      · have h268 := Imp_m h102.2.2.1 (by omega)
        refine En_Ps 2 (pc' := 46) (lv' := [(2, .int z39), (0, .ref 3), (1, .ref a)]) (st' := [.int ((Int32.ofInt 2)), .ref 3]) rfl ?_
        have := (by decide : ((Int32.ofInt 2)).toInt = 2)
        refine En_callV rfl rfl rfl rfl rfl rfl rfl rfl (by decide +kernel : TG 3 = 3) (by decide +kernel) rfl (c_54x σ33 h34 ((Int32.ofInt 2)) (geI (by decide : (Int32.ofInt 2).toInt = 2) (by omega)) (leI (by decide : (Int32.ofInt 2).toInt = 2) (by omega)) z37 h38 h45) (by decide) (by decide) (fun v270 σ271 h269 => ?_)
        obtain ⟨h272, h273, z275, h276, rfl, h274⟩ := h269
        have h277 := h274.2.2.2.2.2.2
        have h278 := Fr_trans h41 h273 (by decide +kernel)
        obtain ⟨S279, h280⟩ : ∃ q : PS, q = err By Nb 2 S43 := ⟨_, rfl⟩
        have h281 : CT By Nb σ271 S279 := by rw [h280]; exact (CT_eq h277 (err_cg (by omega)))
        have h282 := CT_k h281 h276
        have h283 : S279.2.2.2 = S43.2.2.2 := by rw [h280]; exact err_w
        have h284 := KN_fr hP h50 h273 (by decide +kernel)
        have h285 : S279.2.2.2 = Sp.2.2.2 := h283.trans h51
        have o286 : OUT σ0 σ271 a := OUT_fr o52 h273 (by decide +kernel)
        have h287 := Imp_m h274.2.2.2.2.1 (by omega)
        have h288 : tw1 By Nb S19 = S279 := by rw [h280, h44]; exact tw1_p (d := z39.toInt) (by rw [← h44]; omega) (by omega) (by rw [h26]; omega)
        refine En_Ps 1 (pc' := 50) (lv' := [(2, .int z39), (0, .ref 3), (1, .ref a)]) (st' := [.ref 3]) rfl ?_
        refine En_getK (j := 5) h276 rfl rfl rfl (by decide +kernel : TG 3 = 3) (by decide +kernel) ?_
        refine En_iEq _ rfl rfl (fun hx => by exfalso; have := Imp_m h36.2.2.2.2.2.2.2.1 (by omega); have := Imp_m h274.2.2.2.2.2.1 (by omega); omega) (fun h289 => ?_)
        have h290 : fTwin By Nb Sp = S279 := by unfold fTwin; (try dsimp only); first | (rw [← h20, h288]; first | done | rfl) | (rw [← h20, h288]; rw [if_pos (by omega)]; first | done | rfl) | (rw [← h20, h288]; rw [if_neg (by omega)]; first | done | rfl) | (rw [← h20, h288]; rw [if_neg (by omega), if_pos (by omega)]; first | done | rfl) | (rw [← h20, h288]; rw [if_neg (by omega), if_neg (by omega)]; first | done | rfl) | (rw [← h20, h288]; rw [if_neg (by omega), if_neg (by omega), if_neg (by omega)]; first | done | rfl)
        exact En_ret (v := none) rfl rfl rfl ⟨h272, h278, z275, h276, rfl, ⟨o286, by omega, by omega, by omega, by omega, by omega, by omega, by omega, (by rw [h290]; exact ⟨h281, fun z => absurd z (by omega)⟩)⟩⟩
/-- DoorSchool$Reader.takePart(I)I -/
abbrev P_74x (σ0 : SG) (By : Int → Int) (Nb : Int) (Sp : PS) (a : Int32) (f : Int32) : PO := fun v σ => WT σ ∧ Fr [(3, 1), (3, 2), (3, 3), (3, 4), (3, 5), (3, 6)] σ0 σ ∧ ∃ f1 : Int32, (σ 3)[5]? = some (.int f1) ∧ ∃ ret : Int32, v = some (.int ret) ∧ -ret.toInt - 1 ≤ 0 ∧ ret.toInt - 15 ≤ 0 ∧ -f1.toInt ≤ 0 ∧ f1.toInt - 3 ≤ 0 ∧ -f1.toInt + f.toInt ≤ 0 ∧ f1.toInt - f.toInt - 3 ≤ 0 ∧ f.toInt - f1.toInt ≤ 0 ∧ Imp (f1.toInt ≤ 0) (-ret.toInt ≤ 0 ∧ ret.toInt - 15 ≤ 0) ∧ (CT By Nb σ (tP By Nb a.toInt Sp) ∧ Imp ((tP By Nb a.toInt Sp).1 = 0) (ret.toInt = tV By Nb Sp.2.2.1))
set_option maxRecDepth 10000 in
set_option maxHeartbeats 4000000 in
theorem c_74x {By : Int → Int} {Nb : Int} {Sp : PS} (σ0 : SG) (hσ0 : WT σ0) (a : Int32) (hl_a : (-1) ≤ a.toInt) (hu_a : a.toInt ≤ 15) (f : Int32) (h_f : (σ0 3)[5]? = some (.int f)) (hC : CT By Nb σ0 Sp) (ha : Sp.1 = 0 → 0 ≤ a.toInt) : En 2 43 none mr_74 (P_74x σ0 By Nb Sp a f) 0 [(0, .ref 3), (1, .int a)] [] σ0 := by
  obtain ⟨hl_f, hu_f⟩ := WT_int hσ0 (g := 3) (by decide +kernel) (by decide +kernel) (l := 0) (u := 3) (by decide +kernel) h_f
  have hF0 : Fr [(3, 1), (3, 2), (3, 3), (3, 4), (3, 5), (3, 6)] σ0 σ0 := Fr_rfl
  obtain ⟨z2, h1, h3, h4⟩ := WT_peekI hσ0 (by decide +kernel : TG 3 = 3) (by decide +kernel : FT 3 1 = (0, 0, 4)) (by decide +kernel)
  obtain ⟨z6, h5, h7, h8⟩ := WT_peekI hσ0 (by decide +kernel : TG 3 = 3) (by decide +kernel : FT 3 4 = (0, (-2147483648), 1000000)) (by decide +kernel)
  have h9 := CT_k hC h_f
  have h10 : Imp (Sp.1 = 0) (tK By Nb Sp.2.2.1 = z2.toInt) := CT_t hC h1
  have h11 : Imp (Sp.1 = 0 ∧ tK By Nb Sp.2.2.1 = 2) (z6.toInt = tV By Nb Sp.2.2.1 ∧ 0 ≤ tV By Nb Sp.2.2.1) := fun q => CT_u hC h5 q.1 q.2
  refine En_Ps 3 (pc' := 4) (lv' := [(0, .ref 3), (1, .int a)]) (st' := [.int (((Int8.ofInt 15).toInt32)), .int ((Int32.ofInt 0)), .ref 3]) rfl ?_
  have := (by decide : ((Int32.ofInt 0)).toInt = 0)
  have := (by decide : (((Int8.ofInt 15).toInt32)).toInt = 15)
  refine En_callV rfl rfl rfl rfl rfl rfl rfl rfl (by decide +kernel : TG 3 = 3) (by decide +kernel) rfl (c_58x σ0 hσ0 ((Int32.ofInt 0)) (((Int8.ofInt 15).toInt32)) f h_f hC) (by decide) (by decide) (fun v13 σ14 h12 => ?_)
  obtain ⟨h15, h16, z18, h19, z20, rfl, h17⟩ := h12
  have h21 := h17.2.2.2.2.2.2.2.2.2.2
  have h22 := Fr_trans hF0 h16 (by decide +kernel)
  have h23 : nH By Nb ((Int32.ofInt 0)).toInt (((Int8.ofInt 15).toInt32)).toInt Sp = nH By Nb (0) (15) Sp := nH_cg2 (fun zz => by omega) (fun zz => by omega)
  obtain ⟨S24, h25⟩ : ∃ q : PS, q = nH By Nb (0) (15) Sp := ⟨_, rfl⟩
  have h26 : CT By Nb σ14 S24 := by rw [h25]; exact (CT_eq h21.1 h23)
  have h27 := CT_k h26 h19
  have h28 : Imp (S24.1 = 0) (tK By Nb S24.2.2.1 = z2.toInt) := CT_t h26 ((h16 _ _ (inW (by decide +kernel : TG 3 = 3) (by decide +kernel))).trans h1)
  have h29 : Imp (S24.1 = 0 ∧ tK By Nb S24.2.2.1 = 2) (z6.toInt = tV By Nb S24.2.2.1 ∧ 0 ≤ tV By Nb S24.2.2.1) := fun q => CT_u h26 ((h16 _ _ (inW (by decide +kernel : TG 3 = 3) (by decide +kernel))).trans h5) q.1 q.2
  have h30 : Imp (S24.1 = 0) (z20.toInt = tV By Nb Sp.2.2.1) := fun z => Imp_m h21.2 (by rw [h23, ← h25]; exact z)
  have h31 : Imp (S24.1 = 0) (Sp.1 = 0 ∧ tK By Nb Sp.2.2.1 = 2 ∧ 0 ≤ tV By Nb Sp.2.2.1 ∧ tV By Nb Sp.2.2.1 ≤ 15) := fun z => nH_gg (by rw [← h25]; exact z)
  have h32 : S24.2.2.2 = Sp.2.2.2 := by rw [h25]; exact nH_w
  have h33 := Imp_m h17.2.2.2.2.2.2.2.2.1 (by omega)
  have h34 := Imp_m h17.2.2.2.2.2.2.2.2.2.1 (by omega)
  refine En_Ps 2 (pc' := 9) (lv' := [(2, .int z20), (0, .ref 3), (1, .int a)]) (st' := [.ref 3]) rfl ?_
  refine En_getK (j := 5) h19 rfl rfl rfl (by decide +kernel : TG 3 = 3) (by decide +kernel) ?_
  refine En_iNe _ rfl rfl (fun h35 => ?_) (fun h35 => ?_)
  · have h36 := Imp_m h17.2.2.2.2.2.2.2.1 (by omega)
    refine En_Ps 1 (pc' := 29) (lv' := [(2, .int z20), (0, .ref 3), (1, .int a)]) (st' := [.ref 3]) rfl ?_
    refine En_getK (j := 5) h19 rfl rfl rfl (by decide +kernel : TG 3 = 3) (by decide +kernel) ?_
    refine En_iNe _ rfl rfl (fun h37 => ?_) (fun hx => by exfalso; have := Imp_m h17.2.2.2.2.2.2.1 (by omega); omega)
    refine En_Ps 1 (pc' := 40) (lv' := [(2, .int z20), (0, .ref 3), (1, .int a)]) (st' := [.int z20]) rfl ?_
    exact En_ret (v := some (.int z20)) rfl rfl rfl ⟨h15, h22, z18, h19, z20, rfl, ⟨by omega, by omega, by omega, by omega, by omega, by omega, by omega, fun _ => by have := Imp_m h17.2.2.2.2.2.2.1 (by omega); omega, (by have q0 : tP By Nb a.toInt Sp = S24 := (by subst h25; first | exact tPc_e (by omega) (by omega) | exact tPc_a (by omega) | exact tPc_b (by omega)); rw [q0]; exact ⟨h26, fun zz => by (try have i0 := Imp_m h31 (by omega)); (try have i1 := Imp_m h30 (by omega)); (try have i2 := Imp_m h28 (by omega)); (try have i3 := Imp_m h10 (by omega)); (try have i4 := Imp_m h11 (by omega)); (try have i5 := Imp_m h29 (by omega)); (try have i6 := Imp_m h17.2.2.2.2.2.2.1 (by omega)); omega⟩)⟩⟩
  · have h38 := Imp_m h17.2.2.2.2.2.2.1 (by omega)
    try have h39 := Imp_m h31 (by omega)
    try have h40 := Imp_m h30 (by omega)
    try have h41 := Imp_m h28 (by omega)
    try have h42 := Imp_m h10 (by omega)
    try have h43 := Imp_m h11 (by omega)
    try have h44 := Imp_m h29 (by omega)
    refine En_Ps 2 (pc' := 17) (lv' := [(2, .int z20), (0, .ref 3), (1, .int a)]) (st' := [.int a, .int z20]) rfl ?_
    have h45 : sbI (z20.toInt) a.toInt = sbI (tV By Nb Sp.2.2.1) a.toInt := sbI_cg (by omega) rfl
    refine En_Ps 2 (pc' := 19) (lv' := [(2, .int z20), (0, .ref 3), (1, .int a)]) (st' := [.int ((a ^^^ ((Int32.ofInt (-1))))), .int z20]) rfl ?_
    refine En_nam (fun z46 h47 => ?_)
    refine En_Ps 1 (pc' := 20) (lv' := [(2, .int z20), (0, .ref 3), (1, .int a)]) (st' := [.int ((z20 &&& z46))]) rfl ?_
    refine En_nam (fun z48 h49 => ?_)
    obtain ⟨h50, h51⟩ := andn_rng h49 rfl (by omega) (by omega : _ ≤ (15 : Int))
    refine En_iEq _ rfl rfl (fun h52 => ?_) (fun h52 => ?_)
    · have := sub_sbw h49 h47 rfl rfl (by omega) (by omega) (by omega)
      refine En_Ps 1 (pc' := 29) (lv' := [(2, .int z20), (0, .ref 3), (1, .int a)]) (st' := [.ref 3]) rfl ?_
      refine En_getK (j := 5) h19 rfl rfl rfl (by decide +kernel : TG 3 = 3) (by decide +kernel) ?_
      refine En_iNe _ rfl rfl (fun hx => by exfalso; have := Imp_m h17.2.2.2.2.2.2.2.1 (by omega); omega) (fun h53 => ?_)
      refine En_Ps 1 (pc' := 36) (lv' := [(2, .int z20), (0, .ref 3), (1, .int a)]) (st' := [.ref 3]) rfl ?_
      obtain ⟨z55, h54, h56, h57⟩ := WT_peekI h15 (by decide +kernel : TG 3 = 3) (by decide +kernel : FT 3 3 = (0, 0, 1600)) (by decide +kernel)
      refine En_callV rfl rfl rfl rfl rfl rfl rfl rfl (by decide +kernel : TG 3 = 3) (by decide +kernel) rfl (c_72x σ14 h15 z55 h54 h26.1 (CT_at h26 (by omega) h54)) (by decide) (by decide) (fun v59 σ60 h58 => ?_)
      obtain ⟨h61, h62, rfl, h63⟩ := h58
      have h64 := h63
      have h65 := Fr_trans h22 h62 (by decide +kernel)
      obtain ⟨S66, h67⟩ : ∃ q : PS, q = adv By Nb S24 := ⟨_, rfl⟩
      have h68 : CT By Nb σ60 S66 := by rw [h67]; exact (CT_adv h26 (by omega) h54 h62 (by decide +kernel) h64.2)
      have h69 := CT_k h68 ((h62 _ _ (inW (by decide +kernel : TG 3 = 3) (by decide +kernel))).trans h19)
      have h70 : S66.2.2.2 = S24.2.2.2 := by rw [h67]; exact adv_w
      have h71 : S66.1 = S24.1 := by rw [h67]; exact adv_1
      refine En_Ps 1 (pc' := 40) (lv' := [(2, .int z20), (0, .ref 3), (1, .int a)]) (st' := [.int z20]) rfl ?_
      exact En_ret (v := some (.int z20)) rfl rfl rfl ⟨h61, h65, z18, ((h62 _ _ (inW (by decide +kernel : TG 3 = 3) (by decide +kernel))).trans h19), z20, rfl, ⟨by omega, by omega, by omega, by omega, by omega, by omega, by omega, fun _ => by omega, (by have q0 : tP By Nb a.toInt Sp = S66 := (by subst h67; subst h25; first | exact tPc_e (by omega) (by omega) | exact tPc_a (by omega) | exact tPc_b (by omega)); rw [q0]; exact ⟨h68, fun zz => by (try have i0 := Imp_m h31 (by omega)); (try have i1 := Imp_m h30 (by omega)); (try have i2 := Imp_m h28 (by omega)); (try have i3 := Imp_m h10 (by omega)); (try have i4 := Imp_m h11 (by omega)); (try have i5 := Imp_m h29 (by omega)); (try have i6 := Imp_m h17.2.2.2.2.2.2.2.1 (by omega)); omega⟩)⟩⟩
    · have := sub_sbw h49 h47 rfl rfl (by omega) (by omega) (by omega)
      refine En_Ps 2 (pc' := 25) (lv' := [(2, .int z20), (0, .ref 3), (1, .int a)]) (st' := [.int ((Int32.ofInt 2)), .ref 3]) rfl ?_
      have := (by decide : ((Int32.ofInt 2)).toInt = 2)
      refine En_callV rfl rfl rfl rfl rfl rfl rfl rfl (by decide +kernel : TG 3 = 3) (by decide +kernel) rfl (c_54x σ14 h15 ((Int32.ofInt 2)) (geI (by decide : (Int32.ofInt 2).toInt = 2) (by omega)) (leI (by decide : (Int32.ofInt 2).toInt = 2) (by omega)) z18 h19 h26) (by decide) (by decide) (fun v73 σ74 h72 => ?_)
      obtain ⟨h75, h76, z78, h79, rfl, h77⟩ := h72
      have h80 := h77.2.2.2.2.2.2
      have h81 := Fr_trans h22 h76 (by decide +kernel)
      obtain ⟨S82, h83⟩ : ∃ q : PS, q = err By Nb 2 S24 := ⟨_, rfl⟩
      have h84 : CT By Nb σ74 S82 := by rw [h83]; exact (CT_eq h80 (err_cg (by omega)))
      have h85 := CT_k h84 h79
      have h86 : Imp (S82.1 = 0) (tK By Nb S82.2.2.1 = z2.toInt) := CT_t h84 ((h76 _ _ (inW (by decide +kernel : TG 3 = 3) (by decide +kernel))).trans ((h16 _ _ (inW (by decide +kernel : TG 3 = 3) (by decide +kernel))).trans h1))
      have h87 : Imp (S82.1 = 0 ∧ tK By Nb S82.2.2.1 = 2) (z6.toInt = tV By Nb S82.2.2.1 ∧ 0 ≤ tV By Nb S82.2.2.1) := fun q => CT_u h84 ((h76 _ _ (inW (by decide +kernel : TG 3 = 3) (by decide +kernel))).trans ((h16 _ _ (inW (by decide +kernel : TG 3 = 3) (by decide +kernel))).trans h5)) q.1 q.2
      have h88 : S82.2.2.2 = S24.2.2.2 := by rw [h83]; exact err_w
      have h89 := Imp_m h77.2.2.2.2.1 (by omega)
      refine En_Ps 1 (pc' := 29) (lv' := [(2, .int z20), (0, .ref 3), (1, .int a)]) (st' := [.ref 3]) rfl ?_
      refine En_getK (j := 5) h79 rfl rfl rfl (by decide +kernel : TG 3 = 3) (by decide +kernel) ?_
      refine En_iNe _ rfl rfl (fun h90 => ?_) (fun hx => by exfalso; have := Imp_m h17.2.2.2.2.2.2.2.1 (by omega); have := Imp_m h77.2.2.2.2.2.1 (by omega); omega)
      refine En_Ps 1 (pc' := 40) (lv' := [(2, .int z20), (0, .ref 3), (1, .int a)]) (st' := [.int z20]) rfl ?_
      exact En_ret (v := some (.int z20)) rfl rfl rfl ⟨h75, h81, z78, h79, z20, rfl, ⟨by omega, by omega, by omega, by omega, by omega, by omega, by omega, fun _ => by omega, (by have q0 : tP By Nb a.toInt Sp = S82 := (by subst h83; subst h25; first | exact tPc_e (by omega) (by omega) | exact tPc_a (by omega) | exact tPc_b (by omega)); rw [q0]; exact ⟨h84, fun zz => by (try have i0 := Imp_m h86 (by omega)); (try have i1 := Imp_m h31 (by omega)); (try have i2 := Imp_m h30 (by omega)); (try have i3 := Imp_m h28 (by omega)); (try have i4 := Imp_m h10 (by omega)); (try have i5 := Imp_m h11 (by omega)); (try have i6 := Imp_m h29 (by omega)); (try have i7 := Imp_m h87 (by omega)); (try have i8 := Imp_m h17.2.2.2.2.2.2.2.1 (by omega)); (try have i9 := Imp_m h77.2.2.2.2.2.1 (by omega)); omega⟩)⟩⟩
/-- DoorSchool$Reader.readOwner(LDoorSchool$Plan;)V -/
abbrev P_68x (σ0 : SG) (By : Int → Int) (Nb : Int) (Sp : PS) (a : Nat) (f : Int32) (sg : Int32) : PO := fun v σ => WT σ ∧ Fr [(3, 1), (3, 2), (3, 3), (3, 4), (3, 5), (3, 6), (18, 6), (18, 7)] σ0 σ ∧ ∃ f1 : Int32, (σ 3)[5]? = some (.int f1) ∧ v = none ∧ OUT σ0 σ a ∧ -f1.toInt ≤ 0 ∧ f1.toInt - 3 ≤ 0 ∧ -f1.toInt + f.toInt ≤ 0 ∧ f1.toInt - f.toInt - 3 ≤ 0 ∧ -f1.toInt + sg.toInt - 4 ≤ 0 ∧ f1.toInt - sg.toInt - 3 ≤ 0 ∧ f.toInt - f1.toInt ≤ 0 ∧ (CT By Nb σ (fOwner By Nb Sp) ∧ ((fOwner By Nb Sp).1 = 0 → KN σ a (fOwner By Nb Sp).2.2.2 (act (fOwner By Nb Sp).2.2.2)))
set_option maxRecDepth 10000 in
set_option maxHeartbeats 4000000 in
theorem c_68x {By : Int → Int} {Nb : Int} {Sp : PS} (σ0 : SG) (hσ0 : WT σ0) (a : Nat) (ha : TG a = 18) (f : Int32) (h_f : (σ0 3)[5]? = some (.int f)) (sg : Int32) (h_sg : (σ0 a)[1]? = some (.int sg)) (hp0 : -sg.toInt ≤ 0) (hC : CT By Nb σ0 Sp) (hg : Sp.1 = 0) (hP : PLA a) (hX : FXP σ0 a) (hK : KN σ0 a Sp.2.2.2 (act Sp.2.2.2)) : En 3 66 none mr_68 (P_68x σ0 By Nb Sp a f sg) 0 [(0, .ref 3), (1, .ref a)] [] σ0 := by
  obtain ⟨hl_f, hu_f⟩ := WT_int hσ0 (g := 3) (by decide +kernel) (by decide +kernel) (l := 0) (u := 3) (by decide +kernel) h_f
  obtain ⟨hl_sg, hu_sg⟩ := WT_int hσ0 (g := 18) ha (by decide +kernel) (l := (-1)) (u := 4) (by decide +kernel) h_sg
  have hF0 : Fr [(3, 1), (3, 2), (3, 3), (3, 4), (3, 5), (3, 6), (18, 6), (18, 7)] σ0 σ0 := Fr_rfl
  have h1 := CT_k hC h_f
  have h2 : Sp.2.2.2 0 = sg.toInt := KN_v hK (Or.inl (by decide)) (by decide) (by decide) (by rw [lcO_lt (by decide) (by decide), Nat.add_zero]) rfl h_sg
  have h3 : pI (Sp.2.2.2 0) = pI (sg.toInt) := by rw [h2]
  refine En_Ps 1 (pc' := 1) (lv' := [(0, .ref 3), (1, .ref a)]) (st' := [.ref 3]) rfl ?_
  obtain ⟨z5, h4, h6, h7⟩ := WT_peekI hσ0 (by decide +kernel : TG 3 = 3) (by decide +kernel : FT 3 3 = (0, 0, 1600)) (by decide +kernel)
  refine En_callV rfl rfl rfl rfl rfl rfl rfl rfl (by decide +kernel : TG 3 = 3) (by decide +kernel) rfl (c_72x σ0 hσ0 z5 h4 hC.1 (CT_at hC (by omega) h4)) (by decide) (by decide) (fun v9 σ10 h8 => ?_)
  obtain ⟨h11, h12, rfl, h13⟩ := h8
  have h14 := h13
  have h15 := Fr_trans hF0 h12 (by decide +kernel)
  obtain ⟨S16, h17⟩ : ∃ q : PS, q = adv By Nb Sp := ⟨_, rfl⟩
  have h18 : CT By Nb σ10 S16 := by rw [h17]; exact (CT_adv hC (by omega) h4 h12 (by decide +kernel) h14.2)
  have h19 := CT_k h18 ((h12 _ _ (inW (by decide +kernel : TG 3 = 3) (by decide +kernel))).trans h_f)
  have h20 : S16.2.2.2 = Sp.2.2.2 := by rw [h17]; exact adv_w
  have h21 : S16.1 = Sp.1 := by rw [h17]; exact adv_1
  have h22 := KN_fr hP hK h12 (by decide +kernel)
  have h23 : S16.2.2.2 = Sp.2.2.2 := h20.trans (rfl : Sp.2.2.2 = Sp.2.2.2)
  have o24 : OUT σ0 σ10 a := OUT_fr OUT_0 h12 (by decide +kernel)
  refine En_Ps 3 (pc' := 7) (lv' := [(0, .ref 3), (1, .ref a)]) (st' := [.ref a, .int ((Int32.ofInt 0)), .ref 3]) rfl ?_
  refine En_callV rfl rfl rfl rfl rfl rfl rfl rfl ha (by decide +kernel) rfl (c_51x σ10 h11 a ha sg ((h12 _ _ (inW ha (by decide +kernel))).trans h_sg) (by omega)) (by decide) (by decide) (fun v26 σ27 h25 => ?_)
  obtain ⟨h28, h29, z31, rfl, h30⟩ := h25
  have h32 := h30.2.2
  obtain rfl : σ10 = σ27 := Fr_nil h29
  have h33 := h32
  have h34 : pI (S16.2.2.2 0) = z31.toInt := by rw [h23]; omega
  refine En_Ps 2 (pc' := 12) (lv' := [(0, .ref 3), (1, .ref a)]) (st' := [.int ((z31 - ((Int32.ofInt 1)))), .int ((Int32.ofInt 0)), .ref 3]) rfl ?_
  refine En_top (subI rfl (by decide : (Int32.ofInt 1).toInt = 1) (by omega) (by omega)) (fun z35 h36 => ?_)
  have := (by decide : ((Int32.ofInt 0)).toInt = 0)
  refine En_callV rfl rfl rfl rfl rfl rfl rfl rfl (by decide +kernel : TG 3 = 3) (by decide +kernel) rfl (c_73x σ10 h11 ((Int32.ofInt 0)) z35 f ((h12 _ _ (inW (by decide +kernel : TG 3 = 3) (by decide +kernel))).trans h_f) h18) (by decide) (by decide) (fun v38 σ39 h37 => ?_)
  obtain ⟨h40, h41, z43, h44, z45, rfl, h42⟩ := h37
  have h46 := h42.2.2.2.2.2.2.2.2.2.2
  have h47 := Fr_trans h15 h41 (by decide +kernel)
  have h48 : tN By Nb ((Int32.ofInt 0)).toInt z35.toInt S16 = tN By Nb (0) (pI (S16.2.2.2 0) - 1) S16 := tN_cg2 (fun zz => by omega) (fun zz => by omega)
  obtain ⟨S49, h50⟩ : ∃ q : PS, q = tN By Nb (0) (pI (S16.2.2.2 0) - 1) S16 := ⟨_, rfl⟩
  have h51 : CT By Nb σ39 S49 := by rw [h50]; exact (CT_eq h46.1 h48)
  have h52 := CT_k h51 h44
  have h53 : Imp (S49.1 = 0) (z45.toInt = tV By Nb S16.2.2.1) := fun z => Imp_m h46.2 (by rw [h48, ← h50]; exact z)
  have h54 : Imp (S49.1 = 0) (S16.1 = 0 ∧ tK By Nb S16.2.2.1 = 2 ∧ 0 ≤ tV By Nb S16.2.2.1 ∧ tV By Nb S16.2.2.1 ≤ pI (S16.2.2.2 0) - 1) := fun z => tN_gg (by rw [← h50]; exact z)
  have h55 : S49.2.2.2 = S16.2.2.2 := by rw [h50]; exact tN_w
  have h56 := KN_fr hP h22 h41 (by decide +kernel)
  have h57 : S49.2.2.2 = Sp.2.2.2 := h55.trans h23
  have o58 : OUT σ0 σ39 a := OUT_fr o24 h41 (by decide +kernel)
  have h59 := Imp_m h42.2.2.2.2.2.2.2.2.1 (by omega)
  have h60 := Imp_m h42.2.2.2.2.2.2.2.2.2.1 (by omega)
  refine En_Ps 3 (pc' := 18) (lv' := [(2, .int z45), (0, .ref 3), (1, .ref a)]) (st' := [.int z45, .ref 3]) rfl ?_
  refine En_callV rfl rfl rfl rfl rfl rfl rfl rfl (by decide +kernel : TG 3 = 3) (by decide +kernel) rfl (c_74x σ39 h40 z45 (geI rfl (by omega)) (leI rfl (by omega)) z43 h44 h51 (fun zz => by (try have i0 := Imp_m h54 (by omega)); (try have i1 := Imp_m h53 (by omega)); (try have i2 := Imp_m h42.2.2.2.2.2.2.1 (by omega)); (try have i3 := Imp_m h42.2.2.2.2.2.2.2.1 (by omega)); omega)) (by decide) (by decide) (fun v62 σ63 h61 => ?_)
  obtain ⟨h64, h65, z67, h68, z69, rfl, h66⟩ := h61
  have h70 := h66.2.2.2.2.2.2.2.2
  have h71 := Fr_trans h47 h65 (by decide +kernel)
  have h72 : tP By Nb z45.toInt S49 = tP By Nb (tV By Nb S16.2.2.1) S49 := tP_cg2 (fun zz => by (try have i0 := Imp_m h54 (by omega)); (try have i1 := Imp_m h53 (by omega)); (try have i2 := Imp_m h42.2.2.2.2.2.2.1 (by omega)); (try have i3 := Imp_m h42.2.2.2.2.2.2.2.1 (by omega)); omega)
  obtain ⟨S73, h74⟩ : ∃ q : PS, q = tP By Nb (tV By Nb S16.2.2.1) S49 := ⟨_, rfl⟩
  have h75 : CT By Nb σ63 S73 := by rw [h74]; exact (CT_eq h70.1 h72)
  have h76 := CT_k h75 h68
  have h77 : Imp (S73.1 = 0) (z69.toInt = tV By Nb S49.2.2.1) := fun z => Imp_m h70.2 (by rw [h72, ← h74]; exact z)
  have h78 : Imp (S73.1 = 0) (S49.1 = 0) := fun z => tP_g (by rw [← h74]; exact z)
  have h79 : S73.2.2.2 = S49.2.2.2 := by rw [h74]; exact tP_w
  have h80 := KN_fr hP h56 h65 (by decide +kernel)
  have h81 : S73.2.2.2 = Sp.2.2.2 := h79.trans h57
  have o82 : OUT σ0 σ63 a := OUT_fr o58 h65 (by decide +kernel)
  refine En_Ps 2 (pc' := 23) (lv' := [(3, .int z69), (2, .int z45), (0, .ref 3), (1, .ref a)]) (st' := [.ref 3]) rfl ?_
  refine En_getK (j := 5) h68 rfl rfl rfl (by decide +kernel : TG 3 = 3) (by decide +kernel) ?_
  refine En_iNe _ rfl rfl (fun h83 => ?_) (fun h83 => ?_)
  · have h84 : fOwner By Nb Sp = S73 := by unfold fOwner fRule; (try dsimp only); first | (rw [← h17, ← h50, ← h74]; first | done | rfl) | (rw [← h17, ← h50, ← h74]; rw [if_pos (by omega)]; first | done | rfl) | (rw [← h17, ← h50, ← h74]; rw [if_neg (by omega)]; first | done | rfl) | (rw [← h17, ← h50, ← h74]; rw [if_neg (by omega), if_pos (by omega)]; first | done | rfl) | (rw [← h17, ← h50, ← h74]; rw [if_neg (by omega), if_neg (by omega)]; first | done | rfl) | (rw [← h17, ← h50, ← h74]; rw [if_neg (by omega), if_neg (by omega), if_neg (by omega)]; first | done | rfl)
    exact En_ret (v := none) rfl rfl rfl ⟨h64, h71, z67, h68, rfl, ⟨o82, by omega, by omega, by omega, by omega, by omega, by omega, by omega, (by rw [h84]; exact ⟨h75, fun z => absurd z (by omega)⟩)⟩⟩
  · have h85 := Imp_m h42.2.2.2.2.2.2.1 (by omega)
    have h86 := Imp_m h66.2.2.2.2.2.2.2.1 (by omega)
    try have h87 := Imp_m h78 (by omega)
    try have h88 := Imp_m h77 (by omega)
    try have h89 := Imp_m h54 (by omega)
    try have h90 := Imp_m h53 (by omega)
    refine En_Ps 2 (pc' := 31) (lv' := [(3, .int z69), (2, .int z45), (0, .ref 3), (1, .ref a)]) (st' := [.int z45, .ref a]) rfl ?_
    refine En_put (j := 6) rfl rfl rfl ha (by decide +kernel) rfl (vI (l := 0) (u := 15) (by decide +kernel) rfl (by omega) (by omega)) h64 h71 (by decide +kernel) (fun σ91 h92 h93 h94 h95 => ?_)
    obtain ⟨S96, h97⟩ : ∃ q : PS, q = wst S73 (8) ((tV By Nb S16.2.2.1)) := ⟨_, rfl⟩
    have h98 : CT By Nb σ91 S96 := by rw [h97]; exact CT_wst (CT_ne h75 h95 (by have := hP; unfold PLA at this; omega))
    have h99 : KN σ91 a (uPd Sp.2.2.2 (8) ((tV By Nb S16.2.2.1))) (fun t => (act Sp.2.2.2 t ∨ t = 8)) := KN_st h80 h94 h95 (by omega) (by omega) (by rw [lcO_lt (by decide) (by decide), Nat.add_zero]) (by decide) (by (try have i0 := Imp_m h78 (by omega)); (try have i1 := Imp_m h77 (by omega)); (try have i2 := Imp_m h54 (by omega)); (try have i3 := Imp_m h53 (by omega)); (try have i4 := Imp_m h42.2.2.2.2.2.2.2.1 (by omega)); omega)
    have h100 : S96.2.2.2 = (uPd Sp.2.2.2 (8) ((tV By Nb S16.2.2.1))) := by rw [h97]; show uPd S73.2.2.2 _ _ = _; rw [h81]
    have h101 : S96.1 = S73.1 := by rw [h97]; rfl
    have h102 := CT_k h98 ((h95 _ _ (Or.inr (by decide))).trans h68)
    have o103 : OUT σ0 σ91 a := OUT_st o82 h95 (by omega)
    refine En_Ps 2 (pc' := 36) (lv' := [(3, .int z69), (2, .int z45), (0, .ref 3), (1, .ref a)]) (st' := [.int z69, .ref a]) rfl ?_
    refine En_put (j := 7) rfl rfl rfl ha (by decide +kernel) rfl (vI (l := 0) (u := 15) (by decide +kernel) rfl (by omega) (by omega)) h92 h93 (by decide +kernel) (fun σ104 h105 h106 h107 h108 => ?_)
    obtain ⟨S109, h110⟩ : ∃ q : PS, q = wst S96 (8 + 1) ((tV By Nb S49.2.2.1)) := ⟨_, rfl⟩
    have h111 : CT By Nb σ104 S109 := by rw [h110]; exact CT_wst (CT_ne h98 h108 (by have := hP; unfold PLA at this; omega))
    have h112 : KN σ104 a (uPd (uPd Sp.2.2.2 (8) ((tV By Nb S16.2.2.1))) (8 + 1) ((tV By Nb S49.2.2.1))) (fun t => ((act Sp.2.2.2 t ∨ t = 8) ∨ t = 8 + 1)) := KN_st h99 h107 h108 (by omega) (by omega) (by rw [lcO_lt (by decide) (by decide), Nat.add_zero]) (by decide) (by (try have i0 := Imp_m h78 (by omega)); (try have i1 := Imp_m h77 (by omega)); (try have i2 := Imp_m h54 (by omega)); (try have i3 := Imp_m h53 (by omega)); (try have i4 := Imp_m h42.2.2.2.2.2.2.2.1 (by omega)); omega)
    have h113 : S109.2.2.2 = (uPd (uPd Sp.2.2.2 (8) ((tV By Nb S16.2.2.1))) (8 + 1) ((tV By Nb S49.2.2.1))) := by rw [h110]; show uPd S96.2.2.2 _ _ = _; rw [h100]
    have h114 : S109.1 = S96.1 := by rw [h110]; rfl
    have h115 := CT_k h111 ((h108 _ _ (Or.inr (by decide))).trans ((h95 _ _ (Or.inr (by decide))).trans h68))
    have o116 : OUT σ0 σ104 a := OUT_st o103 h108 (by omega)
    have h117 : fOwner By Nb Sp = S109 := by unfold fOwner fRule; (try dsimp only); first | (rw [← h17, ← h50, ← h74, ← h97, ← h110]; first | done | rfl) | (rw [← h17, ← h50, ← h74, ← h97, ← h110]; rw [if_pos (by omega)]; first | done | rfl) | (rw [← h17, ← h50, ← h74, ← h97, ← h110]; rw [if_neg (by omega)]; first | done | rfl) | (rw [← h17, ← h50, ← h74, ← h97, ← h110]; rw [if_neg (by omega), if_pos (by omega)]; first | done | rfl) | (rw [← h17, ← h50, ← h74, ← h97, ← h110]; rw [if_neg (by omega), if_neg (by omega)]; first | done | rfl) | (rw [← h17, ← h50, ← h74, ← h97, ← h110]; rw [if_neg (by omega), if_neg (by omega), if_neg (by omega)]; first | done | rfl)
    exact En_ret (v := none) rfl rfl rfl ⟨h105, h106, z67, ((h108 _ _ (Or.inr (by decide))).trans ((h95 _ _ (Or.inr (by decide))).trans h68)), rfl, ⟨o116, by omega, by omega, by omega, by omega, by omega, by omega, by omega, (by rw [h117]; exact ⟨h111, fun zz => by rw [h113]; exact KN_sub h112 (fun t t0 t1 y => Or.inl (Or.inl (act_low (by omega) (act_low (by omega) y))))⟩)⟩⟩
/-- DoorSchool$Reader.readHouse(LDoorSchool$Plan;)V -/
abbrev P_66x (σ0 : SG) (By : Int → Int) (Nb : Int) (Sp : PS) (a : Nat) (f : Int32) (sg : Int32) : PO := fun v σ => WT σ ∧ Fr [(3, 1), (3, 2), (3, 3), (3, 4), (3, 5), (3, 6), (18, 8), (23, 0), (24, 0)] σ0 σ ∧ ∃ f1 : Int32, (σ 3)[5]? = some (.int f1) ∧ v = none ∧ OUT σ0 σ a ∧ -f1.toInt ≤ 0 ∧ f1.toInt - 3 ≤ 0 ∧ -f1.toInt + f.toInt ≤ 0 ∧ f1.toInt - f.toInt - 3 ≤ 0 ∧ -f1.toInt + sg.toInt - 4 ≤ 0 ∧ f1.toInt - sg.toInt - 3 ≤ 0 ∧ f.toInt - f1.toInt ≤ 0 ∧ (CT By Nb σ (fHouse By Nb Sp) ∧ ((fHouse By Nb Sp).1 = 0 → KN σ a (fHouse By Nb Sp).2.2.2 (act (fHouse By Nb Sp).2.2.2)))
set_option maxRecDepth 10000 in
set_option maxHeartbeats 4000000 in
theorem c_66x {By : Int → Int} {Nb : Int} {Sp : PS} (σ0 : SG) (hσ0 : WT σ0) (a : Nat) (ha : TG a = 18) (f : Int32) (h_f : (σ0 3)[5]? = some (.int f)) (sg : Int32) (h_sg : (σ0 a)[1]? = some (.int sg)) (hp0 : -sg.toInt ≤ 0) (hC : CT By Nb σ0 Sp) (hg : Sp.1 = 0) (hP : PLA a) (hX : FXP σ0 a) (hK : KN σ0 a Sp.2.2.2 (act Sp.2.2.2)) : En 3 66 none mr_66 (P_66x σ0 By Nb Sp a f sg) 0 [(0, .ref 3), (1, .ref a)] [] σ0 := by
  obtain ⟨hl_f, hu_f⟩ := WT_int hσ0 (g := 3) (by decide +kernel) (by decide +kernel) (l := 0) (u := 3) (by decide +kernel) h_f
  obtain ⟨hl_sg, hu_sg⟩ := WT_int hσ0 (g := 18) ha (by decide +kernel) (l := (-1)) (u := 4) (by decide +kernel) h_sg
  have hF0 : Fr [(3, 1), (3, 2), (3, 3), (3, 4), (3, 5), (3, 6), (18, 8), (23, 0), (24, 0)] σ0 σ0 := Fr_rfl
  have h1 := CT_k hC h_f
  have h2 : Sp.2.2.2 0 = sg.toInt := KN_v hK (Or.inl (by decide)) (by decide) (by decide) (by rw [lcO_lt (by decide) (by decide), Nat.add_zero]) rfl h_sg
  have h3 : pI (Sp.2.2.2 0) = pI (sg.toInt) := by rw [h2]
  obtain ⟨z5, h4, h6, h7⟩ := WT_peekI hσ0 ha (by decide +kernel : FT 18 8 = (0, 0, 4)) (by decide +kernel)
  have h8 : Sp.2.2.2 4 = z5.toInt := KN_v hK (Or.inl (by decide)) (by decide) (by decide) (by rw [lcO_lt (by decide) (by decide), Nat.add_zero]) rfl h4
  refine En_Ps 1 (pc' := 1) (lv' := [(0, .ref 3), (1, .ref a)]) (st' := [.ref a]) rfl ?_
  refine En_getK (j := 8) h4 rfl rfl rfl ha (by decide +kernel) ?_
  refine En_Ps 1 (pc' := 5) (lv' := [(0, .ref 3), (1, .ref a)]) (st' := [.int ((Int32.ofInt 4)), .int z5]) rfl ?_
  refine En_icLt _ rfl (by decide : (Int32.ofInt 4).toInt = 4) rfl (fun h9 => ?_) (fun h9 => ?_)
  · refine En_Ps 1 (pc' := 15) (lv' := [(0, .ref 3), (1, .ref a)]) (st' := [.ref 3]) rfl ?_
    obtain ⟨z11, h10, h12, h13⟩ := WT_peekI hσ0 (by decide +kernel : TG 3 = 3) (by decide +kernel : FT 3 3 = (0, 0, 1600)) (by decide +kernel)
    refine En_callV rfl rfl rfl rfl rfl rfl rfl rfl (by decide +kernel : TG 3 = 3) (by decide +kernel) rfl (c_72x σ0 hσ0 z11 h10 hC.1 (CT_at hC (by omega) h10)) (by decide) (by decide) (fun v15 σ16 h14 => ?_)
    obtain ⟨h17, h18, rfl, h19⟩ := h14
    have h20 := h19
    have h21 := Fr_trans hF0 h18 (by decide +kernel)
    obtain ⟨S22, h23⟩ : ∃ q : PS, q = adv By Nb Sp := ⟨_, rfl⟩
    have h24 : CT By Nb σ16 S22 := by rw [h23]; exact (CT_adv hC (by omega) h10 h18 (by decide +kernel) h20.2)
    have h25 := CT_k h24 ((h18 _ _ (inW (by decide +kernel : TG 3 = 3) (by decide +kernel))).trans h_f)
    have h26 : S22.2.2.2 = Sp.2.2.2 := by rw [h23]; exact adv_w
    have h27 : S22.1 = Sp.1 := by rw [h23]; exact adv_1
    have h28 := KN_fr hP hK h18 (by decide +kernel)
    have h29 : S22.2.2.2 = Sp.2.2.2 := h26.trans (rfl : Sp.2.2.2 = Sp.2.2.2)
    have o30 : OUT σ0 σ16 a := OUT_fr OUT_0 h18 (by decide +kernel)
    refine En_Ps 3 (pc' := 21) (lv' := [(0, .ref 3), (1, .ref a)]) (st' := [.ref a, .int ((Int32.ofInt 0)), .ref 3]) rfl ?_
    refine En_callV rfl rfl rfl rfl rfl rfl rfl rfl ha (by decide +kernel) rfl (c_51x σ16 h17 a ha sg ((h18 _ _ (inW ha (by decide +kernel))).trans h_sg) (by omega)) (by decide) (by decide) (fun v32 σ33 h31 => ?_)
    obtain ⟨h34, h35, z37, rfl, h36⟩ := h31
    have h38 := h36.2.2
    obtain rfl : σ16 = σ33 := Fr_nil h35
    have h39 := h38
    have h40 : pI (S22.2.2.2 0) = z37.toInt := by rw [h29]; omega
    refine En_Ps 2 (pc' := 26) (lv' := [(0, .ref 3), (1, .ref a)]) (st' := [.int ((z37 - ((Int32.ofInt 1)))), .int ((Int32.ofInt 0)), .ref 3]) rfl ?_
    refine En_top (subI rfl (by decide : (Int32.ofInt 1).toInt = 1) (by omega) (by omega)) (fun z41 h42 => ?_)
    have := (by decide : ((Int32.ofInt 0)).toInt = 0)
    refine En_callV rfl rfl rfl rfl rfl rfl rfl rfl (by decide +kernel : TG 3 = 3) (by decide +kernel) rfl (c_73x σ16 h17 ((Int32.ofInt 0)) z41 f ((h18 _ _ (inW (by decide +kernel : TG 3 = 3) (by decide +kernel))).trans h_f) h24) (by decide) (by decide) (fun v44 σ45 h43 => ?_)
    obtain ⟨h46, h47, z49, h50, z51, rfl, h48⟩ := h43
    have h52 := h48.2.2.2.2.2.2.2.2.2.2
    have h53 := Fr_trans h21 h47 (by decide +kernel)
    have h54 : tN By Nb ((Int32.ofInt 0)).toInt z41.toInt S22 = tN By Nb (0) (pI (S22.2.2.2 0) - 1) S22 := tN_cg2 (fun zz => by omega) (fun zz => by omega)
    obtain ⟨S55, h56⟩ : ∃ q : PS, q = tN By Nb (0) (pI (S22.2.2.2 0) - 1) S22 := ⟨_, rfl⟩
    have h57 : CT By Nb σ45 S55 := by rw [h56]; exact (CT_eq h52.1 h54)
    have h58 := CT_k h57 h50
    have h59 : Imp (S55.1 = 0) (z51.toInt = tV By Nb S22.2.2.1) := fun z => Imp_m h52.2 (by rw [h54, ← h56]; exact z)
    have h60 : Imp (S55.1 = 0) (S22.1 = 0 ∧ tK By Nb S22.2.2.1 = 2 ∧ 0 ≤ tV By Nb S22.2.2.1 ∧ tV By Nb S22.2.2.1 ≤ pI (S22.2.2.2 0) - 1) := fun z => tN_gg (by rw [← h56]; exact z)
    have h61 : S55.2.2.2 = S22.2.2.2 := by rw [h56]; exact tN_w
    have h62 := KN_fr hP h28 h47 (by decide +kernel)
    have h63 : S55.2.2.2 = Sp.2.2.2 := h61.trans h29
    have o64 : OUT σ0 σ45 a := OUT_fr o30 h47 (by decide +kernel)
    have h65 := Imp_m h48.2.2.2.2.2.2.2.2.1 (by omega)
    have h66 := Imp_m h48.2.2.2.2.2.2.2.2.2.1 (by omega)
    refine En_Ps 3 (pc' := 32) (lv' := [(2, .int z51), (0, .ref 3), (1, .ref a)]) (st' := [.int z51, .ref 3]) rfl ?_
    refine En_callV rfl rfl rfl rfl rfl rfl rfl rfl (by decide +kernel : TG 3 = 3) (by decide +kernel) rfl (c_74x σ45 h46 z51 (geI rfl (by omega)) (leI rfl (by omega)) z49 h50 h57 (fun zz => by (try have i0 := Imp_m h60 (by omega)); (try have i1 := Imp_m h59 (by omega)); (try have i2 := Imp_m h48.2.2.2.2.2.2.1 (by omega)); (try have i3 := Imp_m h48.2.2.2.2.2.2.2.1 (by omega)); omega)) (by decide) (by decide) (fun v68 σ69 h67 => ?_)
    obtain ⟨h70, h71, z73, h74, z75, rfl, h72⟩ := h67
    have h76 := h72.2.2.2.2.2.2.2.2
    have h77 := Fr_trans h53 h71 (by decide +kernel)
    have h78 : tP By Nb z51.toInt S55 = tP By Nb (tV By Nb S22.2.2.1) S55 := tP_cg2 (fun zz => by (try have i0 := Imp_m h60 (by omega)); (try have i1 := Imp_m h59 (by omega)); (try have i2 := Imp_m h48.2.2.2.2.2.2.1 (by omega)); (try have i3 := Imp_m h48.2.2.2.2.2.2.2.1 (by omega)); omega)
    obtain ⟨S79, h80⟩ : ∃ q : PS, q = tP By Nb (tV By Nb S22.2.2.1) S55 := ⟨_, rfl⟩
    have h81 : CT By Nb σ69 S79 := by rw [h80]; exact (CT_eq h76.1 h78)
    have h82 := CT_k h81 h74
    have h83 : Imp (S79.1 = 0) (z75.toInt = tV By Nb S55.2.2.1) := fun z => Imp_m h76.2 (by rw [h78, ← h80]; exact z)
    have h84 : Imp (S79.1 = 0) (S55.1 = 0) := fun z => tP_g (by rw [← h80]; exact z)
    have h85 : S79.2.2.2 = S55.2.2.2 := by rw [h80]; exact tP_w
    have h86 := KN_fr hP h62 h71 (by decide +kernel)
    have h87 : S79.2.2.2 = Sp.2.2.2 := h85.trans h63
    have o88 : OUT σ0 σ69 a := OUT_fr o64 h71 (by decide +kernel)
    refine En_Ps 2 (pc' := 37) (lv' := [(3, .int z75), (2, .int z51), (0, .ref 3), (1, .ref a)]) (st' := [.ref 3]) rfl ?_
    refine En_getK (j := 5) h74 rfl rfl rfl (by decide +kernel : TG 3 = 3) (by decide +kernel) ?_
    refine En_iNe _ rfl rfl (fun h89 => ?_) (fun h89 => ?_)
    · have h90 : fRule By Nb (146 + 2 * Sp.2.2.2 4) S22 = S79 := by unfold fRule; (try dsimp only); rw [← h56, ← h80]; first | (rw [if_pos (by omega)]; first | done | rfl) | (rw [if_neg (by omega)]; first | done | rfl)
      have h91 : fHouse By Nb Sp = S79 := by unfold fHouse; (try dsimp only); first | (rw [← h23, h90]; first | done | rfl) | (rw [← h23, h90]; rw [if_pos (by omega)]; first | done | rfl) | (rw [← h23, h90]; rw [if_neg (by omega)]; first | done | rfl) | (rw [← h23, h90]; rw [if_neg (by omega), if_pos (by omega)]; first | done | rfl) | (rw [← h23, h90]; rw [if_neg (by omega), if_neg (by omega)]; first | done | rfl) | (rw [← h23, h90]; rw [if_neg (by omega), if_neg (by omega), if_neg (by omega)]; first | done | rfl)
      exact En_ret (v := none) rfl rfl rfl ⟨h70, h77, z73, h74, rfl, ⟨o88, by omega, by omega, by omega, by omega, by omega, by omega, by omega, (by rw [h91]; exact ⟨h81, fun z => absurd z (by omega)⟩)⟩⟩
    · have h92 := Imp_m h48.2.2.2.2.2.2.1 (by omega)
      have h93 := Imp_m h72.2.2.2.2.2.2.2.1 (by omega)
      try have h94 := Imp_m h84 (by omega)
      try have h95 := Imp_m h83 (by omega)
      try have h96 := Imp_m h60 (by omega)
      try have h97 := Imp_m h59 (by omega)
      refine En_Ps 1 (pc' := 44) (lv' := [(3, .int z75), (2, .int z51), (0, .ref 3), (1, .ref a)]) (st' := [.ref a]) rfl ?_
      refine En_getR (j := 9) (g' := 23) (u := 0) rfl rfl rfl ha (by decide +kernel) h70 (by decide +kernel) (fun a99 h98 ha99 => ?_)
      refine En_Ps 1 (pc' := 48) (lv' := [(3, .int z75), (2, .int z51), (0, .ref 3), (1, .ref a)]) (st' := [.ref a, .ref a99]) rfl ?_
      refine En_getK (j := 8) ((h71 _ _ (inW ha (by decide +kernel))).trans ((h47 _ _ (inW ha (by decide +kernel))).trans ((h18 _ _ (inW ha (by decide +kernel))).trans h4))) rfl rfl rfl ha (by decide +kernel) ?_
      refine En_Ps 1 (pc' := 52) (lv' := [(3, .int z75), (2, .int z51), (0, .ref 3), (1, .ref a)]) (st' := [.int z51, .int z5, .ref a99]) rfl ?_
      refine En_iast (l := 0) (u := 15) rfl rfl ha99 (by decide +kernel) (by omega) (lnI (by decide +kernel : LN _ = 4) (by omega)) (FTsgl (by decide +kernel)) (rngI rfl (by omega) (by omega)) h70 h77 (by decide +kernel) (fun σ100 h101 h102 h103 h104 => ?_)
      have h105 : a99 = a + 5 := ref_uniq ((h104 _ _ (Or.inl (neTG ha ha99 (by decide)))).trans h98) (FXP_fr hP hX h102 (by decide +kernel)).2.2.1
      have h106 := lc_h (m := Sp.2.2.2 4) (by omega) (by omega)
      obtain ⟨S107, h108⟩ : ∃ q : PS, q = wst S79 (146 + 2 * Sp.2.2.2 4) ((tV By Nb S22.2.2.1)) := ⟨_, rfl⟩
      have h109 : CT By Nb σ100 S107 := by rw [h108]; exact CT_wst (CT_ne h81 h104 (by have := hP; unfold PLA at this; omega))
      have h110 : KN σ100 a (uPd Sp.2.2.2 (146 + 2 * Sp.2.2.2 4) ((tV By Nb S22.2.2.1))) (fun t => (act Sp.2.2.2 t ∨ t = 146 + 2 * Sp.2.2.2 4)) := KN_st h86 h103 h104 (by omega) (by omega) (by omega) (by omega) (by (try have i0 := Imp_m h84 (by omega)); (try have i1 := Imp_m h83 (by omega)); (try have i2 := Imp_m h60 (by omega)); (try have i3 := Imp_m h59 (by omega)); (try have i4 := Imp_m h48.2.2.2.2.2.2.2.1 (by omega)); omega)
      have h111 : S107.2.2.2 = (uPd Sp.2.2.2 (146 + 2 * Sp.2.2.2 4) ((tV By Nb S22.2.2.1))) := by rw [h108]; show uPd S79.2.2.2 _ _ = _; rw [h87]
      have h112 : S107.1 = S79.1 := by rw [h108]; rfl
      have h113 := CT_k h109 ((h104 _ _ (Or.inl (neTG (by decide +kernel : TG 3 = 3) ha99 (by decide)))).trans h74)
      have o114 : OUT σ0 σ100 a := OUT_st o88 h104 (by omega)
      refine En_Ps 1 (pc' := 54) (lv' := [(3, .int z75), (2, .int z51), (0, .ref 3), (1, .ref a)]) (st' := [.ref a]) rfl ?_
      refine En_getR (j := 10) (g' := 24) (u := 0) rfl rfl rfl ha (by decide +kernel) h101 (by decide +kernel) (fun a116 h115 ha116 => ?_)
      refine En_Ps 1 (pc' := 58) (lv' := [(3, .int z75), (2, .int z51), (0, .ref 3), (1, .ref a)]) (st' := [.ref a, .ref a116]) rfl ?_
      refine En_getK (j := 8) ((h104 _ _ (Or.inl (neTG ha ha99 (by decide)))).trans ((h71 _ _ (inW ha (by decide +kernel))).trans ((h47 _ _ (inW ha (by decide +kernel))).trans ((h18 _ _ (inW ha (by decide +kernel))).trans h4)))) rfl rfl rfl ha (by decide +kernel) ?_
      refine En_Ps 1 (pc' := 62) (lv' := [(3, .int z75), (2, .int z51), (0, .ref 3), (1, .ref a)]) (st' := [.int z75, .int z5, .ref a116]) rfl ?_
      refine En_iast (l := 0) (u := 15) rfl rfl ha116 (by decide +kernel) (by omega) (lnI (by decide +kernel : LN _ = 4) (by omega)) (FTsgl (by decide +kernel)) (rngI rfl (by omega) (by omega)) h101 h102 (by decide +kernel) (fun σ117 h118 h119 h120 h121 => ?_)
      have h122 : a116 = a + 6 := ref_uniq ((h121 _ _ (Or.inl (neTG ha ha116 (by decide)))).trans h115) (FXP_fr hP hX h119 (by decide +kernel)).2.2.2.1
      have h123 := lc_h (m := Sp.2.2.2 4) (by omega) (by omega)
      obtain ⟨S124, h125⟩ : ∃ q : PS, q = wst S107 (146 + 2 * Sp.2.2.2 4 + 1) ((tV By Nb S55.2.2.1)) := ⟨_, rfl⟩
      have h126 : CT By Nb σ117 S124 := by rw [h125]; exact CT_wst (CT_ne h109 h121 (by have := hP; unfold PLA at this; omega))
      have h127 : KN σ117 a (uPd (uPd Sp.2.2.2 (146 + 2 * Sp.2.2.2 4) ((tV By Nb S22.2.2.1))) (146 + 2 * Sp.2.2.2 4 + 1) ((tV By Nb S55.2.2.1))) (fun t => ((act Sp.2.2.2 t ∨ t = 146 + 2 * Sp.2.2.2 4) ∨ t = 146 + 2 * Sp.2.2.2 4 + 1)) := KN_st h110 h120 h121 (by omega) (by omega) (by omega) (by omega) (by (try have i0 := Imp_m h84 (by omega)); (try have i1 := Imp_m h83 (by omega)); (try have i2 := Imp_m h60 (by omega)); (try have i3 := Imp_m h59 (by omega)); (try have i4 := Imp_m h48.2.2.2.2.2.2.2.1 (by omega)); omega)
      have h128 : S124.2.2.2 = (uPd (uPd Sp.2.2.2 (146 + 2 * Sp.2.2.2 4) ((tV By Nb S22.2.2.1))) (146 + 2 * Sp.2.2.2 4 + 1) ((tV By Nb S55.2.2.1))) := by rw [h125]; show uPd S107.2.2.2 _ _ = _; rw [h111]
      have h129 : S124.1 = S107.1 := by rw [h125]; rfl
      have h130 := CT_k h126 ((h121 _ _ (Or.inl (neTG (by decide +kernel : TG 3 = 3) ha116 (by decide)))).trans ((h104 _ _ (Or.inl (neTG (by decide +kernel : TG 3 = 3) ha99 (by decide)))).trans h74))
      have o131 : OUT σ0 σ117 a := OUT_st o114 h121 (by omega)
      have h132 : fRule By Nb (146 + 2 * Sp.2.2.2 4) S22 = S124 := by unfold fRule; (try dsimp only); rw [← h56, ← h80, ← h108, ← h125]; first | (rw [if_pos (by omega)]; first | done | rfl) | (rw [if_neg (by omega)]; first | done | rfl)
      refine En_Ps 2 (pc' := 65) (lv' := [(3, .int z75), (2, .int z51), (0, .ref 3), (1, .ref a)]) (st' := [.ref a, .ref a]) rfl ?_
      refine En_getK (j := 8) ((h121 _ _ (Or.inl (neTG ha ha116 (by decide)))).trans ((h104 _ _ (Or.inl (neTG ha ha99 (by decide)))).trans ((h71 _ _ (inW ha (by decide +kernel))).trans ((h47 _ _ (inW ha (by decide +kernel))).trans ((h18 _ _ (inW ha (by decide +kernel))).trans h4))))) rfl rfl rfl ha (by decide +kernel) ?_
      refine En_Ps 2 (pc' := 70) (lv' := [(3, .int z75), (2, .int z51), (0, .ref 3), (1, .ref a)]) (st' := [.int ((z5 + ((Int32.ofInt 1)))), .ref a]) rfl ?_
      refine En_top (addI rfl (by decide : (Int32.ofInt 1).toInt = 1) (by omega) (by omega)) (fun z133 h134 => ?_)
      refine En_put (j := 8) rfl rfl rfl ha (by decide +kernel) rfl (vI (l := 0) (u := 4) (by decide +kernel) rfl (by omega) (by omega)) h118 h119 (by decide +kernel) (fun σ135 h136 h137 h138 h139 => ?_)
      obtain ⟨S140, h141⟩ : ∃ q : PS, q = wst S124 (4) (Sp.2.2.2 4 + 1) := ⟨_, rfl⟩
      have h142 : CT By Nb σ135 S140 := by rw [h141]; exact CT_wst (CT_ne h126 h139 (by have := hP; unfold PLA at this; omega))
      have h143 : KN σ135 a (uPd (uPd (uPd Sp.2.2.2 (146 + 2 * Sp.2.2.2 4) ((tV By Nb S22.2.2.1))) (146 + 2 * Sp.2.2.2 4 + 1) ((tV By Nb S55.2.2.1))) (4) (Sp.2.2.2 4 + 1)) (fun t => (((act Sp.2.2.2 t ∨ t = 146 + 2 * Sp.2.2.2 4) ∨ t = 146 + 2 * Sp.2.2.2 4 + 1) ∨ t = 4)) := KN_st h127 h138 h139 (by omega) (by omega) (by rw [lcO_lt (by decide) (by decide), Nat.add_zero]) (by decide) (by (try have i0 := Imp_m h84 (by omega)); (try have i1 := Imp_m h83 (by omega)); (try have i2 := Imp_m h60 (by omega)); (try have i3 := Imp_m h59 (by omega)); (try have i4 := Imp_m h48.2.2.2.2.2.2.2.1 (by omega)); omega)
      have h144 : S140.2.2.2 = (uPd (uPd (uPd Sp.2.2.2 (146 + 2 * Sp.2.2.2 4) ((tV By Nb S22.2.2.1))) (146 + 2 * Sp.2.2.2 4 + 1) ((tV By Nb S55.2.2.1))) (4) (Sp.2.2.2 4 + 1)) := by rw [h141]; show uPd S124.2.2.2 _ _ = _; rw [h128]
      have h145 : S140.1 = S124.1 := by rw [h141]; rfl
      have h146 := CT_k h142 ((h139 _ _ (Or.inr (by decide))).trans ((h121 _ _ (Or.inl (neTG (by decide +kernel : TG 3 = 3) ha116 (by decide)))).trans ((h104 _ _ (Or.inl (neTG (by decide +kernel : TG 3 = 3) ha99 (by decide)))).trans h74)))
      have o147 : OUT σ0 σ135 a := OUT_st o131 h139 (by omega)
      have h148 : fHouse By Nb Sp = S140 := by unfold fHouse; (try dsimp only); first | (rw [← h23, h132, ← h141]; first | done | rfl) | (rw [← h23, h132, ← h141]; rw [if_pos (by omega)]; first | done | rfl) | (rw [← h23, h132, ← h141]; rw [if_neg (by omega)]; first | done | rfl) | (rw [← h23, h132, ← h141]; rw [if_neg (by omega), if_pos (by omega)]; first | done | rfl) | (rw [← h23, h132, ← h141]; rw [if_neg (by omega), if_neg (by omega)]; first | done | rfl) | (rw [← h23, h132, ← h141]; rw [if_neg (by omega), if_neg (by omega), if_neg (by omega)]; first | done | rfl)
      exact En_ret (v := none) rfl rfl rfl ⟨h136, h137, z73, ((h139 _ _ (Or.inr (by decide))).trans ((h121 _ _ (Or.inl (neTG (by decide +kernel : TG 3 = 3) ha116 (by decide)))).trans ((h104 _ _ (Or.inl (neTG (by decide +kernel : TG 3 = 3) ha99 (by decide)))).trans h74))), rfl, ⟨o147, by omega, by omega, by omega, by omega, by omega, by omega, by omega, (by rw [h148]; exact ⟨h142, fun zz => by rw [h144]; exact KN_sub h143 (fun t t0 t1 y => AHs (by omega) y)⟩)⟩⟩
  · refine En_Ps 2 (pc' := 10) (lv' := [(0, .ref 3), (1, .ref a)]) (st' := [.int ((Int32.ofInt 3)), .ref 3]) rfl ?_
    have := (by decide : ((Int32.ofInt 3)).toInt = 3)
    refine En_callV rfl rfl rfl rfl rfl rfl rfl rfl (by decide +kernel : TG 3 = 3) (by decide +kernel) rfl (c_54x σ0 hσ0 ((Int32.ofInt 3)) (geI (by decide : (Int32.ofInt 3).toInt = 3) (by omega)) (leI (by decide : (Int32.ofInt 3).toInt = 3) (by omega)) f h_f hC) (by decide) (by decide) (fun v150 σ151 h149 => ?_)
    obtain ⟨h152, h153, z155, h156, rfl, h154⟩ := h149
    have h157 := h154.2.2.2.2.2.2
    have h158 := Fr_trans hF0 h153 (by decide +kernel)
    obtain ⟨S159, h160⟩ : ∃ q : PS, q = err By Nb 3 Sp := ⟨_, rfl⟩
    have h161 : CT By Nb σ151 S159 := by rw [h160]; exact (CT_eq h157 (err_cg (by omega)))
    have h162 := CT_k h161 h156
    have h163 : S159.2.2.2 = Sp.2.2.2 := by rw [h160]; exact err_w
    have h164 := KN_fr hP hK h153 (by decide +kernel)
    have h165 : S159.2.2.2 = Sp.2.2.2 := h163.trans (rfl : Sp.2.2.2 = Sp.2.2.2)
    have o166 : OUT σ0 σ151 a := OUT_fr OUT_0 h153 (by decide +kernel)
    have h167 : fHouse By Nb Sp = S159 := by unfold fHouse; (try dsimp only); first | (rw [← h160]; first | done | rfl) | (rw [← h160]; rw [if_pos (by omega)]; first | done | rfl) | (rw [← h160]; rw [if_neg (by omega)]; first | done | rfl) | (rw [← h160]; rw [if_neg (by omega), if_pos (by omega)]; first | done | rfl) | (rw [← h160]; rw [if_neg (by omega), if_neg (by omega)]; first | done | rfl) | (rw [← h160]; rw [if_neg (by omega), if_neg (by omega), if_neg (by omega)]; first | done | rfl)
    exact En_ret (v := none) rfl rfl rfl ⟨h152, h158, z155, h156, rfl, ⟨o166, by omega, by omega, by omega, by omega, by omega, by omega, by omega, (by rw [h167]; exact ⟨h161, fun z => absurd z (by omega)⟩)⟩⟩

/-- DoorSchool$Reader.readCourse(LDoorSchool$Plan;)V -/
abbrev P_62x (σ0 : SG) (By : Int → Int) (Nb : Int) (Sp : PS) (a : Nat) (f : Int32) (sg : Int32) : PO := fun v σ => WT σ ∧ Fr [(3, 1), (3, 2), (3, 3), (3, 4), (3, 5), (3, 6), (18, 11), (25, 0)] σ0 σ ∧ ∃ f1 : Int32, (σ 3)[5]? = some (.int f1) ∧ v = none ∧ OUT σ0 σ a ∧ -f1.toInt ≤ 0 ∧ f1.toInt - 3 ≤ 0 ∧ -f1.toInt + f.toInt ≤ 0 ∧ f1.toInt - f.toInt - 3 ≤ 0 ∧ -f1.toInt + sg.toInt - 4 ≤ 0 ∧ f1.toInt - sg.toInt - 3 ≤ 0 ∧ f.toInt - f1.toInt ≤ 0 ∧ (CT By Nb σ (fCourse By Nb Sp) ∧ ((fCourse By Nb Sp).1 = 0 → KN σ a (fCourse By Nb Sp).2.2.2 (act (fCourse By Nb Sp).2.2.2)))
set_option maxRecDepth 10000 in
set_option maxHeartbeats 4000000 in
theorem c_62x {By : Int → Int} {Nb : Int} {Sp : PS} (σ0 : SG) (hσ0 : WT σ0) (a : Nat) (ha : TG a = 18) (f : Int32) (h_f : (σ0 3)[5]? = some (.int f)) (sg : Int32) (h_sg : (σ0 a)[1]? = some (.int sg)) (hp0 : -sg.toInt ≤ 0) (hC : CT By Nb σ0 Sp) (hg : Sp.1 = 0) (hP : PLA a) (hX : FXP σ0 a) (hK : KN σ0 a Sp.2.2.2 (act Sp.2.2.2)) : En 5 112 none mr_62 (P_62x σ0 By Nb Sp a f sg) 0 [(0, .ref 3), (1, .ref a)] [] σ0 := by
  obtain ⟨hl_f, hu_f⟩ := WT_int hσ0 (g := 3) (by decide +kernel) (by decide +kernel) (l := 0) (u := 3) (by decide +kernel) h_f
  obtain ⟨hl_sg, hu_sg⟩ := WT_int hσ0 (g := 18) ha (by decide +kernel) (l := (-1)) (u := 4) (by decide +kernel) h_sg
  have hF0 : Fr [(3, 1), (3, 2), (3, 3), (3, 4), (3, 5), (3, 6), (18, 11), (25, 0)] σ0 σ0 := Fr_rfl
  have h1 := CT_k hC h_f
  obtain ⟨z3, h2, h4, h5⟩ := WT_peekI hσ0 ha (by decide +kernel : FT 18 11 = (0, 0, 6)) (by decide +kernel)
  have h6 : Sp.2.2.2 5 = z3.toInt := KN_v hK (Or.inl (by decide)) (by decide) (by decide) (by rw [lcO_lt (by decide) (by decide), Nat.add_zero]) rfl h2
  refine En_Ps 1 (pc' := 1) (lv' := [(0, .ref 3), (1, .ref a)]) (st' := [.ref a]) rfl ?_
  refine En_getK (j := 11) h2 rfl rfl rfl ha (by decide +kernel) ?_
  refine En_Ps 1 (pc' := 6) (lv' := [(0, .ref 3), (1, .ref a)]) (st' := [.int (((Int8.ofInt 6).toInt32)), .int z3]) rfl ?_
  refine En_icLt _ rfl (by decide : ((Int8.ofInt 6).toInt32).toInt = 6) rfl (fun h7 => ?_) (fun h7 => ?_)
  · refine En_Ps 1 (pc' := 16) (lv' := [(0, .ref 3), (1, .ref a)]) (st' := [.ref 3]) rfl ?_
    obtain ⟨z9, h8, h10, h11⟩ := WT_peekI hσ0 (by decide +kernel : TG 3 = 3) (by decide +kernel : FT 3 3 = (0, 0, 1600)) (by decide +kernel)
    refine En_callV rfl rfl rfl rfl rfl rfl rfl rfl (by decide +kernel : TG 3 = 3) (by decide +kernel) rfl (c_72x σ0 hσ0 z9 h8 hC.1 (CT_at hC (by omega) h8)) (by decide) (by decide) (fun v13 σ14 h12 => ?_)
    obtain ⟨h15, h16, rfl, h17⟩ := h12
    have h18 := h17
    have h19 := Fr_trans hF0 h16 (by decide +kernel)
    obtain ⟨S20, h21⟩ : ∃ q : PS, q = adv By Nb Sp := ⟨_, rfl⟩
    have h22 : CT By Nb σ14 S20 := by rw [h21]; exact (CT_adv hC (by omega) h8 h16 (by decide +kernel) h18.2)
    have h23 := CT_k h22 ((h16 _ _ (inW (by decide +kernel : TG 3 = 3) (by decide +kernel))).trans h_f)
    have h24 : S20.2.2.2 = Sp.2.2.2 := by rw [h21]; exact adv_w
    have h25 : S20.1 = Sp.1 := by rw [h21]; exact adv_1
    have h26 := KN_fr hP hK h16 (by decide +kernel)
    have h27 : S20.2.2.2 = Sp.2.2.2 := h24.trans (rfl : Sp.2.2.2 = Sp.2.2.2)
    have o28 : OUT σ0 σ14 a := OUT_fr OUT_0 h16 (by decide +kernel)
    refine En_Ps 2 (pc' := 21) (lv' := [(0, .ref 3), (1, .ref a)]) (st' := [.ref 3, .ref 3]) rfl ?_
    refine En_ldcS (i := 15) rfl rfl rfl ?_
    refine En_callV rfl rfl rfl rfl rfl rfl rfl rfl (by decide +kernel : TG 3 = 3) (by decide +kernel) rfl (c_71s15x σ14 h15 h22) (by decide) (by decide) (fun v30 σ31 h29 => ?_)
    obtain ⟨h32, h33, z35, rfl, h34⟩ := h29
    have h36 := h34.2.2
    obtain rfl : σ14 = σ31 := Fr_nil h33
    have h37 := h36
    refine En_callV rfl rfl rfl rfl rfl rfl rfl rfl (by decide +kernel : TG 3 = 3) (by decide +kernel) rfl (c_59x σ14 h15 z35 (geI rfl (by omega)) (leI rfl (by omega)) f ((h16 _ _ (inW (by decide +kernel : TG 3 = 3) (by decide +kernel))).trans h_f) h22) (by decide) (by decide) (fun v39 σ40 h38 => ?_)
    obtain ⟨h41, h42, z44, h45, rfl, h43⟩ := h38
    have h46 := h43.2.2.2.2.2.2.2
    have h47 := Fr_trans h19 h42 (by decide +kernel)
    have h48 : pss By Nb z35.toInt S20 = pss By Nb (iW By Nb 15 S20) S20 := pss_cg2 (fun zz => by (try have i0 := Imp_m h37 (by omega)); omega)
    obtain ⟨S49, h50⟩ : ∃ q : PS, q = pss By Nb (iW By Nb 15 S20) S20 := ⟨_, rfl⟩
    have h51 : CT By Nb σ40 S49 := by rw [h50]; exact (CT_eq h46 h48)
    have h52 := CT_k h51 h45
    have h53 : S49.2.2.2 = S20.2.2.2 := by rw [h50]; exact pss_w
    have h54 : Imp (S49.1 = 0) (S20.1 = 0) := fun z => (pss_g (by rw [h48, ← h50]; exact z)).1
    have h55 : Imp (S49.1 = 0) (z35.toInt = 1) := fun z => (pss_g (by rw [h48, ← h50]; exact z)).2.1
    have h56 := KN_fr hP h26 h42 (by decide +kernel)
    have h57 : S49.2.2.2 = Sp.2.2.2 := h53.trans h27
    have o58 : OUT σ0 σ40 a := OUT_fr o28 h42 (by decide +kernel)
    refine En_Ps 3 (pc' := 33) (lv' := [(0, .ref 3), (1, .ref a)]) (st' := [.int (((Int8.ofInt 9).toInt32)), .int ((Int32.ofInt 1)), .ref 3]) rfl ?_
    have := (by decide : ((Int32.ofInt 1)).toInt = 1)
    have := (by decide : (((Int8.ofInt 9).toInt32)).toInt = 9)
    refine En_callV rfl rfl rfl rfl rfl rfl rfl rfl (by decide +kernel : TG 3 = 3) (by decide +kernel) rfl (c_73x σ40 h41 ((Int32.ofInt 1)) (((Int8.ofInt 9).toInt32)) z44 h45 h51) (by decide) (by decide) (fun v60 σ61 h59 => ?_)
    obtain ⟨h62, h63, z65, h66, z67, rfl, h64⟩ := h59
    have h68 := h64.2.2.2.2.2.2.2.2.2.2
    have h69 := Fr_trans h47 h63 (by decide +kernel)
    have h70 : tN By Nb ((Int32.ofInt 1)).toInt (((Int8.ofInt 9).toInt32)).toInt S49 = tN By Nb (1) (9) S49 := tN_cg2 (fun zz => by omega) (fun zz => by omega)
    obtain ⟨S71, h72⟩ : ∃ q : PS, q = tN By Nb (1) (9) S49 := ⟨_, rfl⟩
    have h73 : CT By Nb σ61 S71 := by rw [h72]; exact (CT_eq h68.1 h70)
    have h74 := CT_k h73 h66
    have h75 : Imp (S71.1 = 0) (z67.toInt = tV By Nb S49.2.2.1) := fun z => Imp_m h68.2 (by rw [h70, ← h72]; exact z)
    have h76 : Imp (S71.1 = 0) (S49.1 = 0 ∧ tK By Nb S49.2.2.1 = 2 ∧ 1 ≤ tV By Nb S49.2.2.1 ∧ tV By Nb S49.2.2.1 ≤ 9) := fun z => tN_gg (by rw [← h72]; exact z)
    have h77 : S71.2.2.2 = S49.2.2.2 := by rw [h72]; exact tN_w
    have h78 := KN_fr hP h56 h63 (by decide +kernel)
    have h79 : S71.2.2.2 = Sp.2.2.2 := h77.trans h57
    have o80 : OUT σ0 σ61 a := OUT_fr o58 h63 (by decide +kernel)
    have h81 := Imp_m h64.2.2.2.2.2.2.2.2.1 (by omega)
    have h82 := Imp_m h64.2.2.2.2.2.2.2.2.2.1 (by omega)
    refine En_Ps 2 (pc' := 38) (lv' := [(2, .int z67), (0, .ref 3), (1, .ref a)]) (st' := [.ref 3]) rfl ?_
    refine En_getK (j := 5) h66 rfl rfl rfl (by decide +kernel : TG 3 = 3) (by decide +kernel) ?_
    refine En_iNe _ rfl rfl (fun h83 => ?_) (fun h83 => ?_)
    · have h84 := Imp_m h64.2.2.2.2.2.2.2.1 (by omega)
      have h85 : fCourse By Nb Sp = S71 := by unfold fCourse; (try dsimp only); first | (rw [← h21, ← h50, ← h72]; first | done | rfl) | (rw [← h21, ← h50, ← h72]; rw [if_pos (by omega)]; first | done | rfl) | (rw [← h21, ← h50, ← h72]; rw [if_neg (by omega)]; first | done | rfl) | (rw [← h21, ← h50, ← h72]; rw [if_neg (by omega), if_pos (by omega)]; first | done | rfl) | (rw [← h21, ← h50, ← h72]; rw [if_neg (by omega), if_neg (by omega)]; first | done | rfl) | (rw [← h21, ← h50, ← h72]; rw [if_neg (by omega), if_neg (by omega), if_neg (by omega)]; first | done | rfl)
      exact En_ret (v := none) rfl rfl rfl ⟨h62, h69, z65, h66, rfl, ⟨o80, by omega, by omega, by omega, by omega, by omega, by omega, by omega, (by rw [h85]; exact ⟨h73, fun z => absurd z (by omega)⟩)⟩⟩
    · have h86 := Imp_m h64.2.2.2.2.2.2.1 (by omega)
      try have h87 := Imp_m h76 (by omega)
      try have h88 := Imp_m h75 (by omega)
      try have h89 := Imp_m h55 (by omega)
      try have h90 := Imp_m h54 (by omega)
      try have h91 := Imp_m h37 (by omega)
      refine En_Ps 1 (pc' := 45) (lv' := [(2, .int z67), (0, .ref 3), (1, .ref a)]) (st' := [.ref a]) rfl ?_
      refine En_getR (j := 12) (g' := 25) (u := 0) rfl rfl rfl ha (by decide +kernel) h62 (by decide +kernel) (fun a93 h92 ha93 => ?_)
      refine En_Ps 1 (pc' := 49) (lv' := [(2, .int z67), (0, .ref 3), (1, .ref a)]) (st' := [.ref a, .ref a93]) rfl ?_
      refine En_getK (j := 11) ((h63 _ _ (inW ha (by decide +kernel))).trans ((h42 _ _ (inW ha (by decide +kernel))).trans ((h16 _ _ (inW ha (by decide +kernel))).trans h2))) rfl rfl rfl ha (by decide +kernel) ?_
      refine En_Ps 1 (pc' := 53) (lv' := [(2, .int z67), (0, .ref 3), (1, .ref a)]) (st' := [.int z67, .int z3, .ref a93]) rfl ?_
      refine En_iast (l := 0) (u := 9) rfl rfl ha93 (by decide +kernel) (by omega) (lnI (by decide +kernel : LN _ = 6) (by omega)) (FTsgl (by decide +kernel)) (rngI rfl (by omega) (by omega)) h62 h69 (by decide +kernel) (fun σ94 h95 h96 h97 h98 => ?_)
      have h99 : a93 = a + 7 := ref_uniq ((h98 _ _ (Or.inl (neTG ha ha93 (by decide)))).trans h92) (FXP_fr hP hX h96 (by decide +kernel)).2.2.2.2.1
      have h100 := lc_c (m := Sp.2.2.2 5) (by omega) (by omega)
      obtain ⟨S101, h102⟩ : ∃ q : PS, q = wst S71 (154 + 2 * Sp.2.2.2 5) ((tV By Nb S49.2.2.1)) := ⟨_, rfl⟩
      have h103 : CT By Nb σ94 S101 := by rw [h102]; exact CT_wst (CT_ne h73 h98 (by have := hP; unfold PLA at this; omega))
      have h104 : KN σ94 a (uPd Sp.2.2.2 (154 + 2 * Sp.2.2.2 5) ((tV By Nb S49.2.2.1))) (fun t => (act Sp.2.2.2 t ∨ t = 154 + 2 * Sp.2.2.2 5)) := KN_st h78 h97 h98 (by omega) (by omega) (by omega) (by omega) (by (try have i0 := Imp_m h76 (by omega)); (try have i1 := Imp_m h75 (by omega)); (try have i2 := Imp_m h55 (by omega)); (try have i3 := Imp_m h54 (by omega)); (try have i4 := Imp_m h37 (by omega)); (try have i5 := Imp_m h43.2.2.2.2.1 (by omega)); (try have i6 := Imp_m h43.2.2.2.2.2.2.1 (by omega)); (try have i7 := Imp_m h64.2.2.2.2.2.2.2.1 (by omega)); omega)
      have h105 : S101.2.2.2 = (uPd Sp.2.2.2 (154 + 2 * Sp.2.2.2 5) ((tV By Nb S49.2.2.1))) := by rw [h102]; show uPd S71.2.2.2 _ _ = _; rw [h79]
      have h106 : S101.1 = S71.1 := by rw [h102]; rfl
      have h107 := CT_k h103 ((h98 _ _ (Or.inl (neTG (by decide +kernel : TG 3 = 3) ha93 (by decide)))).trans h66)
      have o108 : OUT σ0 σ94 a := OUT_st o80 h98 (by omega)
      refine En_Ps 2 (pc' := 56) (lv' := [(2, .int z67), (0, .ref 3), (1, .ref a)]) (st' := [.ref a, .ref a]) rfl ?_
      refine En_getK (j := 11) ((h98 _ _ (Or.inl (neTG ha ha93 (by decide)))).trans ((h63 _ _ (inW ha (by decide +kernel))).trans ((h42 _ _ (inW ha (by decide +kernel))).trans ((h16 _ _ (inW ha (by decide +kernel))).trans h2)))) rfl rfl rfl ha (by decide +kernel) ?_
      refine En_Ps 2 (pc' := 61) (lv' := [(2, .int z67), (0, .ref 3), (1, .ref a)]) (st' := [.int ((z3 + ((Int32.ofInt 1)))), .ref a]) rfl ?_
      refine En_top (addI rfl (by decide : (Int32.ofInt 1).toInt = 1) (by omega) (by omega)) (fun z109 h110 => ?_)
      refine En_put (j := 11) rfl rfl rfl ha (by decide +kernel) rfl (vI (l := 0) (u := 6) (by decide +kernel) rfl (by omega) (by omega)) h95 h96 (by decide +kernel) (fun σ111 h112 h113 h114 h115 => ?_)
      obtain ⟨S116, h117⟩ : ∃ q : PS, q = wst S101 (5) (Sp.2.2.2 5 + 1) := ⟨_, rfl⟩
      have h118 : CT By Nb σ111 S116 := by rw [h117]; exact CT_wst (CT_ne h103 h115 (by have := hP; unfold PLA at this; omega))
      have h119 : KN σ111 a (uPd (uPd Sp.2.2.2 (154 + 2 * Sp.2.2.2 5) ((tV By Nb S49.2.2.1))) (5) (Sp.2.2.2 5 + 1)) (fun t => ((act Sp.2.2.2 t ∨ t = 154 + 2 * Sp.2.2.2 5) ∨ t = 5)) := KN_st h104 h114 h115 (by omega) (by omega) (by rw [lcO_lt (by decide) (by decide), Nat.add_zero]) (by decide) (by (try have i0 := Imp_m h76 (by omega)); (try have i1 := Imp_m h75 (by omega)); (try have i2 := Imp_m h55 (by omega)); (try have i3 := Imp_m h54 (by omega)); (try have i4 := Imp_m h37 (by omega)); (try have i5 := Imp_m h43.2.2.2.2.1 (by omega)); (try have i6 := Imp_m h43.2.2.2.2.2.2.1 (by omega)); (try have i7 := Imp_m h64.2.2.2.2.2.2.2.1 (by omega)); omega)
      have h120 : S116.2.2.2 = (uPd (uPd Sp.2.2.2 (154 + 2 * Sp.2.2.2 5) ((tV By Nb S49.2.2.1))) (5) (Sp.2.2.2 5 + 1)) := by rw [h117]; show uPd S101.2.2.2 _ _ = _; rw [h105]
      have h121 : S116.1 = S101.1 := by rw [h117]; rfl
      have h122 := CT_k h118 ((h115 _ _ (Or.inr (by decide))).trans ((h98 _ _ (Or.inl (neTG (by decide +kernel : TG 3 = 3) ha93 (by decide)))).trans h66))
      have o123 : OUT σ0 σ111 a := OUT_st o108 h115 (by omega)
      have h124 : fCourse By Nb Sp = S116 := by unfold fCourse; (try dsimp only); first | (rw [← h21, ← h50, ← h72, ← h102, ← h117]; first | done | rfl) | (rw [← h21, ← h50, ← h72, ← h102, ← h117]; rw [if_pos (by omega)]; first | done | rfl) | (rw [← h21, ← h50, ← h72, ← h102, ← h117]; rw [if_neg (by omega)]; first | done | rfl) | (rw [← h21, ← h50, ← h72, ← h102, ← h117]; rw [if_neg (by omega), if_pos (by omega)]; first | done | rfl) | (rw [← h21, ← h50, ← h72, ← h102, ← h117]; rw [if_neg (by omega), if_neg (by omega)]; first | done | rfl) | (rw [← h21, ← h50, ← h72, ← h102, ← h117]; rw [if_neg (by omega), if_neg (by omega), if_neg (by omega)]; first | done | rfl)
      exact En_ret (v := none) rfl rfl rfl ⟨h112, h113, z65, ((h115 _ _ (Or.inr (by decide))).trans ((h98 _ _ (Or.inl (neTG (by decide +kernel : TG 3 = 3) ha93 (by decide)))).trans h66)), rfl, ⟨o123, by omega, by omega, by omega, by omega, by omega, by omega, by omega, (by rw [h124]; exact ⟨h118, fun zz => by rw [h120]; exact KN_sub h119 (fun t t0 t1 y => ACs (by omega) y)⟩)⟩⟩
  · refine En_Ps 2 (pc' := 11) (lv' := [(0, .ref 3), (1, .ref a)]) (st' := [.int ((Int32.ofInt 3)), .ref 3]) rfl ?_
    have := (by decide : ((Int32.ofInt 3)).toInt = 3)
    refine En_callV rfl rfl rfl rfl rfl rfl rfl rfl (by decide +kernel : TG 3 = 3) (by decide +kernel) rfl (c_54x σ0 hσ0 ((Int32.ofInt 3)) (geI (by decide : (Int32.ofInt 3).toInt = 3) (by omega)) (leI (by decide : (Int32.ofInt 3).toInt = 3) (by omega)) f h_f hC) (by decide) (by decide) (fun v126 σ127 h125 => ?_)
    obtain ⟨h128, h129, z131, h132, rfl, h130⟩ := h125
    have h133 := h130.2.2.2.2.2.2
    have h134 := Fr_trans hF0 h129 (by decide +kernel)
    obtain ⟨S135, h136⟩ : ∃ q : PS, q = err By Nb 3 Sp := ⟨_, rfl⟩
    have h137 : CT By Nb σ127 S135 := by rw [h136]; exact (CT_eq h133 (err_cg (by omega)))
    have h138 := CT_k h137 h132
    have h139 : S135.2.2.2 = Sp.2.2.2 := by rw [h136]; exact err_w
    have h140 := KN_fr hP hK h129 (by decide +kernel)
    have h141 : S135.2.2.2 = Sp.2.2.2 := h139.trans (rfl : Sp.2.2.2 = Sp.2.2.2)
    have o142 : OUT σ0 σ127 a := OUT_fr OUT_0 h129 (by decide +kernel)
    have h143 : fCourse By Nb Sp = S135 := by unfold fCourse; (try dsimp only); first | (rw [← h136]; first | done | rfl) | (rw [← h136]; rw [if_pos (by omega)]; first | done | rfl) | (rw [← h136]; rw [if_neg (by omega)]; first | done | rfl) | (rw [← h136]; rw [if_neg (by omega), if_pos (by omega)]; first | done | rfl) | (rw [← h136]; rw [if_neg (by omega), if_neg (by omega)]; first | done | rfl) | (rw [← h136]; rw [if_neg (by omega), if_neg (by omega), if_neg (by omega)]; first | done | rfl)
    exact En_ret (v := none) rfl rfl rfl ⟨h128, h134, z131, h132, rfl, ⟨o142, by omega, by omega, by omega, by omega, by omega, by omega, by omega, (by rw [h143]; exact ⟨h137, fun z => absurd z (by omega)⟩)⟩⟩
/-- DoorSchool$Reader.readAhead(LDoorSchool$Plan;)V -/
abbrev P_61x (σ0 : SG) (By : Int → Int) (Nb : Int) (Sp : PS) (a : Nat) (f : Int32) (sg : Int32) : PO := fun v σ => WT σ ∧ Fr [(3, 1), (3, 2), (3, 3), (3, 4), (3, 5), (3, 6), (26, 0)] σ0 σ ∧ ∃ f1 : Int32, (σ 3)[5]? = some (.int f1) ∧ v = none ∧ OUT σ0 σ a ∧ -f1.toInt ≤ 0 ∧ f1.toInt - 3 ≤ 0 ∧ -f1.toInt + f.toInt ≤ 0 ∧ f1.toInt - f.toInt - 3 ≤ 0 ∧ -f1.toInt + sg.toInt - 4 ≤ 0 ∧ f1.toInt - sg.toInt - 3 ≤ 0 ∧ f.toInt - f1.toInt ≤ 0 ∧ (CT By Nb σ (fAhead By Nb Sp) ∧ ((fAhead By Nb Sp).1 = 0 → KN σ a (fAhead By Nb Sp).2.2.2 (act (fAhead By Nb Sp).2.2.2)))
set_option maxRecDepth 10000 in
set_option maxHeartbeats 4000000 in
theorem c_61x {By : Int → Int} {Nb : Int} {Sp : PS} (σ0 : SG) (hσ0 : WT σ0) (a : Nat) (ha : TG a = 18) (f : Int32) (h_f : (σ0 3)[5]? = some (.int f)) (sg : Int32) (h_sg : (σ0 a)[1]? = some (.int sg)) (hp0 : -sg.toInt ≤ 0) (hC : CT By Nb σ0 Sp) (hg : Sp.1 = 0) (hP : PLA a) (hX : FXP σ0 a) (hK : KN σ0 a Sp.2.2.2 (act Sp.2.2.2)) : En 3 66 none mr_61 (P_61x σ0 By Nb Sp a f sg) 0 [(0, .ref 3), (1, .ref a)] [] σ0 := by
  obtain ⟨hl_f, hu_f⟩ := WT_int hσ0 (g := 3) (by decide +kernel) (by decide +kernel) (l := 0) (u := 3) (by decide +kernel) h_f
  obtain ⟨hl_sg, hu_sg⟩ := WT_int hσ0 (g := 18) ha (by decide +kernel) (l := (-1)) (u := 4) (by decide +kernel) h_sg
  have hF0 : Fr [(3, 1), (3, 2), (3, 3), (3, 4), (3, 5), (3, 6), (26, 0)] σ0 σ0 := Fr_rfl
  have h1 := CT_k hC h_f
  obtain ⟨z3, h2, h4, h5⟩ := WT_peekI hσ0 ha (by decide +kernel : FT 18 11 = (0, 0, 6)) (by decide +kernel)
  have h6 : Sp.2.2.2 5 = z3.toInt := KN_v hK (Or.inl (by decide)) (by decide) (by decide) (by rw [lcO_lt (by decide) (by decide), Nat.add_zero]) rfl h2
  refine En_Ps 1 (pc' := 1) (lv' := [(0, .ref 3), (1, .ref a)]) (st' := [.ref 3]) rfl ?_
  obtain ⟨z8, h7, h9, h10⟩ := WT_peekI hσ0 (by decide +kernel : TG 3 = 3) (by decide +kernel : FT 3 3 = (0, 0, 1600)) (by decide +kernel)
  refine En_callV rfl rfl rfl rfl rfl rfl rfl rfl (by decide +kernel : TG 3 = 3) (by decide +kernel) rfl (c_72x σ0 hσ0 z8 h7 hC.1 (CT_at hC (by omega) h7)) (by decide) (by decide) (fun v12 σ13 h11 => ?_)
  obtain ⟨h14, h15, rfl, h16⟩ := h11
  have h17 := h16
  have h18 := Fr_trans hF0 h15 (by decide +kernel)
  obtain ⟨S19, h20⟩ : ∃ q : PS, q = adv By Nb Sp := ⟨_, rfl⟩
  have h21 : CT By Nb σ13 S19 := by rw [h20]; exact (CT_adv hC (by omega) h7 h15 (by decide +kernel) h17.2)
  have h22 := CT_k h21 ((h15 _ _ (inW (by decide +kernel : TG 3 = 3) (by decide +kernel))).trans h_f)
  have h23 : S19.2.2.2 = Sp.2.2.2 := by rw [h20]; exact adv_w
  have h24 : S19.1 = Sp.1 := by rw [h20]; exact adv_1
  have h25 := KN_fr hP hK h15 (by decide +kernel)
  have h26 : S19.2.2.2 = Sp.2.2.2 := h23.trans (rfl : Sp.2.2.2 = Sp.2.2.2)
  have o27 : OUT σ0 σ13 a := OUT_fr OUT_0 h15 (by decide +kernel)
  refine En_Ps 3 (pc' := 7) (lv' := [(0, .ref 3), (1, .ref a)]) (st' := [.ref a, .int ((Int32.ofInt 0)), .ref 3]) rfl ?_
  refine En_getK (j := 11) ((h15 _ _ (inW ha (by decide +kernel))).trans h2) rfl rfl rfl ha (by decide +kernel) ?_
  refine En_Ps 2 (pc' := 12) (lv' := [(0, .ref 3), (1, .ref a)]) (st' := [.int ((z3 - ((Int32.ofInt 1)))), .int ((Int32.ofInt 0)), .ref 3]) rfl ?_
  refine En_top (subI rfl (by decide : (Int32.ofInt 1).toInt = 1) (by omega) (by omega)) (fun z28 h29 => ?_)
  have := (by decide : ((Int32.ofInt 0)).toInt = 0)
  refine En_callV rfl rfl rfl rfl rfl rfl rfl rfl (by decide +kernel : TG 3 = 3) (by decide +kernel) rfl (c_73x σ13 h14 ((Int32.ofInt 0)) z28 f ((h15 _ _ (inW (by decide +kernel : TG 3 = 3) (by decide +kernel))).trans h_f) h21) (by decide) (by decide) (fun v31 σ32 h30 => ?_)
  obtain ⟨h33, h34, z36, h37, z38, rfl, h35⟩ := h30
  have h39 := h35.2.2.2.2.2.2.2.2.2.2
  have h40 := Fr_trans h18 h34 (by decide +kernel)
  have h41 : tN By Nb ((Int32.ofInt 0)).toInt z28.toInt S19 = tN By Nb (0) (Sp.2.2.2 5 - 1) S19 := tN_cg2 (fun zz => by omega) (fun zz => by omega)
  obtain ⟨S42, h43⟩ : ∃ q : PS, q = tN By Nb (0) (Sp.2.2.2 5 - 1) S19 := ⟨_, rfl⟩
  have h44 : CT By Nb σ32 S42 := by rw [h43]; exact (CT_eq h39.1 h41)
  have h45 := CT_k h44 h37
  have h46 : Imp (S42.1 = 0) (z38.toInt = tV By Nb S19.2.2.1) := fun z => Imp_m h39.2 (by rw [h41, ← h43]; exact z)
  have h47 : Imp (S42.1 = 0) (S19.1 = 0 ∧ tK By Nb S19.2.2.1 = 2 ∧ 0 ≤ tV By Nb S19.2.2.1 ∧ tV By Nb S19.2.2.1 ≤ Sp.2.2.2 5 - 1) := fun z => tN_gg (by rw [← h43]; exact z)
  have h48 : S42.2.2.2 = S19.2.2.2 := by rw [h43]; exact tN_w
  have h49 := KN_fr hP h25 h34 (by decide +kernel)
  have h50 : S42.2.2.2 = Sp.2.2.2 := h48.trans h26
  have o51 : OUT σ0 σ32 a := OUT_fr o27 h34 (by decide +kernel)
  have h52 := Imp_m h35.2.2.2.2.2.2.2.2.1 (by omega)
  have h53 := Imp_m h35.2.2.2.2.2.2.2.2.2.1 (by omega)
  refine En_Ps 5 (pc' := 20) (lv' := [(2, .int z38), (0, .ref 3), (1, .ref a)]) (st' := [.int ((z38 + ((Int32.ofInt 1)))), .ref 3]) rfl ?_
  refine En_top (addI rfl (by decide : (Int32.ofInt 1).toInt = 1) (by omega) (by omega)) (fun z54 h55 => ?_)
  refine En_Ps 1 (pc' := 21) (lv' := [(2, .int z38), (0, .ref 3), (1, .ref a)]) (st' := [.ref a, .int z54, .ref 3]) rfl ?_
  refine En_getK (j := 11) ((h34 _ _ (inW ha (by decide +kernel))).trans ((h15 _ _ (inW ha (by decide +kernel))).trans h2)) rfl rfl rfl ha (by decide +kernel) ?_
  refine En_Ps 2 (pc' := 26) (lv' := [(2, .int z38), (0, .ref 3), (1, .ref a)]) (st' := [.int ((z3 - ((Int32.ofInt 1)))), .int z54, .ref 3]) rfl ?_
  refine En_top (subI rfl (by decide : (Int32.ofInt 1).toInt = 1) (by omega) (by omega)) (fun z56 h57 => ?_)
  refine En_callV rfl rfl rfl rfl rfl rfl rfl rfl (by decide +kernel : TG 3 = 3) (by decide +kernel) rfl (c_73x σ32 h33 z54 z56 z36 h37 h44) (by decide) (by decide) (fun v59 σ60 h58 => ?_)
  obtain ⟨h61, h62, z64, h65, z66, rfl, h63⟩ := h58
  have h67 := h63.2.2.2.2.2.2.2.2.2.2
  have h68 := Fr_trans h40 h62 (by decide +kernel)
  have h69 : tN By Nb z54.toInt z56.toInt S42 = tN By Nb ((tV By Nb S19.2.2.1) + 1) (Sp.2.2.2 5 - 1) S42 := tN_cg2 (fun zz => by (try have i0 := Imp_m h47 (by omega)); (try have i1 := Imp_m h46 (by omega)); (try have i2 := Imp_m h35.2.2.2.2.2.2.1 (by omega)); (try have i3 := Imp_m h35.2.2.2.2.2.2.2.1 (by omega)); omega) (fun zz => by (try have i0 := Imp_m h47 (by omega)); (try have i1 := Imp_m h46 (by omega)); (try have i2 := Imp_m h35.2.2.2.2.2.2.1 (by omega)); (try have i3 := Imp_m h35.2.2.2.2.2.2.2.1 (by omega)); omega)
  obtain ⟨S70, h71⟩ : ∃ q : PS, q = tN By Nb ((tV By Nb S19.2.2.1) + 1) (Sp.2.2.2 5 - 1) S42 := ⟨_, rfl⟩
  have h72 : CT By Nb σ60 S70 := by rw [h71]; exact (CT_eq h67.1 h69)
  have h73 := CT_k h72 h65
  have h74 : Imp (S70.1 = 0) (z66.toInt = tV By Nb S42.2.2.1) := fun z => Imp_m h67.2 (by rw [h69, ← h71]; exact z)
  have h75 : Imp (S70.1 = 0) (S42.1 = 0 ∧ tK By Nb S42.2.2.1 = 2 ∧ (tV By Nb S19.2.2.1) + 1 ≤ tV By Nb S42.2.2.1 ∧ tV By Nb S42.2.2.1 ≤ Sp.2.2.2 5 - 1) := fun z => tN_gg (by rw [← h71]; exact z)
  have h76 : S70.2.2.2 = S42.2.2.2 := by rw [h71]; exact tN_w
  have h77 := KN_fr hP h49 h62 (by decide +kernel)
  have h78 : S70.2.2.2 = Sp.2.2.2 := h76.trans h50
  have o79 : OUT σ0 σ60 a := OUT_fr o51 h62 (by decide +kernel)
  have h80 := Imp_m h63.2.2.2.2.2.2.2.2.1 (by omega)
  have h81 := Imp_m h63.2.2.2.2.2.2.2.2.2.1 (by omega)
  refine En_Ps 2 (pc' := 31) (lv' := [(3, .int z66), (2, .int z38), (0, .ref 3), (1, .ref a)]) (st' := [.ref 3]) rfl ?_
  refine En_getK (j := 5) h65 rfl rfl rfl (by decide +kernel : TG 3 = 3) (by decide +kernel) ?_
  refine En_iNe _ rfl rfl (fun h82 => ?_) (fun h82 => ?_)
  · have h83 := Imp_m h63.2.2.2.2.2.2.2.1 (by omega)
    have h84 : fAhead By Nb Sp = S70 := by unfold fAhead; (try dsimp only); first | (rw [← h20, ← h43, ← h71]; first | done | rfl) | (rw [← h20, ← h43, ← h71]; rw [if_pos (by omega)]; first | done | rfl) | (rw [← h20, ← h43, ← h71]; rw [if_neg (by omega)]; first | done | rfl) | (rw [← h20, ← h43, ← h71]; rw [if_neg (by omega), if_pos (by omega)]; first | done | rfl) | (rw [← h20, ← h43, ← h71]; rw [if_neg (by omega), if_neg (by omega)]; first | done | rfl) | (rw [← h20, ← h43, ← h71]; rw [if_neg (by omega), if_neg (by omega), if_neg (by omega)]; first | done | rfl)
    exact En_ret (v := none) rfl rfl rfl ⟨h61, h68, z64, h65, rfl, ⟨o79, by omega, by omega, by omega, by omega, by omega, by omega, by omega, (by rw [h84]; exact ⟨h72, fun z => absurd z (by omega)⟩)⟩⟩
  · have h85 := Imp_m h35.2.2.2.2.2.2.1 (by omega)
    have h86 := Imp_m h63.2.2.2.2.2.2.1 (by omega)
    try have h87 := Imp_m h75 (by omega)
    try have h88 := Imp_m h74 (by omega)
    try have h89 := Imp_m h47 (by omega)
    try have h90 := Imp_m h46 (by omega)
    refine En_Ps 1 (pc' := 38) (lv' := [(3, .int z66), (2, .int z38), (0, .ref 3), (1, .ref a)]) (st' := [.ref a]) rfl ?_
    refine En_getR (j := 13) (g' := 26) (u := 0) rfl rfl rfl ha (by decide +kernel) h61 (by decide +kernel) (fun a92 h91 ha92 => ?_)
    refine En_Ps 2 (pc' := 43) (lv' := [(3, .int z66), (2, .int z38), (0, .ref 3), (1, .ref a)]) (st' := [.int z66, .ref a92, .int z66, .ref a92]) rfl ?_
    refine En_iald (l := 0) (u := 63) rfl rfl ha92 (by decide +kernel) h61 (by omega) (lnI (by decide +kernel : LN _ = 6) (by omega)) (FTsgl (by decide +kernel)) (fun z94 h93 h95 h96 => ?_)
    have h99 : a92 = a + 8 := ref_uniq h91 (FXP_fr hP hX h68 (by decide +kernel)).2.2.2.2.2.1
    have h98 := lc_c (m := (tV By Nb S42.2.2.1)) (by omega) (by omega)
    have h97 : Sp.2.2.2 (155 + 2 * (tV By Nb S42.2.2.1)) = z94.toInt := KN_v h77 (Or.inr (Or.inr (Or.inr (Or.inr (Or.inr (Or.inl ⟨by omega, by omega, Or.inl (by omega)⟩)))))) (by omega) (by omega) (by omega) (by omega) h93
    refine En_Ps 4 (pc' := 48) (lv' := [(3, .int z66), (2, .int z38), (0, .ref 3), (1, .ref a)]) (st' := [.int ((z94 ||| ((Int32.ofInt 1) <<< (z38 &&& 31)))), .int z66, .ref a92]) rfl ?_
    refine En_nam (fun z100 h101 => ?_)
    have h102 := orP_v (x := z94) (y := z38) h101 rfl rfl (by omega) (by omega) (by omega) (by omega)
    have h103 : z100.toInt = orP (Sp.2.2.2 (155 + 2 * (tV By Nb S42.2.2.1))) (tV By Nb S19.2.2.1) := by rw [h102.1]; exact orP_cg (by omega) (by omega)
    refine En_iast (l := 0) (u := 63) rfl rfl ha92 (by decide +kernel) (by omega) (lnI (by decide +kernel : LN _ = 6) (by omega)) (FTsgl (by decide +kernel)) (rngI rfl (by omega) (by omega)) h61 h68 (by decide +kernel) (fun σ104 h105 h106 h107 h108 => ?_)
    have h109 : a92 = a + 8 := ref_uniq ((h108 _ _ (Or.inl (neTG ha ha92 (by decide)))).trans h91) (FXP_fr hP hX h106 (by decide +kernel)).2.2.2.2.2.1
    have h110 := lc_c (m := (tV By Nb S42.2.2.1)) (by omega) (by omega)
    obtain ⟨S111, h112⟩ : ∃ q : PS, q = wst S70 (155 + 2 * (tV By Nb S42.2.2.1)) (orP (Sp.2.2.2 (155 + 2 * (tV By Nb S42.2.2.1))) (tV By Nb S19.2.2.1)) := ⟨_, rfl⟩
    have h113 : CT By Nb σ104 S111 := by rw [h112]; exact CT_wst (CT_ne h72 h108 (by have := hP; unfold PLA at this; omega))
    have h114 : KN σ104 a (uPd Sp.2.2.2 (155 + 2 * (tV By Nb S42.2.2.1)) (orP (Sp.2.2.2 (155 + 2 * (tV By Nb S42.2.2.1))) (tV By Nb S19.2.2.1))) (fun t => (act Sp.2.2.2 t ∨ t = 155 + 2 * (tV By Nb S42.2.2.1))) := KN_st h77 h107 h108 (by omega) (by omega) (by omega) (by omega) (by (try have i0 := Imp_m h75 (by omega)); (try have i1 := Imp_m h74 (by omega)); (try have i2 := Imp_m h47 (by omega)); (try have i3 := Imp_m h46 (by omega)); (try have i4 := Imp_m h35.2.2.2.2.2.2.2.1 (by omega)); (try have i5 := Imp_m h63.2.2.2.2.2.2.2.1 (by omega)); omega)
    have h115 : S111.2.2.2 = (uPd Sp.2.2.2 (155 + 2 * (tV By Nb S42.2.2.1)) (orP (Sp.2.2.2 (155 + 2 * (tV By Nb S42.2.2.1))) (tV By Nb S19.2.2.1))) := by rw [h112]; show uPd S70.2.2.2 _ _ = _; rw [h78]
    have h116 : S111.1 = S70.1 := by rw [h112]; rfl
    have h117 := CT_k h113 ((h108 _ _ (Or.inl (neTG (by decide +kernel : TG 3 = 3) ha92 (by decide)))).trans h65)
    have o118 : OUT σ0 σ104 a := OUT_st o79 h108 (by omega)
    have h119 : fAhead By Nb Sp = S111 := by unfold fAhead; (try dsimp only); first | (rw [← h20, ← h43, ← h71, ← h112]; first | done | rfl) | (rw [← h20, ← h43, ← h71, ← h112]; rw [if_pos (by omega)]; first | done | rfl) | (rw [← h20, ← h43, ← h71, ← h112]; rw [if_neg (by omega)]; first | done | rfl) | (rw [← h20, ← h43, ← h71, ← h112]; rw [if_neg (by omega), if_pos (by omega)]; first | done | rfl) | (rw [← h20, ← h43, ← h71, ← h112]; rw [if_neg (by omega), if_neg (by omega)]; first | done | rfl) | (rw [← h20, ← h43, ← h71, ← h112]; rw [if_neg (by omega), if_neg (by omega), if_neg (by omega)]; first | done | rfl)
    exact En_ret (v := none) rfl rfl rfl ⟨h105, h106, z64, ((h108 _ _ (Or.inl (neTG (by decide +kernel : TG 3 = 3) ha92 (by decide)))).trans h65), rfl, ⟨o118, by omega, by omega, by omega, by omega, by omega, by omega, by omega, (by rw [h119]; exact ⟨h113, fun zz => by rw [h115]; exact KN_sub h114 (fun t t0 t1 y => Or.inl (act_in (by omega) (by omega) y))⟩)⟩⟩
/-- DoorSchool$Reader.read(LDoorSchool$Plan;)V -/
abbrev P_60x (σ0 : SG) (By : Int → Int) (Nb : Int) (a : Nat) : PO := fun v σ => WT σ ∧ Fr [(3, 1), (3, 2), (3, 3), (3, 4), (3, 5), (3, 6), (18, 0), (18, 1), (18, 2), (18, 3), (18, 6), (18, 7), (18, 8), (18, 11), (18, 14), (20, 2), (21, 0), (22, 0), (23, 0), (24, 0), (25, 0), (26, 0), (28, 1), (28, 2), (28, 3)] σ0 σ ∧ ∃ f1 : Int32, (σ 3)[5]? = some (.int f1) ∧ ∃ sg1 : Int32, (σ a)[1]? = some (.int sg1) ∧ v = none ∧ OUT σ0 σ a ∧ -f1.toInt ≤ 0 ∧ f1.toInt - 3 ≤ 0 ∧ -sg1.toInt - 1 ≤ 0 ∧ sg1.toInt - 4 ≤ 0 ∧ -sg1.toInt - f1.toInt ≤ 0 ∧ (OTH a σ0 σ ∧ RDC By Nb a σ)
set_option maxRecDepth 10000 in
set_option maxHeartbeats 4000000 in
theorem c_60x {By : Int → Int} {Nb : Int} (σ0 : SG) (hσ0 : WT σ0) (a : Nat) (ha : TG a = 18) (hB : TPc By Nb σ0) (hP : PLA a) (hX : FXP σ0 a) : En 7 159 none mr_60 (P_60x σ0 By Nb a) 0 [(0, .ref 3), (1, .ref a)] [] σ0 := by
  have hF0 : Fr [(3, 1), (3, 2), (3, 3), (3, 4), (3, 5), (3, 6), (18, 0), (18, 1), (18, 2), (18, 3), (18, 6), (18, 7), (18, 8), (18, 11), (18, 14), (20, 2), (21, 0), (22, 0), (23, 0), (24, 0), (25, 0), (26, 0), (28, 1), (28, 2), (28, 3)] σ0 σ0 := Fr_rfl
  refine En_Ps 2 (pc' := 2) (lv' := [(0, .ref 3), (1, .ref a)]) (st' := [.int ((Int32.ofInt 0)), .ref 3]) rfl ?_
  refine En_put (j := 5) rfl rfl rfl (by decide +kernel : TG 3 = 3) (by decide +kernel) rfl (vI (l := 0) (u := 3) (by decide +kernel) (by decide : (Int32.ofInt 0).toInt = 0) (by omega) (by omega)) hσ0 hF0 (by decide +kernel) (fun σ1 h2 h3 h4 h5 => ?_)
  have h6 := OTH_pn (OTH_0 (a := a) (σ := σ0)) h5 (by decide +kernel : TG 3 = 3) (by decide)
  have o7 : OUT σ0 σ1 a := OUT_pn OUT_0 h5 (by decide +kernel : TG 3 = 3) (by decide)
  refine En_Ps 2 (pc' := 7) (lv' := [(0, .ref 3), (1, .ref a)]) (st' := [.int ((Int32.ofInt (-1))), .ref 3]) rfl ?_
  refine En_put (j := 6) rfl rfl rfl (by decide +kernel : TG 3 = 3) (by decide +kernel) rfl (vI (l := (-1)) (u := 1600) (by decide +kernel) (by decide : (Int32.ofInt (-1)).toInt = -1) (by omega) (by omega)) h2 h3 (by decide +kernel) (fun σ8 h9 h10 h11 h12 => ?_)
  have h13 := OTH_pn h6 h12 (by decide +kernel : TG 3 = 3) (by decide)
  have o14 : OUT σ0 σ8 a := OUT_pn o7 h12 (by decide +kernel : TG 3 = 3) (by decide)
  refine En_Ps 2 (pc' := 12) (lv' := [(0, .ref 3), (1, .ref a)]) (st' := [.int ((Int32.ofInt 0)), .ref 3]) rfl ?_
  refine En_put (j := 3) rfl rfl rfl (by decide +kernel : TG 3 = 3) (by decide +kernel) rfl (vI (l := 0) (u := 1600) (by decide +kernel) (by decide : (Int32.ofInt 0).toInt = 0) (by omega) (by omega)) h9 h10 (by decide +kernel) (fun σ15 h16 h17 h18 h19 => ?_)
  have h20 := OTH_pn h13 h19 (by decide +kernel : TG 3 = 3) (by decide)
  have o21 : OUT σ0 σ15 a := OUT_pn o14 h19 (by decide +kernel : TG 3 = 3) (by decide)
  refine En_Ps 1 (pc' := 16) (lv' := [(0, .ref 3), (1, .ref a)]) (st' := [.ref a]) rfl ?_
  refine En_callV rfl rfl rfl rfl rfl rfl rfl rfl ha (by decide +kernel) rfl (c_42x σ15 h16 a ha hP (FXP_fr hP hX h17 (by decide +kernel))) (by decide) (by decide) (fun v23 σ24 h22 => ?_)
  obtain ⟨h25, h26, z28, h29, z30, h31, rfl, h27⟩ := h22
  have h32 := h27.2.2.2.2.2.2.2.2.2
  have h33 := Fr_trans h17 h26 (by decide +kernel)
  have h34 := OTH_tr h20 h32.1
  have o35 : OUT σ0 σ24 a := OUT_tr o21 h27.1
  refine En_Ps 1 (pc' := 20) (lv' := [(0, .ref 3), (1, .ref a)]) (st' := [.ref 3]) rfl ?_
  refine En_callV rfl rfl rfl rfl rfl rfl rfl rfl (by decide +kernel : TG 3 = 3) (by decide +kernel) rfl (c_72x σ24 h25 ((Int32.ofInt 0)) ((h26 _ _ (inW (by decide +kernel : TG 3 = 3) (by decide +kernel))).trans h18) (TPc_fr hB h33 (by decide +kernel)) (by have := (by decide : (Int32.ofInt 0).toInt = 0); have := hB.1; omega)) (by decide) (by decide) (fun v37 σ38 h36 => ?_)
  obtain ⟨h39, h40, rfl, h41⟩ := h36
  have h42 := h41
  have h43 := Fr_trans h33 h40 (by decide +kernel)
  have h44 := OTH_fr h34 h40 (by decide +kernel)
  have h45 := KN_fr hP h32.2 h40 (by decide +kernel)
  have o46 : OUT σ0 σ38 a := OUT_fr o35 h40 (by decide +kernel)
  refine En_Ps 2 (pc' := 25) (lv' := [(2, .int ((Int32.ofInt 0))), (0, .ref 3), (1, .ref a)]) (st' := []) rfl ?_
  have key25 : ∀ (n25 : Nat) (σ195 : SG) (y47 : Int32) (y48 : Int32) (y49 : Int32) (y50 : Int32), WT σ195 → Fr [(3, 1), (3, 2), (3, 3), (3, 4), (3, 5), (3, 6), (18, 0), (18, 1), (18, 2), (18, 3), (18, 6), (18, 7), (18, 8), (18, 11), (18, 14), (20, 2), (21, 0), (22, 0), (23, 0), (24, 0), (25, 0), (26, 0), (28, 1), (28, 2), (28, 3)] σ0 σ195 → (σ195 3)[5]? = some (.int y48) → (σ195 a)[0]? = some (.int y49) → (σ195 a)[1]? = some (.int y50) → 0 ≤ y47.toInt → y47.toInt ≤ 1601 → 0 ≤ y48.toInt → y48.toInt ≤ 3 → 0 ≤ y49.toInt → y49.toInt ≤ 1601 → (-1) ≤ y50.toInt → y50.toInt ≤ 4 → -y50.toInt - y48.toInt ≤ 0 → -y50.toInt - y49.toInt ≤ 0 → y47.toInt - y49.toInt + z28.toInt ≤ 0 → -z28.toInt - y47.toInt + y49.toInt ≤ 0 → -y47.toInt + 1601 < (n25 : Int) → OTH a σ0 σ195 → RLI By Nb a σ195 y47.toInt → OUT σ0 σ195 a → En 7 159 none mr_60 (P_60x σ0 By Nb a) 25 [(0, .ref 3), (1, .ref a), (2, .int y47)] [] σ195 := by
    intro n25
    induction n25 with
    | zero =>
      intro σ195 y47 y48 y49 y50 h196 h197 h198 h199 h200 h201 h202 h203 h204 h205 h206 h207 h208 h209 h210 h211 h212 h213 h214 h215 h216
      obtain ⟨S217, f218, h219, h220, h221, h222⟩ := h215
      exfalso; omega
    | succ n25 ih25 =>
      intro σ195 y47 y48 y49 y50 h196 h197 h198 h199 h200 h201 h202 h203 h204 h205 h206 h207 h208 h209 h210 h211 h212 h213 h214 h215 h216
      obtain ⟨S235, f236, h237, h238, h239, h240⟩ := h215
      refine En_Ps 2 (pc' := 29) (lv' := [(0, .ref 3), (1, .ref a), (2, .int y47)]) (st' := [.int (((Int16.ofInt 1600).toInt32)), .int y47]) rfl ?_
      refine En_icGt _ rfl (by decide : ((Int16.ofInt 1600).toInt32).toInt = 1600) rfl (fun h241 => ?_) (fun h241 => ?_)
      · exact En_ret (v := none) rfl rfl rfl ⟨h196, h197, y48, h198, y50, h200, rfl, ⟨h216, by omega, by omega, by omega, by omega, by omega, ⟨h214, RLI_x h237 h238 h239 (fun zz => by omega)⟩⟩⟩
      · refine En_Ps 1 (pc' := 33) (lv' := [(0, .ref 3), (1, .ref a), (2, .int y47)]) (st' := [.ref 3]) rfl ?_
        refine En_getI (j := 1) (l := 0) (u := 4) rfl rfl rfl (by decide +kernel : TG 3 = 3) (by decide +kernel) h196 (by decide +kernel) (fun z243 h242 h244 h245 => ?_)
        have h246 := CT_k h237 h198
        have h247 : Imp (S235.1 = 0) (tK By Nb S235.2.2.1 = z243.toInt) := CT_t h237 h242
        refine En_iEq _ rfl rfl (fun h248 => ?_) (fun h248 => ?_)
        · exact En_ret (v := none) rfl rfl rfl ⟨h196, h197, y48, h198, y50, h200, rfl, ⟨h216, by omega, by omega, by omega, by omega, by omega, ⟨h214, RLI_x h237 h238 h239 (fun zz => by (try have i0 := Imp_m h247 (by omega)); omega)⟩⟩⟩
        · refine En_Ps 1 (pc' := 40) (lv' := [(0, .ref 3), (1, .ref a), (2, .int y47)]) (st' := [.ref 3]) rfl ?_
          refine En_getK (j := 5) h198 rfl rfl rfl (by decide +kernel : TG 3 = 3) (by decide +kernel) ?_
          have h249 := CT_k h237 h198
          refine En_iNe _ rfl rfl (fun h250 => ?_) (fun h250 => ?_)
          · exact En_ret (v := none) rfl rfl rfl ⟨h196, h197, y48, h198, y50, h200, rfl, ⟨h216, by omega, by omega, by omega, by omega, by omega, ⟨h214, RLI_x h237 h238 h239 (fun zz => by (try have i0 := Imp_m h247 (by omega)); omega)⟩⟩⟩
          · have h251 : S235.1 = 0 := by omega
            try have h255 := Imp_m h247 (by omega)
            obtain ⟨h252, h253⟩ := h238 h251
            have h254 : S235.2.2.2 7 = y49.toInt := KN_v h252 (Or.inl (by decide)) (by decide) (by decide) (by rw [lcO_lt (by decide) (by decide), Nat.add_zero]) (by decide) h199
            have keyj199 : ∀ (σ256 : SG) (y259 : Int32) (y263 : Int32) (y267 : Int32), WT σ256 → Fr [(3, 1), (3, 2), (3, 3), (3, 4), (3, 5), (3, 6), (18, 0), (18, 1), (18, 2), (18, 3), (18, 6), (18, 7), (18, 8), (18, 11), (18, 14), (20, 2), (21, 0), (22, 0), (23, 0), (24, 0), (25, 0), (26, 0), (28, 1), (28, 2), (28, 3)] σ0 σ256 → (σ256 3)[5]? = some (.int y259) → 0 ≤ y259.toInt → y259.toInt ≤ 3 → (σ256 a)[1]? = some (.int y263) → (-1) ≤ y263.toInt → y263.toInt ≤ 4 → (σ256 a)[0]? = some (.int y267) → 0 ≤ y267.toInt → y267.toInt ≤ 1601 → -y263.toInt - y259.toInt ≤ 0 → y267.toInt - y49.toInt ≤ 0 ∧ -y267.toInt + y49.toInt ≤ 0 → OTH a σ0 σ256 → CT By Nb σ256 (fL1 By Nb S235) → Imp ((fL1 By Nb S235).1 = 0) (KN σ256 a (fL1 By Nb S235).2.2.2 (act (fL1 By Nb S235).2.2.2)) → OUT σ0 σ256 a → En 7 159 none mr_60 (P_60x σ0 By Nb a) 199 [(0, .ref 3), (1, .ref a), (2, .int y47)] [] σ256 := by
              intro σ256 y259 y263 y267 h257 h258 h260 h261 h262 h264 h265 h266 h268 h269 h270 h271 h272 h273 h274 h275 h276
              refine En_Ps 2 (pc' := 201) (lv' := [(0, .ref 3), (1, .ref a), (2, .int y47)]) (st' := [.ref 3, .ref 3]) rfl ?_
              refine En_getI (j := 1) (l := 0) (u := 4) rfl rfl rfl (by decide +kernel : TG 3 = 3) (by decide +kernel) h257 (by decide +kernel) (fun z278 h277 h279 h280 => ?_)
              have h281 := CT_k h274 h260
              have h282 : Imp ((fL1 By Nb S235).1 = 0) (tK By Nb (fL1 By Nb S235).2.2.1 = z278.toInt) := CT_t h274 h277
              refine En_Ps 1 (pc' := 205) (lv' := [(0, .ref 3), (1, .ref a), (2, .int y47)]) (st' := [.int ((Int32.ofInt 3)), .int z278, .ref 3]) rfl ?_
              refine En_icNe _ rfl (by decide : (Int32.ofInt 3).toInt = 3) rfl (fun h283 => ?_) (fun h283 => ?_)
              · refine En_Ps 1 (pc' := 213) (lv' := [(0, .ref 3), (1, .ref a), (2, .int y47)]) (st' := [.int ((Int32.ofInt 0)), .ref 3]) rfl ?_
                have := (by decide : ((Int32.ofInt 0)).toInt = 0)
                refine En_callV rfl rfl rfl rfl rfl rfl rfl rfl (by decide +kernel : TG 3 = 3) (by decide +kernel) rfl (c_59x σ256 h257 ((Int32.ofInt 0)) (geI (by decide : (Int32.ofInt 0).toInt = 0) (by omega)) (leI (by decide : (Int32.ofInt 0).toInt = 0) (by omega)) y259 h260 h274) (by decide) (by decide) (fun v285 σ286 h284 => ?_)
                obtain ⟨h287, h288, z290, h291, rfl, h289⟩ := h284
                have h292 := h289.2.2.2.2.2.2.2
                have h293 := Fr_trans h258 h288 (by decide +kernel)
                have h294 := OTH_fr h273 h288 (by decide +kernel)
                have h295 : pss By Nb ((Int32.ofInt 0)).toInt (fL1 By Nb S235) = pss By Nb (if tK By Nb (fL1 By Nb S235).2.2.1 = 3 then 1 else 0) (fL1 By Nb S235) := pss_cg2 (fun zz => by (try have i0 := Imp_m h282 (by omega)); first | (rw [if_pos (by omega)]; omega) | (rw [if_neg (by omega)]; omega))
                obtain ⟨S296, h297⟩ : ∃ q : PS, q = pss By Nb (if tK By Nb (fL1 By Nb S235).2.2.1 = 3 then 1 else 0) (fL1 By Nb S235) := ⟨_, rfl⟩
                have h298 : CT By Nb σ286 S296 := by rw [h297]; exact (CT_eq h292 h295)
                have h299 := CT_k h298 h291
                have h300 : S296.2.2.2 = (fL1 By Nb S235).2.2.2 := by rw [h297]; exact pss_w
                have h301 : Imp (S296.1 = 0) ((fL1 By Nb S235).1 = 0) := fun z => (pss_g (by rw [h295, ← h297]; exact z)).1
                have h302 : Imp (S296.1 = 0) (((Int32.ofInt 0)).toInt = 1) := fun z => (pss_g (by rw [h295, ← h297]; exact z)).2.1
                have h303 : Imp (S296.1 = 0) (KN σ286 a S296.2.2.2 (act S296.2.2.2)) := fun z => by (try have i0 := Imp_m h302 (by omega)); (try have i1 := Imp_m h301 (by omega)); (try have i2 := Imp_m h282 (by omega)); rw [h300]; exact KN_fr hP (Imp_m h275 (by omega)) h288 (by decide +kernel)
                have o304 : OUT σ0 σ286 a := OUT_fr h276 h288 (by decide +kernel)
                have h305 := Imp_m h289.2.2.2.2.2.2.1 (by omega)
                refine En_Ps 2 (pc' := 218) (lv' := [(0, .ref 3), (1, .ref a), (2, .int y47)]) (st' := [.ref a, .ref a]) rfl ?_
                refine En_getK (j := 0) ((h288 _ _ (inW ha (by decide +kernel))).trans h268) rfl rfl rfl ha (by decide +kernel) ?_
                refine En_Ps 2 (pc' := 223) (lv' := [(0, .ref 3), (1, .ref a), (2, .int y47)]) (st' := [.int ((y267 + ((Int32.ofInt 1)))), .ref a]) rfl ?_
                refine En_top (addI rfl (by decide : (Int32.ofInt 1).toInt = 1) (by omega) (by omega)) (fun z306 h307 => ?_)
                refine En_put (j := 0) rfl rfl rfl ha (by decide +kernel) rfl (vI (l := 0) (u := 1601) (by decide +kernel) rfl (by omega) (by omega)) h287 h293 (by decide +kernel) (fun σ308 h309 h310 h311 h312 => ?_)
                have h313 := OTH_pj h294 h312 (by decide)
                obtain ⟨S314, h315⟩ : ∃ q : PS, q = wst S296 7 (S235.2.2.2 7 + 1) := ⟨_, rfl⟩
                have h316 : CT By Nb σ308 S314 := by rw [h315]; exact CT_wst (CT_ne h298 h312 (by have := hP; unfold PLA at this; omega))
                have h317 : Imp (S314.1 = 0) (KN σ308 a S314.2.2.2 (act S314.2.2.2)) := fun zz => by rw [h315] at zz ⊢; exact KN_sub (KN_st (j := 7) (v := S235.2.2.2 7 + 1) (Imp_m h303 zz) h311 h312 (by decide) (by decide) (by rw [lcO_lt (by decide) (by decide), Nat.add_zero]) (by decide) (by omega)) (fun t t0 t1 y => Or.inl (act_low (by decide) y))
                have h318 : fLine By Nb S235 = S314 := fL_line h297 h315
                have h319 : S314.2.2.2 7 = S235.2.2.2 7 + 1 := by rw [h315]; show (if (7 : Int) = 7 then S235.2.2.2 7 + 1 else S296.2.2.2 7) = S235.2.2.2 7 + 1; exact if_pos rfl
                have o320 : OUT σ0 σ308 a := OUT_st o304 h312 (by omega)
                refine En_Ps 1 (pc' := 229) (lv' := [(2, .int ((y47 + Int32.ofInt 1))), (0, .ref 3), (1, .ref a)]) (st' := []) rfl ?_
                refine En_lv1 (addI rfl (by decide : (Int32.ofInt 1).toInt = 1) (by omega) (by omega)) (fun z321 h322 => ?_)
                refine En_Ps 1 (pc' := 25) (lv' := [(2, .int z321), (0, .ref 3), (1, .ref a)]) (st' := []) rfl ?_
                refine En_lv (lv := [(0, .ref 3), (1, .ref a), (2, .int z321)]) ⟨rfl, rfl, rfl, trivial⟩ ?_
                exact ih25 σ308 z321 z290 z306 y263 h309 h310 ((h312 _ _ (Or.inr (by decide))).trans h291) h311 ((h312 _ _ (Or.inr (by decide))).trans ((h288 _ _ (inW ha (by decide +kernel))).trans h264)) (by omega) (by omega) (by omega) (by omega) (by omega) (by omega) (by omega) (by omega) (by omega) (by omega) (by omega) (by omega) (by omega) (h313) (RLI_s h239 h240 (by omega) h251 (by omega) h318 h316 h317 h319 (by omega)) (o320)
              · refine En_Ps 2 (pc' := 213) (lv' := [(0, .ref 3), (1, .ref a), (2, .int y47)]) (st' := [.int ((Int32.ofInt 1)), .ref 3]) rfl ?_
                have := (by decide : ((Int32.ofInt 1)).toInt = 1)
                refine En_callV rfl rfl rfl rfl rfl rfl rfl rfl (by decide +kernel : TG 3 = 3) (by decide +kernel) rfl (c_59x σ256 h257 ((Int32.ofInt 1)) (geI (by decide : (Int32.ofInt 1).toInt = 1) (by omega)) (leI (by decide : (Int32.ofInt 1).toInt = 1) (by omega)) y259 h260 h274) (by decide) (by decide) (fun v324 σ325 h323 => ?_)
                obtain ⟨h326, h327, z329, h330, rfl, h328⟩ := h323
                have h331 := h328.2.2.2.2.2.2.2
                have h332 := Fr_trans h258 h327 (by decide +kernel)
                have h333 := OTH_fr h273 h327 (by decide +kernel)
                have h334 : pss By Nb ((Int32.ofInt 1)).toInt (fL1 By Nb S235) = pss By Nb (if tK By Nb (fL1 By Nb S235).2.2.1 = 3 then 1 else 0) (fL1 By Nb S235) := pss_cg2 (fun zz => by (try have i0 := Imp_m h282 (by omega)); first | (rw [if_pos (by omega)]; omega) | (rw [if_neg (by omega)]; omega))
                obtain ⟨S335, h336⟩ : ∃ q : PS, q = pss By Nb (if tK By Nb (fL1 By Nb S235).2.2.1 = 3 then 1 else 0) (fL1 By Nb S235) := ⟨_, rfl⟩
                have h337 : CT By Nb σ325 S335 := by rw [h336]; exact (CT_eq h331 h334)
                have h338 := CT_k h337 h330
                have h339 : S335.2.2.2 = (fL1 By Nb S235).2.2.2 := by rw [h336]; exact pss_w
                have h340 : Imp (S335.1 = 0) ((fL1 By Nb S235).1 = 0) := fun z => (pss_g (by rw [h334, ← h336]; exact z)).1
                have h341 : Imp (S335.1 = 0) (((Int32.ofInt 1)).toInt = 1) := fun z => (pss_g (by rw [h334, ← h336]; exact z)).2.1
                have h342 : Imp (S335.1 = 0) (KN σ325 a S335.2.2.2 (act S335.2.2.2)) := fun z => by (try have i0 := Imp_m h341 (by omega)); (try have i1 := Imp_m h340 (by omega)); (try have i2 := Imp_m h282 (by omega)); rw [h339]; exact KN_fr hP (Imp_m h275 (by omega)) h327 (by decide +kernel)
                have o343 : OUT σ0 σ325 a := OUT_fr h276 h327 (by decide +kernel)
                have h344 := Imp_m h328.2.2.2.2.1 (by omega)
                refine En_Ps 2 (pc' := 218) (lv' := [(0, .ref 3), (1, .ref a), (2, .int y47)]) (st' := [.ref a, .ref a]) rfl ?_
                refine En_getK (j := 0) ((h327 _ _ (inW ha (by decide +kernel))).trans h268) rfl rfl rfl ha (by decide +kernel) ?_
                refine En_Ps 2 (pc' := 223) (lv' := [(0, .ref 3), (1, .ref a), (2, .int y47)]) (st' := [.int ((y267 + ((Int32.ofInt 1)))), .ref a]) rfl ?_
                refine En_top (addI rfl (by decide : (Int32.ofInt 1).toInt = 1) (by omega) (by omega)) (fun z345 h346 => ?_)
                refine En_put (j := 0) rfl rfl rfl ha (by decide +kernel) rfl (vI (l := 0) (u := 1601) (by decide +kernel) rfl (by omega) (by omega)) h326 h332 (by decide +kernel) (fun σ347 h348 h349 h350 h351 => ?_)
                have h352 := OTH_pj h333 h351 (by decide)
                obtain ⟨S353, h354⟩ : ∃ q : PS, q = wst S335 7 (S235.2.2.2 7 + 1) := ⟨_, rfl⟩
                have h355 : CT By Nb σ347 S353 := by rw [h354]; exact CT_wst (CT_ne h337 h351 (by have := hP; unfold PLA at this; omega))
                have h356 : Imp (S353.1 = 0) (KN σ347 a S353.2.2.2 (act S353.2.2.2)) := fun zz => by rw [h354] at zz ⊢; exact KN_sub (KN_st (j := 7) (v := S235.2.2.2 7 + 1) (Imp_m h342 zz) h350 h351 (by decide) (by decide) (by rw [lcO_lt (by decide) (by decide), Nat.add_zero]) (by decide) (by omega)) (fun t t0 t1 y => Or.inl (act_low (by decide) y))
                have h357 : fLine By Nb S235 = S353 := fL_line h336 h354
                have h358 : S353.2.2.2 7 = S235.2.2.2 7 + 1 := by rw [h354]; show (if (7 : Int) = 7 then S235.2.2.2 7 + 1 else S335.2.2.2 7) = S235.2.2.2 7 + 1; exact if_pos rfl
                have o359 : OUT σ0 σ347 a := OUT_st o343 h351 (by omega)
                refine En_Ps 1 (pc' := 229) (lv' := [(2, .int ((y47 + Int32.ofInt 1))), (0, .ref 3), (1, .ref a)]) (st' := []) rfl ?_
                refine En_lv1 (addI rfl (by decide : (Int32.ofInt 1).toInt = 1) (by omega) (by omega)) (fun z360 h361 => ?_)
                refine En_Ps 1 (pc' := 25) (lv' := [(2, .int z360), (0, .ref 3), (1, .ref a)]) (st' := []) rfl ?_
                refine En_lv (lv := [(0, .ref 3), (1, .ref a), (2, .int z360)]) ⟨rfl, rfl, rfl, trivial⟩ ?_
                exact ih25 σ347 z360 z329 z345 y263 h348 h349 ((h351 _ _ (Or.inr (by decide))).trans h330) h350 ((h351 _ _ (Or.inr (by decide))).trans ((h327 _ _ (inW ha (by decide +kernel))).trans h264)) (by omega) (by omega) (by omega) (by omega) (by omega) (by omega) (by omega) (by omega) (by omega) (by omega) (by omega) (by omega) (by omega) (h352) (RLI_s h239 h240 (by omega) h251 (by omega) h357 h355 h356 h358 (by omega)) (o359)
            refine En_Ps 1 (pc' := 47) (lv' := [(0, .ref 3), (1, .ref a), (2, .int y47)]) (st' := [.int y47]) rfl ?_
            refine En_iNe _ rfl rfl (fun h362 => ?_) (fun h362 => ?_)
            · refine En_Ps 1 (pc' := 59) (lv' := [(0, .ref 3), (1, .ref a), (2, .int y47)]) (st' := [.ref 3]) rfl ?_
              refine En_ldcS (i := 2) rfl rfl rfl ?_
              refine En_callV rfl rfl rfl rfl rfl rfl rfl rfl (by decide +kernel : TG 3 = 3) (by decide +kernel) rfl (c_71s2x σ195 h196 h237) (by decide) (by decide) (fun v364 σ365 h363 => ?_)
              obtain ⟨h366, h367, z369, rfl, h368⟩ := h363
              have h370 := h368.2.2
              obtain rfl : σ195 = σ365 := Fr_nil h367
              have h371 := h370
              try have h372 := Imp_m h371 (by omega)
              try have h373 := Imp_m h247 (by omega)
              refine En_iEq _ rfl rfl (fun h374 => ?_) (fun h374 => ?_)
              · refine En_Ps 1 (pc' := 76) (lv' := [(0, .ref 3), (1, .ref a), (2, .int y47)]) (st' := [.ref 3]) rfl ?_
                refine En_ldcS (i := 6) rfl rfl rfl ?_
                refine En_callV rfl rfl rfl rfl rfl rfl rfl rfl (by decide +kernel : TG 3 = 3) (by decide +kernel) rfl (c_71s6x σ195 h196 h237) (by decide) (by decide) (fun v376 σ377 h375 => ?_)
                obtain ⟨h378, h379, z381, rfl, h380⟩ := h375
                have h382 := h380.2.2
                obtain rfl : σ195 = σ377 := Fr_nil h379
                have h383 := h382
                try have h384 := Imp_m h383 (by omega)
                try have h385 := Imp_m h371 (by omega)
                try have h386 := Imp_m h247 (by omega)
                refine En_iEq _ rfl rfl (fun h387 => ?_) (fun h387 => ?_)
                · refine En_Ps 1 (pc' := 93) (lv' := [(0, .ref 3), (1, .ref a), (2, .int y47)]) (st' := [.ref 3]) rfl ?_
                  refine En_ldcS (i := 3) rfl rfl rfl ?_
                  refine En_callV rfl rfl rfl rfl rfl rfl rfl rfl (by decide +kernel : TG 3 = 3) (by decide +kernel) rfl (c_71s3x σ195 h196 h237) (by decide) (by decide) (fun v389 σ390 h388 => ?_)
                  obtain ⟨h391, h392, z394, rfl, h393⟩ := h388
                  have h395 := h393.2.2
                  obtain rfl : σ195 = σ390 := Fr_nil h392
                  have h396 := h395
                  try have h397 := Imp_m h396 (by omega)
                  try have h398 := Imp_m h383 (by omega)
                  try have h399 := Imp_m h371 (by omega)
                  try have h400 := Imp_m h247 (by omega)
                  refine En_iEq _ rfl rfl (fun h401 => ?_) (fun h401 => ?_)
                  · refine En_Ps 1 (pc' := 110) (lv' := [(0, .ref 3), (1, .ref a), (2, .int y47)]) (st' := [.ref 3]) rfl ?_
                    refine En_ldcS (i := 17) rfl rfl rfl ?_
                    refine En_callV rfl rfl rfl rfl rfl rfl rfl rfl (by decide +kernel : TG 3 = 3) (by decide +kernel) rfl (c_71s17x σ195 h196 h237) (by decide) (by decide) (fun v403 σ404 h402 => ?_)
                    obtain ⟨h405, h406, z408, rfl, h407⟩ := h402
                    have h409 := h407.2.2
                    obtain rfl : σ195 = σ404 := Fr_nil h406
                    have h410 := h409
                    try have h411 := Imp_m h410 (by omega)
                    try have h412 := Imp_m h396 (by omega)
                    try have h413 := Imp_m h383 (by omega)
                    try have h414 := Imp_m h371 (by omega)
                    try have h415 := Imp_m h247 (by omega)
                    refine En_iEq _ rfl rfl (fun h416 => ?_) (fun h416 => ?_)
                    · refine En_Ps 1 (pc' := 127) (lv' := [(0, .ref 3), (1, .ref a), (2, .int y47)]) (st' := [.ref 3]) rfl ?_
                      refine En_ldcS (i := 9) rfl rfl rfl ?_
                      refine En_callV rfl rfl rfl rfl rfl rfl rfl rfl (by decide +kernel : TG 3 = 3) (by decide +kernel) rfl (c_71s9x σ195 h196 h237) (by decide) (by decide) (fun v418 σ419 h417 => ?_)
                      obtain ⟨h420, h421, z423, rfl, h422⟩ := h417
                      have h424 := h422.2.2
                      obtain rfl : σ195 = σ419 := Fr_nil h421
                      have h425 := h424
                      try have h426 := Imp_m h425 (by omega)
                      try have h427 := Imp_m h410 (by omega)
                      try have h428 := Imp_m h396 (by omega)
                      try have h429 := Imp_m h383 (by omega)
                      try have h430 := Imp_m h371 (by omega)
                      try have h431 := Imp_m h247 (by omega)
                      refine En_iEq _ rfl rfl (fun h432 => ?_) (fun h432 => ?_)
                      · refine En_Ps 1 (pc' := 144) (lv' := [(0, .ref 3), (1, .ref a), (2, .int y47)]) (st' := [.ref 3]) rfl ?_
                        refine En_ldcS (i := 5) rfl rfl rfl ?_
                        refine En_callV rfl rfl rfl rfl rfl rfl rfl rfl (by decide +kernel : TG 3 = 3) (by decide +kernel) rfl (c_71s5x σ195 h196 h237) (by decide) (by decide) (fun v434 σ435 h433 => ?_)
                        obtain ⟨h436, h437, z439, rfl, h438⟩ := h433
                        have h440 := h438.2.2
                        obtain rfl : σ195 = σ435 := Fr_nil h437
                        have h441 := h440
                        try have h442 := Imp_m h441 (by omega)
                        try have h443 := Imp_m h425 (by omega)
                        try have h444 := Imp_m h410 (by omega)
                        try have h445 := Imp_m h396 (by omega)
                        try have h446 := Imp_m h383 (by omega)
                        try have h447 := Imp_m h371 (by omega)
                        try have h448 := Imp_m h247 (by omega)
                        refine En_iEq _ rfl rfl (fun h449 => ?_) (fun h449 => ?_)
                        · refine En_Ps 1 (pc' := 161) (lv' := [(0, .ref 3), (1, .ref a), (2, .int y47)]) (st' := [.ref 3]) rfl ?_
                          refine En_ldcS (i := 1) rfl rfl rfl ?_
                          refine En_callV rfl rfl rfl rfl rfl rfl rfl rfl (by decide +kernel : TG 3 = 3) (by decide +kernel) rfl (c_71s1x σ195 h196 h237) (by decide) (by decide) (fun v451 σ452 h450 => ?_)
                          obtain ⟨h453, h454, z456, rfl, h455⟩ := h450
                          have h457 := h455.2.2
                          obtain rfl : σ195 = σ452 := Fr_nil h454
                          have h458 := h457
                          try have h459 := Imp_m h458 (by omega)
                          try have h460 := Imp_m h441 (by omega)
                          try have h461 := Imp_m h425 (by omega)
                          try have h462 := Imp_m h410 (by omega)
                          try have h463 := Imp_m h396 (by omega)
                          try have h464 := Imp_m h383 (by omega)
                          try have h465 := Imp_m h371 (by omega)
                          try have h466 := Imp_m h247 (by omega)
                          refine En_iEq _ rfl rfl (fun h467 => ?_) (fun h467 => ?_)
                          · refine En_Ps 1 (pc' := 178) (lv' := [(0, .ref 3), (1, .ref a), (2, .int y47)]) (st' := [.ref 3]) rfl ?_
                            refine En_ldcS (i := 0) rfl rfl rfl ?_
                            refine En_callV rfl rfl rfl rfl rfl rfl rfl rfl (by decide +kernel : TG 3 = 3) (by decide +kernel) rfl (c_71s0x σ195 h196 h237) (by decide) (by decide) (fun v469 σ470 h468 => ?_)
                            obtain ⟨h471, h472, z474, rfl, h473⟩ := h468
                            have h475 := h473.2.2
                            obtain rfl : σ195 = σ470 := Fr_nil h472
                            have h476 := h475
                            try have h477 := Imp_m h476 (by omega)
                            try have h478 := Imp_m h458 (by omega)
                            try have h479 := Imp_m h441 (by omega)
                            try have h480 := Imp_m h425 (by omega)
                            try have h481 := Imp_m h410 (by omega)
                            try have h482 := Imp_m h396 (by omega)
                            try have h483 := Imp_m h383 (by omega)
                            try have h484 := Imp_m h371 (by omega)
                            try have h485 := Imp_m h247 (by omega)
                            refine En_iEq _ rfl rfl (fun h486 => ?_) (fun h486 => ?_)
                            · refine En_Ps 2 (pc' := 196) (lv' := [(0, .ref 3), (1, .ref a), (2, .int y47)]) (st' := [.int ((Int32.ofInt 1)), .ref 3]) rfl ?_
                              have := (by decide : ((Int32.ofInt 1)).toInt = 1)
                              refine En_callV rfl rfl rfl rfl rfl rfl rfl rfl (by decide +kernel : TG 3 = 3) (by decide +kernel) rfl (c_54x σ195 h196 ((Int32.ofInt 1)) (geI (by decide : (Int32.ofInt 1).toInt = 1) (by omega)) (leI (by decide : (Int32.ofInt 1).toInt = 1) (by omega)) y48 h198 h237) (by decide) (by decide) (fun v488 σ489 h487 => ?_)
                              obtain ⟨h490, h491, z493, h494, rfl, h492⟩ := h487
                              have h495 := h492.2.2.2.2.2.2
                              have h496 := Fr_trans h197 h491 (by decide +kernel)
                              have h497 := OTH_fr h214 h491 (by decide +kernel)
                              obtain ⟨S498, h499⟩ : ∃ q : PS, q = err By Nb 1 S235 := ⟨_, rfl⟩
                              have h500 : CT By Nb σ489 S498 := by rw [h499]; exact (CT_eq h495 (err_cg (by omega)))
                              have h501 := CT_k h500 h494
                              have h502 : Imp (S498.1 = 0) (tK By Nb S498.2.2.1 = z243.toInt) := CT_t h500 ((h491 _ _ (inW (by decide +kernel : TG 3 = 3) (by decide +kernel))).trans h242)
                              have h503 : Imp (S498.1 = 0) (KN σ489 a S498.2.2.2 (act S498.2.2.2)) := fun z => by rw [h499] at z; exact absurd z (err_ne (by decide))
                              have o504 : OUT σ0 σ489 a := OUT_fr h216 h491 (by decide +kernel)
                              have h505 := Imp_m h492.2.2.2.2.1 (by omega)
                              have h506 : fL1 By Nb S235 = S498 := by rw [h499]; exact (fL1_1 (by omega)).trans (fNx_n (by omega) (by omega) (by omega) (by omega) (by omega) (by omega) (by omega) (by omega))
                              exact keyj199 σ489 z493 y50 y49 h490 h496 h494 (by omega) (by omega) ((h491 _ _ (inW ha (by decide +kernel))).trans h200) (by omega) (by omega) ((h491 _ _ (inW ha (by decide +kernel))).trans h199) (by omega) (by omega) (by omega) (by omega) (h497) (CT_eq h500 h506.symm) (by rw [h506]; exact h503) (o504)
                            · refine En_Ps 2 (pc' := 188) (lv' := [(0, .ref 3), (1, .ref a), (2, .int y47)]) (st' := [.ref a, .ref 3]) rfl ?_
                              refine En_callV rfl rfl rfl rfl rfl rfl rfl rfl (by decide +kernel : TG 3 = 3) (by decide +kernel) rfl (c_61x σ195 h196 a ha y48 h198 y50 h200 (by omega) h237 (by omega) hP (FXP_fr hP hX h197 (by decide +kernel)) h252) (by decide) (by decide) (fun v508 σ509 h507 => ?_)
                              obtain ⟨h510, h511, z513, h514, rfl, h512⟩ := h507
                              have h515 := h512.2.2.2.2.2.2.2.2
                              have h516 := Fr_trans h197 h511 (by decide +kernel)
                              have h517 := OTH_fr h214 h511 (by decide +kernel)
                              obtain ⟨S518, h519⟩ : ∃ q : PS, q = fAhead By Nb S235 := ⟨_, rfl⟩
                              have h520 : CT By Nb σ509 S518 := by rw [h519]; exact h515.1
                              have h521 := CT_k h520 h514
                              have h522 : Imp (S518.1 = 0) (KN σ509 a S518.2.2.2 (act S518.2.2.2)) := fun z => by rw [h519] at z ⊢; exact h515.2 z
                              have o523 : OUT σ0 σ509 a := OUT_tr h216 h512.1
                              refine En_Ps 1 (pc' := 199) (lv' := [(0, .ref 3), (1, .ref a), (2, .int y47)]) (st' := []) rfl ?_
                              have h524 : fL1 By Nb S235 = S518 := by rw [h519]; exact (fL1_1 (by omega)).trans (fNx_0 (by omega) (by omega) (by omega) (by omega) (by omega) (by omega) (by omega) (by omega))
                              exact keyj199 σ509 z513 y50 y49 h510 h516 h514 (by omega) (by omega) ((h511 _ _ (inW ha (by decide +kernel))).trans h200) (by omega) (by omega) ((h511 _ _ (inW ha (by decide +kernel))).trans h199) (by omega) (by omega) (by omega) (by omega) (h517) (CT_eq h520 h524.symm) (by rw [h524]; exact h522) (o523)
                          · refine En_Ps 2 (pc' := 171) (lv' := [(0, .ref 3), (1, .ref a), (2, .int y47)]) (st' := [.ref a, .ref 3]) rfl ?_
                            refine En_callV rfl rfl rfl rfl rfl rfl rfl rfl (by decide +kernel : TG 3 = 3) (by decide +kernel) rfl (c_62x σ195 h196 a ha y48 h198 y50 h200 (by omega) h237 (by omega) hP (FXP_fr hP hX h197 (by decide +kernel)) h252) (by decide) (by decide) (fun v526 σ527 h525 => ?_)
                            obtain ⟨h528, h529, z531, h532, rfl, h530⟩ := h525
                            have h533 := h530.2.2.2.2.2.2.2.2
                            have h534 := Fr_trans h197 h529 (by decide +kernel)
                            have h535 := OTH_fr h214 h529 (by decide +kernel)
                            obtain ⟨S536, h537⟩ : ∃ q : PS, q = fCourse By Nb S235 := ⟨_, rfl⟩
                            have h538 : CT By Nb σ527 S536 := by rw [h537]; exact h533.1
                            have h539 := CT_k h538 h532
                            have h540 : Imp (S536.1 = 0) (KN σ527 a S536.2.2.2 (act S536.2.2.2)) := fun z => by rw [h537] at z ⊢; exact h533.2 z
                            have o541 : OUT σ0 σ527 a := OUT_tr h216 h530.1
                            refine En_Ps 1 (pc' := 199) (lv' := [(0, .ref 3), (1, .ref a), (2, .int y47)]) (st' := []) rfl ?_
                            have h542 : fL1 By Nb S235 = S536 := by rw [h537]; exact (fL1_1 (by omega)).trans (fNx_1 (by omega) (by omega) (by omega) (by omega) (by omega) (by omega) (by omega))
                            exact keyj199 σ527 z531 y50 y49 h528 h534 h532 (by omega) (by omega) ((h529 _ _ (inW ha (by decide +kernel))).trans h200) (by omega) (by omega) ((h529 _ _ (inW ha (by decide +kernel))).trans h199) (by omega) (by omega) (by omega) (by omega) (h535) (CT_eq h538 h542.symm) (by rw [h542]; exact h540) (o541)
                        · refine En_Ps 2 (pc' := 154) (lv' := [(0, .ref 3), (1, .ref a), (2, .int y47)]) (st' := [.ref a, .ref 3]) rfl ?_
                          refine En_callV rfl rfl rfl rfl rfl rfl rfl rfl (by decide +kernel : TG 3 = 3) (by decide +kernel) rfl (c_66x σ195 h196 a ha y48 h198 y50 h200 (by omega) h237 (by omega) hP (FXP_fr hP hX h197 (by decide +kernel)) h252) (by decide) (by decide) (fun v544 σ545 h543 => ?_)
                          obtain ⟨h546, h547, z549, h550, rfl, h548⟩ := h543
                          have h551 := h548.2.2.2.2.2.2.2.2
                          have h552 := Fr_trans h197 h547 (by decide +kernel)
                          have h553 := OTH_fr h214 h547 (by decide +kernel)
                          obtain ⟨S554, h555⟩ : ∃ q : PS, q = fHouse By Nb S235 := ⟨_, rfl⟩
                          have h556 : CT By Nb σ545 S554 := by rw [h555]; exact h551.1
                          have h557 := CT_k h556 h550
                          have h558 : Imp (S554.1 = 0) (KN σ545 a S554.2.2.2 (act S554.2.2.2)) := fun z => by rw [h555] at z ⊢; exact h551.2 z
                          have o559 : OUT σ0 σ545 a := OUT_tr h216 h548.1
                          refine En_Ps 1 (pc' := 199) (lv' := [(0, .ref 3), (1, .ref a), (2, .int y47)]) (st' := []) rfl ?_
                          have h560 : fL1 By Nb S235 = S554 := by rw [h555]; exact (fL1_1 (by omega)).trans (fNx_5 (by omega) (by omega) (by omega) (by omega) (by omega) (by omega))
                          exact keyj199 σ545 z549 y50 y49 h546 h552 h550 (by omega) (by omega) ((h547 _ _ (inW ha (by decide +kernel))).trans h200) (by omega) (by omega) ((h547 _ _ (inW ha (by decide +kernel))).trans h199) (by omega) (by omega) (by omega) (by omega) (h553) (CT_eq h556 h560.symm) (by rw [h560]; exact h558) (o559)
                      · refine En_Ps 2 (pc' := 137) (lv' := [(0, .ref 3), (1, .ref a), (2, .int y47)]) (st' := [.ref a, .ref 3]) rfl ?_
                        refine En_callV rfl rfl rfl rfl rfl rfl rfl rfl (by decide +kernel : TG 3 = 3) (by decide +kernel) rfl (c_68x σ195 h196 a ha y48 h198 y50 h200 (by omega) h237 (by omega) hP (FXP_fr hP hX h197 (by decide +kernel)) h252) (by decide) (by decide) (fun v562 σ563 h561 => ?_)
                        obtain ⟨h564, h565, z567, h568, rfl, h566⟩ := h561
                        have h569 := h566.2.2.2.2.2.2.2.2
                        have h570 := Fr_trans h197 h565 (by decide +kernel)
                        have h571 := OTH_fr h214 h565 (by decide +kernel)
                        obtain ⟨S572, h573⟩ : ∃ q : PS, q = fOwner By Nb S235 := ⟨_, rfl⟩
                        have h574 : CT By Nb σ563 S572 := by rw [h573]; exact h569.1
                        have h575 := CT_k h574 h568
                        have h576 : Imp (S572.1 = 0) (KN σ563 a S572.2.2.2 (act S572.2.2.2)) := fun z => by rw [h573] at z ⊢; exact h569.2 z
                        have o577 : OUT σ0 σ563 a := OUT_tr h216 h566.1
                        refine En_Ps 1 (pc' := 199) (lv' := [(0, .ref 3), (1, .ref a), (2, .int y47)]) (st' := []) rfl ?_
                        have h578 : fL1 By Nb S235 = S572 := by rw [h573]; exact (fL1_1 (by omega)).trans (fNx_9 (by omega) (by omega) (by omega) (by omega) (by omega))
                        exact keyj199 σ563 z567 y50 y49 h564 h570 h568 (by omega) (by omega) ((h565 _ _ (inW ha (by decide +kernel))).trans h200) (by omega) (by omega) ((h565 _ _ (inW ha (by decide +kernel))).trans h199) (by omega) (by omega) (by omega) (by omega) (h571) (CT_eq h574 h578.symm) (by rw [h578]; exact h576) (o577)
                    · refine En_Ps 2 (pc' := 120) (lv' := [(0, .ref 3), (1, .ref a), (2, .int y47)]) (st' := [.ref a, .ref 3]) rfl ?_
                      refine En_callV rfl rfl rfl rfl rfl rfl rfl rfl (by decide +kernel : TG 3 = 3) (by decide +kernel) rfl (c_70x σ195 h196 a ha y48 h198 y50 h200 (by omega) h237 (by omega) hP (FXP_fr hP hX h197 (by decide +kernel)) h252) (by decide) (by decide) (fun v580 σ581 h579 => ?_)
                      obtain ⟨h582, h583, z585, h586, rfl, h584⟩ := h579
                      have h587 := h584.2.2.2.2.2.2.2.2
                      have h588 := Fr_trans h197 h583 (by decide +kernel)
                      have h589 := OTH_fr h214 h583 (by decide +kernel)
                      obtain ⟨S590, h591⟩ : ∃ q : PS, q = fTwin By Nb S235 := ⟨_, rfl⟩
                      have h592 : CT By Nb σ581 S590 := by rw [h591]; exact h587.1
                      have h593 := CT_k h592 h586
                      have h594 : Imp (S590.1 = 0) (KN σ581 a S590.2.2.2 (act S590.2.2.2)) := fun z => by rw [h591] at z ⊢; exact h587.2 z
                      have o595 : OUT σ0 σ581 a := OUT_tr h216 h584.1
                      refine En_Ps 1 (pc' := 199) (lv' := [(0, .ref 3), (1, .ref a), (2, .int y47)]) (st' := []) rfl ?_
                      have h596 : fL1 By Nb S235 = S590 := by rw [h591]; exact (fL1_1 (by omega)).trans (fNx_17 (by omega) (by omega) (by omega) (by omega))
                      exact keyj199 σ581 z585 y50 y49 h582 h588 h586 (by omega) (by omega) ((h583 _ _ (inW ha (by decide +kernel))).trans h200) (by omega) (by omega) ((h583 _ _ (inW ha (by decide +kernel))).trans h199) (by omega) (by omega) (by omega) (by omega) (h589) (CT_eq h592 h596.symm) (by rw [h596]; exact h594) (o595)
                  · refine En_Ps 2 (pc' := 103) (lv' := [(0, .ref 3), (1, .ref a), (2, .int y47)]) (st' := [.ref a, .ref 3]) rfl ?_
                    refine En_callV rfl rfl rfl rfl rfl rfl rfl rfl (by decide +kernel : TG 3 = 3) (by decide +kernel) rfl (c_64x σ195 h196 a ha y48 h198 y50 h200 (by omega) h237 (by omega) hP (FXP_fr hP hX h197 (by decide +kernel)) h252) (by decide) (by decide) (fun v598 σ599 h597 => ?_)
                    obtain ⟨h600, h601, z603, h604, rfl, h602⟩ := h597
                    have h605 := h602.2.2.2.2.2.2.2.2
                    have h606 := Fr_trans h197 h601 (by decide +kernel)
                    have h607 := OTH_fr h214 h601 (by decide +kernel)
                    obtain ⟨S608, h609⟩ : ∃ q : PS, q = fExam By Nb S235 := ⟨_, rfl⟩
                    have h610 : CT By Nb σ599 S608 := by rw [h609]; exact h605.1
                    have h611 := CT_k h610 h604
                    have h612 : Imp (S608.1 = 0) (KN σ599 a S608.2.2.2 (act S608.2.2.2)) := fun z => by rw [h609] at z ⊢; exact h605.2 z
                    have o613 : OUT σ0 σ599 a := OUT_tr h216 h602.1
                    refine En_Ps 1 (pc' := 199) (lv' := [(0, .ref 3), (1, .ref a), (2, .int y47)]) (st' := []) rfl ?_
                    have h614 : fL1 By Nb S235 = S608 := by rw [h609]; exact (fL1_1 (by omega)).trans (fNx_3 (by omega) (by omega) (by omega))
                    exact keyj199 σ599 z603 y50 y49 h600 h606 h604 (by omega) (by omega) ((h601 _ _ (inW ha (by decide +kernel))).trans h200) (by omega) (by omega) ((h601 _ _ (inW ha (by decide +kernel))).trans h199) (by omega) (by omega) (by omega) (by omega) (h607) (CT_eq h610 h614.symm) (by rw [h614]; exact h612) (o613)
                · refine En_Ps 2 (pc' := 86) (lv' := [(0, .ref 3), (1, .ref a), (2, .int y47)]) (st' := [.ref a, .ref 3]) rfl ?_
                  refine En_callV rfl rfl rfl rfl rfl rfl rfl rfl (by decide +kernel : TG 3 = 3) (by decide +kernel) rfl (c_67x σ195 h196 a ha y48 h198 y50 h200 (by omega) h237 (by omega) hP (FXP_fr hP hX h197 (by decide +kernel)) h252) (by decide) (by decide) (fun v616 σ617 h615 => ?_)
                  obtain ⟨h618, h619, z621, h622, rfl, h620⟩ := h615
                  have h623 := h620.2.2.2.2.2.2.2.2
                  have h624 := Fr_trans h197 h619 (by decide +kernel)
                  have h625 := OTH_fr h214 h619 (by decide +kernel)
                  obtain ⟨S626, h627⟩ : ∃ q : PS, q = fLesson By Nb S235 := ⟨_, rfl⟩
                  have h628 : CT By Nb σ617 S626 := by rw [h627]; exact h623.1
                  have h629 := CT_k h628 h622
                  have h630 : Imp (S626.1 = 0) (KN σ617 a S626.2.2.2 (act S626.2.2.2)) := fun z => by rw [h627] at z ⊢; exact h623.2 z
                  have o631 : OUT σ0 σ617 a := OUT_tr h216 h620.1
                  refine En_Ps 1 (pc' := 199) (lv' := [(0, .ref 3), (1, .ref a), (2, .int y47)]) (st' := []) rfl ?_
                  have h632 : fL1 By Nb S235 = S626 := by rw [h627]; exact (fL1_1 (by omega)).trans (fNx_6 (by omega) (by omega))
                  exact keyj199 σ617 z621 y50 y49 h618 h624 h622 (by omega) (by omega) ((h619 _ _ (inW ha (by decide +kernel))).trans h200) (by omega) (by omega) ((h619 _ _ (inW ha (by decide +kernel))).trans h199) (by omega) (by omega) (by omega) (by omega) (h625) (CT_eq h628 h632.symm) (by rw [h632]; exact h630) (o631)
              · refine En_Ps 2 (pc' := 69) (lv' := [(0, .ref 3), (1, .ref a), (2, .int y47)]) (st' := [.ref a, .ref 3]) rfl ?_
                refine En_callV rfl rfl rfl rfl rfl rfl rfl rfl (by decide +kernel : TG 3 = 3) (by decide +kernel) rfl (c_63x σ195 h196 a ha y48 h198 y50 h200 (by omega) h237 (by omega) hP (FXP_fr hP hX h197 (by decide +kernel)) h252) (by decide) (by decide) (fun v634 σ635 h633 => ?_)
                obtain ⟨h636, h637, z639, h640, rfl, h638⟩ := h633
                have h641 := h638.2.2.2.2.2.2.2.2
                have h642 := Fr_trans h197 h637 (by decide +kernel)
                have h643 := OTH_fr h214 h637 (by decide +kernel)
                obtain ⟨S644, h645⟩ : ∃ q : PS, q = fDoor By Nb S235 := ⟨_, rfl⟩
                have h646 : CT By Nb σ635 S644 := by rw [h645]; exact h641.1
                have h647 := CT_k h646 h640
                have h648 : Imp (S644.1 = 0) (KN σ635 a S644.2.2.2 (act S644.2.2.2)) := fun z => by rw [h645] at z ⊢; exact h641.2 z
                have o649 : OUT σ0 σ635 a := OUT_tr h216 h638.1
                refine En_Ps 1 (pc' := 199) (lv' := [(0, .ref 3), (1, .ref a), (2, .int y47)]) (st' := []) rfl ?_
                have h650 : fL1 By Nb S235 = S644 := by rw [h645]; exact (fL1_1 (by omega)).trans (fNx_2 (by omega))
                exact keyj199 σ635 z639 y50 y49 h636 h642 h640 (by omega) (by omega) ((h637 _ _ (inW ha (by decide +kernel))).trans h200) (by omega) (by omega) ((h637 _ _ (inW ha (by decide +kernel))).trans h199) (by omega) (by omega) (by omega) (by omega) (h643) (CT_eq h646 h650.symm) (by rw [h650]; exact h648) (o649)
            · refine En_Ps 2 (pc' := 52) (lv' := [(0, .ref 3), (1, .ref a), (2, .int y47)]) (st' := [.ref a, .ref 3]) rfl ?_
              refine En_callV rfl rfl rfl rfl rfl rfl rfl rfl (by decide +kernel : TG 3 = 3) (by decide +kernel) rfl (c_65x σ195 h196 a ha y48 h198 h237 (by omega) hP (FXP_fr hP hX h197 (by decide +kernel)) h252) (by decide) (by decide) (fun v652 σ653 h651 => ?_)
              obtain ⟨h654, h655, z657, h658, z659, h660, rfl, h656⟩ := h651
              have h661 := h656.2.2.2.2.2.2.2.2.2.2.2
              have h662 := Fr_trans h197 h655 (by decide +kernel)
              have h663 := OTH_tr h214 h661.1
              obtain ⟨S664, h665⟩ : ∃ q : PS, q = fFirst By Nb S235 := ⟨_, rfl⟩
              have h666 : CT By Nb σ653 S664 := by rw [h665]; exact h661.2.1
              have h667 := CT_k h666 h658
              have h668 : Imp (S664.1 = 0) (KN σ653 a S664.2.2.2 (act S664.2.2.2)) := fun z => by rw [h665] at z ⊢; exact h661.2.2 z
              have o669 : OUT σ0 σ653 a := OUT_tr h216 h656.1
              refine En_Ps 1 (pc' := 199) (lv' := [(0, .ref 3), (1, .ref a), (2, .int y47)]) (st' := []) rfl ?_
              have h670 : fL1 By Nb S235 = S664 := by rw [h665]; exact fL1_0 (by omega)
              exact keyj199 σ653 z657 z659 y49 h654 h662 h658 (by omega) (by omega) h660 (by omega) (by omega) ((h655 _ _ (inW ha (by decide +kernel))).trans h199) (by omega) (by omega) (by omega) (by omega) (h663) (CT_eq h666 h670.symm) (by rw [h670]; exact h668) (o669)
  have := (by decide : (Int32.ofInt 0).toInt = 0)
  have := (by decide : (Int32.ofInt 0).toInt = 0)
  refine En_lv (lv := [(0, .ref 3), (1, .ref a), (2, .int ((Int32.ofInt 0)))]) ⟨rfl, rfl, rfl, trivial⟩ ?_
  exact key25 (Int.toNat (1601) + 1) σ38 ((Int32.ofInt 0)) ((Int32.ofInt 0)) z28 z30 h39 h43 ((h40 _ _ (inW (by decide +kernel : TG 3 = 3) (by decide +kernel))).trans ((h26 _ _ (inW (by decide +kernel : TG 3 = 3) (by decide +kernel))).trans ((h19 _ _ (Or.inr (by decide))).trans ((h12 _ _ (Or.inr (by decide))).trans h4)))) ((h40 _ _ (inW ha (by decide +kernel))).trans h29) ((h40 _ _ (inW ha (by decide +kernel))).trans h31) (by omega) (by omega) (by omega) (by omega) (by omega) (by omega) (by omega) (by omega) (by omega) (by omega) (by omega) (by omega) (by omega) (h44) (RLI_0 h42 (by decide) ((h40 _ _ (inW (by decide +kernel : TG 3 = 3) (by decide +kernel))).trans ((h26 _ _ (inW (by decide +kernel : TG 3 = 3) (by decide +kernel))).trans ((h19 _ _ (Or.inr (by decide))).trans ((h12 _ _ (Or.inr (by decide))).trans h4)))) (by decide) ((h40 _ _ (inW (by decide +kernel : TG 3 = 3) (by decide +kernel))).trans ((h26 _ _ (inW (by decide +kernel : TG 3 = 3) (by decide +kernel))).trans ((h19 _ _ (Or.inr (by decide))).trans h11))) (by decide) h45 (by decide)) (o46)

