/-- DoorSchool$Reader.stands(Ljava/lang/String;)Z -/
abbrev P_71s5 (σ0 : SG) : PO := fun v σ => WT σ ∧ Fr [] σ0 σ ∧ ∃ ret : Int32, v = some (.int ret) ∧ -ret.toInt ≤ 0 ∧ ret.toInt - 1 ≤ 0
set_option maxRecDepth 10000 in
set_option maxHeartbeats 4000000 in
theorem c_71s5 (σ0 : SG) (hσ0 : WT σ0) : En 4 90 none mr_71 (P_71s5 σ0) 0 [(0, .ref 3), (1, .retAddr 11)] [] σ0 := by
  have hF0 : Fr [] σ0 σ0 := Fr_rfl
  refine En_Ps 1 (pc' := 1) (lv' := [(0, .ref 3), (1, .retAddr 11)]) (st' := [.ref 3]) rfl ?_
  refine En_getI (j := 1) (l := 0) (u := 4) rfl rfl rfl (by decide +kernel : TG 3 = 3) (by decide +kernel) hσ0 (by decide +kernel) (fun z2 h1 h3 h4 => ?_)
  refine En_Ps 1 (pc' := 5) (lv' := [(0, .ref 3), (1, .retAddr 11)]) (st' := [.int ((Int32.ofInt 1)), .int z2]) rfl ?_
  refine En_icNe _ rfl (by decide : (Int32.ofInt 1).toInt = 1) rfl (fun h5 => ?_) (fun h5 => ?_)
  · refine En_Ps 1 (pc' := 25) (lv' := [(0, .ref 3), (1, .retAddr 11)]) (st' := [.int ((Int32.ofInt 0))]) rfl ?_
    refine En_top (by decide : (Int32.ofInt 0).toInt = 0) (fun z6 h7 => ?_)
    exact En_ret (v := some (.int z6)) rfl rfl (retZ rfl rfl (by omega) (by omega)) ⟨hσ0, hF0, z6, rfl, (by omega)⟩
  · refine En_Ps 1 (pc' := 9) (lv' := [(0, .ref 3), (1, .retAddr 11)]) (st' := [.ref 3]) rfl ?_
    refine En_getI (j := 3) (l := 0) (u := 1600) rfl rfl rfl (by decide +kernel : TG 3 = 3) (by decide +kernel) hσ0 (by decide +kernel) (fun z9 h8 h10 h11 => ?_)
    refine En_Ps 1 (pc' := 13) (lv' := [(0, .ref 3), (1, .retAddr 11)]) (st' := [.ref 3, .int z9]) rfl ?_
    refine En_getI (j := 2) (l := 0) (u := 1600) rfl rfl rfl (by decide +kernel : TG 3 = 3) (by decide +kernel) hσ0 (by decide +kernel) (fun z13 h12 h14 h15 => ?_)
    refine En_Ps 1 (pc' := 17) (lv' := [(0, .ref 3), (1, .retAddr 11)]) (st' := [.int ((z9 - z13))]) rfl ?_
    refine En_top (subI rfl rfl (by omega) (by omega)) (fun z16 h17 => ?_)
    refine En_Ps 1 (pc' := 18) (lv' := [(0, .ref 3), (1, .retAddr 11)]) (st' := [.retAddr 11, .int z16]) rfl ?_
    refine En_slen 5 5 rfl rfl (by decide) rfl ?_
    refine En_icEq _ rfl (by decide : (Int32.ofNat 5).toInt = 5) rfl (fun h18 => ?_) (fun h18 => ?_)
    · refine En_Ps 2 (pc' := 28) (lv' := [(2, .int ((Int32.ofInt 0))), (0, .ref 3), (1, .retAddr 11)]) (st' := []) rfl ?_
      have key28 : ∀ (n28 : Nat) (σ20 : SG) (y19 : Int32), WT σ20 → Fr [] σ0 σ20 → (σ20 3)[1]? = some (.int z2) → (σ20 3)[3]? = some (.int z9) → (σ20 3)[2]? = some (.int z13) → 0 ≤ y19.toInt → y19.toInt ≤ 5 → z9.toInt - y19.toInt < (n28 : Int) → En 4 90 none mr_71 (P_71s5 σ0) 28 [(0, .ref 3), (1, .retAddr 11), (2, .int y19)] [] σ20 := by
        intro n28
        induction n28 with
        | zero =>
          intro σ20 y19 h21 h22 h23 h24 h25 h26 h27 h28
          exfalso; omega
        | succ n28 ih28 =>
          intro σ20 y19 h21 h22 h23 h24 h25 h26 h27 h28
          refine En_Ps 2 (pc' := 30) (lv' := [(0, .ref 3), (1, .retAddr 11), (2, .int y19)]) (st' := [.retAddr 11, .int y19]) rfl ?_
          refine En_slen 5 5 rfl rfl (by decide) rfl ?_
          refine En_icGe _ rfl (by decide : (Int32.ofNat 5).toInt = 5) rfl (fun h29 => ?_) (fun h29 => ?_)
          · refine En_Ps 1 (pc' := 67) (lv' := [(0, .ref 3), (1, .retAddr 11), (2, .int y19)]) (st' := [.int ((Int32.ofInt 1))]) rfl ?_
            refine En_top (by decide : (Int32.ofInt 1).toInt = 1) (fun z30 h31 => ?_)
            exact En_ret (v := some (.int z30)) rfl rfl (retZ rfl rfl (by omega) (by omega)) ⟨h21, h22, z30, rfl, (by omega)⟩
          · refine En_Ps 1 (pc' := 37) (lv' := [(0, .ref 3), (1, .retAddr 11), (2, .int y19)]) (st' := [.ref 3]) rfl ?_
            refine En_getU (j := 0) (u := 1) (g' := 1) (q := 0) rfl rfl rfl (by decide +kernel : TG 3 = 3) (by decide +kernel) h21 (by decide +kernel) (by decide +kernel) (fun h32 => ?_)
            refine En_getU (j := 0) (u := 2) (g' := 2) (q := 0) rfl rfl rfl (by decide +kernel : TG 1 = 1) (by decide +kernel) h21 (by decide +kernel) (by decide +kernel) (fun h34 => ?_)
            refine En_Ps 1 (pc' := 44) (lv' := [(0, .ref 3), (1, .retAddr 11), (2, .int y19)]) (st' := [.ref 3, .ref 2]) rfl ?_
            refine En_getK (j := 2) h25 rfl rfl rfl (by decide +kernel : TG 3 = 3) (by decide +kernel) ?_
            refine En_Ps 2 (pc' := 49) (lv' := [(0, .ref 3), (1, .retAddr 11), (2, .int y19)]) (st' := [.int ((z13 + y19)), .ref 2]) rfl ?_
            refine En_top (addI rfl rfl (by omega) (by omega)) (fun z36 h37 => ?_)
            refine En_bald (l := (-128)) (u := 127) rfl rfl (by decide +kernel : TG 2 = 2) (by decide +kernel) h21 (by omega) (lnI (by decide +kernel : LN _ = 1600) (by omega)) (FTsgl (by decide +kernel)) (fun z39 h38 h40 h41 => ?_)
            refine En_Ps 2 (pc' := 52) (lv' := [(0, .ref 3), (1, .retAddr 11), (2, .int y19)]) (st' := [.int y19, .retAddr 11, .int z39]) rfl ?_
            refine En_schar 5 5 rfl rfl rfl (by decide) (by omega) (by omega) rfl (fun z42 h43 h44 => ?_)
            refine En_icEq _ rfl rfl rfl (fun h45 => ?_) (fun h45 => ?_)
            · refine En_Ps 1 (pc' := 63) (lv' := [(2, .int ((y19 + Int32.ofInt 1))), (0, .ref 3), (1, .retAddr 11)]) (st' := []) rfl ?_
              refine En_lv1 (addI rfl (by decide : (Int32.ofInt 1).toInt = 1) (by omega) (by omega)) (fun z46 h47 => ?_)
              refine En_Ps 1 (pc' := 28) (lv' := [(2, .int z46), (0, .ref 3), (1, .retAddr 11)]) (st' := []) rfl ?_
              refine En_lv (lv := [(0, .ref 3), (1, .retAddr 11), (2, .int z46)]) ⟨rfl, rfl, rfl, trivial⟩ ?_
              exact ih28 σ20 z46 h21 h22 h23 h24 h25 (by omega) (by omega) (by omega)
            · refine En_Ps 1 (pc' := 59) (lv' := [(0, .ref 3), (1, .retAddr 11), (2, .int y19)]) (st' := [.int ((Int32.ofInt 0))]) rfl ?_
              refine En_top (by decide : (Int32.ofInt 0).toInt = 0) (fun z48 h49 => ?_)
              exact En_ret (v := some (.int z48)) rfl rfl (retZ rfl rfl (by omega) (by omega)) ⟨h21, h22, z48, rfl, (by omega)⟩
      have := (by decide : (Int32.ofInt 0).toInt = 0)
      refine En_lv (lv := [(0, .ref 3), (1, .retAddr 11), (2, .int ((Int32.ofInt 0)))]) ⟨rfl, rfl, rfl, trivial⟩ ?_
      exact key28 (Int.toNat (z9.toInt) + 1) σ0 ((Int32.ofInt 0)) hσ0 hF0 h1 h8 h12 (by omega) (by omega) (by omega)
    · refine En_Ps 1 (pc' := 25) (lv' := [(0, .ref 3), (1, .retAddr 11)]) (st' := [.int ((Int32.ofInt 0))]) rfl ?_
      refine En_top (by decide : (Int32.ofInt 0).toInt = 0) (fun z50 h51 => ?_)
      exact En_ret (v := some (.int z50)) rfl rfl (retZ rfl rfl (by omega) (by omega)) ⟨hσ0, hF0, z50, rfl, (by omega)⟩
/-- DoorSchool$Reader.stands(Ljava/lang/String;)Z -/
abbrev P_71s6 (σ0 : SG) : PO := fun v σ => WT σ ∧ Fr [] σ0 σ ∧ ∃ ret : Int32, v = some (.int ret) ∧ -ret.toInt ≤ 0 ∧ ret.toInt - 1 ≤ 0
set_option maxRecDepth 10000 in
set_option maxHeartbeats 4000000 in
theorem c_71s6 (σ0 : SG) (hσ0 : WT σ0) : En 4 90 none mr_71 (P_71s6 σ0) 0 [(0, .ref 3), (1, .retAddr 13)] [] σ0 := by
  have hF0 : Fr [] σ0 σ0 := Fr_rfl
  refine En_Ps 1 (pc' := 1) (lv' := [(0, .ref 3), (1, .retAddr 13)]) (st' := [.ref 3]) rfl ?_
  refine En_getI (j := 1) (l := 0) (u := 4) rfl rfl rfl (by decide +kernel : TG 3 = 3) (by decide +kernel) hσ0 (by decide +kernel) (fun z2 h1 h3 h4 => ?_)
  refine En_Ps 1 (pc' := 5) (lv' := [(0, .ref 3), (1, .retAddr 13)]) (st' := [.int ((Int32.ofInt 1)), .int z2]) rfl ?_
  refine En_icNe _ rfl (by decide : (Int32.ofInt 1).toInt = 1) rfl (fun h5 => ?_) (fun h5 => ?_)
  · refine En_Ps 1 (pc' := 25) (lv' := [(0, .ref 3), (1, .retAddr 13)]) (st' := [.int ((Int32.ofInt 0))]) rfl ?_
    refine En_top (by decide : (Int32.ofInt 0).toInt = 0) (fun z6 h7 => ?_)
    exact En_ret (v := some (.int z6)) rfl rfl (retZ rfl rfl (by omega) (by omega)) ⟨hσ0, hF0, z6, rfl, (by omega)⟩
  · refine En_Ps 1 (pc' := 9) (lv' := [(0, .ref 3), (1, .retAddr 13)]) (st' := [.ref 3]) rfl ?_
    refine En_getI (j := 3) (l := 0) (u := 1600) rfl rfl rfl (by decide +kernel : TG 3 = 3) (by decide +kernel) hσ0 (by decide +kernel) (fun z9 h8 h10 h11 => ?_)
    refine En_Ps 1 (pc' := 13) (lv' := [(0, .ref 3), (1, .retAddr 13)]) (st' := [.ref 3, .int z9]) rfl ?_
    refine En_getI (j := 2) (l := 0) (u := 1600) rfl rfl rfl (by decide +kernel : TG 3 = 3) (by decide +kernel) hσ0 (by decide +kernel) (fun z13 h12 h14 h15 => ?_)
    refine En_Ps 1 (pc' := 17) (lv' := [(0, .ref 3), (1, .retAddr 13)]) (st' := [.int ((z9 - z13))]) rfl ?_
    refine En_top (subI rfl rfl (by omega) (by omega)) (fun z16 h17 => ?_)
    refine En_Ps 1 (pc' := 18) (lv' := [(0, .ref 3), (1, .retAddr 13)]) (st' := [.retAddr 13, .int z16]) rfl ?_
    refine En_slen 6 6 rfl rfl (by decide) rfl ?_
    refine En_icEq _ rfl (by decide : (Int32.ofNat 6).toInt = 6) rfl (fun h18 => ?_) (fun h18 => ?_)
    · refine En_Ps 2 (pc' := 28) (lv' := [(2, .int ((Int32.ofInt 0))), (0, .ref 3), (1, .retAddr 13)]) (st' := []) rfl ?_
      have key28 : ∀ (n28 : Nat) (σ20 : SG) (y19 : Int32), WT σ20 → Fr [] σ0 σ20 → (σ20 3)[1]? = some (.int z2) → (σ20 3)[3]? = some (.int z9) → (σ20 3)[2]? = some (.int z13) → 0 ≤ y19.toInt → y19.toInt ≤ 6 → z9.toInt - y19.toInt < (n28 : Int) → En 4 90 none mr_71 (P_71s6 σ0) 28 [(0, .ref 3), (1, .retAddr 13), (2, .int y19)] [] σ20 := by
        intro n28
        induction n28 with
        | zero =>
          intro σ20 y19 h21 h22 h23 h24 h25 h26 h27 h28
          exfalso; omega
        | succ n28 ih28 =>
          intro σ20 y19 h21 h22 h23 h24 h25 h26 h27 h28
          refine En_Ps 2 (pc' := 30) (lv' := [(0, .ref 3), (1, .retAddr 13), (2, .int y19)]) (st' := [.retAddr 13, .int y19]) rfl ?_
          refine En_slen 6 6 rfl rfl (by decide) rfl ?_
          refine En_icGe _ rfl (by decide : (Int32.ofNat 6).toInt = 6) rfl (fun h29 => ?_) (fun h29 => ?_)
          · refine En_Ps 1 (pc' := 67) (lv' := [(0, .ref 3), (1, .retAddr 13), (2, .int y19)]) (st' := [.int ((Int32.ofInt 1))]) rfl ?_
            refine En_top (by decide : (Int32.ofInt 1).toInt = 1) (fun z30 h31 => ?_)
            exact En_ret (v := some (.int z30)) rfl rfl (retZ rfl rfl (by omega) (by omega)) ⟨h21, h22, z30, rfl, (by omega)⟩
          · refine En_Ps 1 (pc' := 37) (lv' := [(0, .ref 3), (1, .retAddr 13), (2, .int y19)]) (st' := [.ref 3]) rfl ?_
            refine En_getU (j := 0) (u := 1) (g' := 1) (q := 0) rfl rfl rfl (by decide +kernel : TG 3 = 3) (by decide +kernel) h21 (by decide +kernel) (by decide +kernel) (fun h32 => ?_)
            refine En_getU (j := 0) (u := 2) (g' := 2) (q := 0) rfl rfl rfl (by decide +kernel : TG 1 = 1) (by decide +kernel) h21 (by decide +kernel) (by decide +kernel) (fun h34 => ?_)
            refine En_Ps 1 (pc' := 44) (lv' := [(0, .ref 3), (1, .retAddr 13), (2, .int y19)]) (st' := [.ref 3, .ref 2]) rfl ?_
            refine En_getK (j := 2) h25 rfl rfl rfl (by decide +kernel : TG 3 = 3) (by decide +kernel) ?_
            refine En_Ps 2 (pc' := 49) (lv' := [(0, .ref 3), (1, .retAddr 13), (2, .int y19)]) (st' := [.int ((z13 + y19)), .ref 2]) rfl ?_
            refine En_top (addI rfl rfl (by omega) (by omega)) (fun z36 h37 => ?_)
            refine En_bald (l := (-128)) (u := 127) rfl rfl (by decide +kernel : TG 2 = 2) (by decide +kernel) h21 (by omega) (lnI (by decide +kernel : LN _ = 1600) (by omega)) (FTsgl (by decide +kernel)) (fun z39 h38 h40 h41 => ?_)
            refine En_Ps 2 (pc' := 52) (lv' := [(0, .ref 3), (1, .retAddr 13), (2, .int y19)]) (st' := [.int y19, .retAddr 13, .int z39]) rfl ?_
            refine En_schar 6 6 rfl rfl rfl (by decide) (by omega) (by omega) rfl (fun z42 h43 h44 => ?_)
            refine En_icEq _ rfl rfl rfl (fun h45 => ?_) (fun h45 => ?_)
            · refine En_Ps 1 (pc' := 63) (lv' := [(2, .int ((y19 + Int32.ofInt 1))), (0, .ref 3), (1, .retAddr 13)]) (st' := []) rfl ?_
              refine En_lv1 (addI rfl (by decide : (Int32.ofInt 1).toInt = 1) (by omega) (by omega)) (fun z46 h47 => ?_)
              refine En_Ps 1 (pc' := 28) (lv' := [(2, .int z46), (0, .ref 3), (1, .retAddr 13)]) (st' := []) rfl ?_
              refine En_lv (lv := [(0, .ref 3), (1, .retAddr 13), (2, .int z46)]) ⟨rfl, rfl, rfl, trivial⟩ ?_
              exact ih28 σ20 z46 h21 h22 h23 h24 h25 (by omega) (by omega) (by omega)
            · refine En_Ps 1 (pc' := 59) (lv' := [(0, .ref 3), (1, .retAddr 13), (2, .int y19)]) (st' := [.int ((Int32.ofInt 0))]) rfl ?_
              refine En_top (by decide : (Int32.ofInt 0).toInt = 0) (fun z48 h49 => ?_)
              exact En_ret (v := some (.int z48)) rfl rfl (retZ rfl rfl (by omega) (by omega)) ⟨h21, h22, z48, rfl, (by omega)⟩
      have := (by decide : (Int32.ofInt 0).toInt = 0)
      refine En_lv (lv := [(0, .ref 3), (1, .retAddr 13), (2, .int ((Int32.ofInt 0)))]) ⟨rfl, rfl, rfl, trivial⟩ ?_
      exact key28 (Int.toNat (z9.toInt) + 1) σ0 ((Int32.ofInt 0)) hσ0 hF0 h1 h8 h12 (by omega) (by omega) (by omega)
    · refine En_Ps 1 (pc' := 25) (lv' := [(0, .ref 3), (1, .retAddr 13)]) (st' := [.int ((Int32.ofInt 0))]) rfl ?_
      refine En_top (by decide : (Int32.ofInt 0).toInt = 0) (fun z50 h51 => ?_)
      exact En_ret (v := some (.int z50)) rfl rfl (retZ rfl rfl (by omega) (by omega)) ⟨hσ0, hF0, z50, rfl, (by omega)⟩
/-- DoorSchool$Reader.stands(Ljava/lang/String;)Z -/
abbrev P_71s7 (σ0 : SG) : PO := fun v σ => WT σ ∧ Fr [] σ0 σ ∧ ∃ ret : Int32, v = some (.int ret) ∧ -ret.toInt ≤ 0 ∧ ret.toInt - 1 ≤ 0
set_option maxRecDepth 10000 in
set_option maxHeartbeats 4000000 in
theorem c_71s7 (σ0 : SG) (hσ0 : WT σ0) : En 4 90 none mr_71 (P_71s7 σ0) 0 [(0, .ref 3), (1, .retAddr 15)] [] σ0 := by
  have hF0 : Fr [] σ0 σ0 := Fr_rfl
  refine En_Ps 1 (pc' := 1) (lv' := [(0, .ref 3), (1, .retAddr 15)]) (st' := [.ref 3]) rfl ?_
  refine En_getI (j := 1) (l := 0) (u := 4) rfl rfl rfl (by decide +kernel : TG 3 = 3) (by decide +kernel) hσ0 (by decide +kernel) (fun z2 h1 h3 h4 => ?_)
  refine En_Ps 1 (pc' := 5) (lv' := [(0, .ref 3), (1, .retAddr 15)]) (st' := [.int ((Int32.ofInt 1)), .int z2]) rfl ?_
  refine En_icNe _ rfl (by decide : (Int32.ofInt 1).toInt = 1) rfl (fun h5 => ?_) (fun h5 => ?_)
  · refine En_Ps 1 (pc' := 25) (lv' := [(0, .ref 3), (1, .retAddr 15)]) (st' := [.int ((Int32.ofInt 0))]) rfl ?_
    refine En_top (by decide : (Int32.ofInt 0).toInt = 0) (fun z6 h7 => ?_)
    exact En_ret (v := some (.int z6)) rfl rfl (retZ rfl rfl (by omega) (by omega)) ⟨hσ0, hF0, z6, rfl, (by omega)⟩
  · refine En_Ps 1 (pc' := 9) (lv' := [(0, .ref 3), (1, .retAddr 15)]) (st' := [.ref 3]) rfl ?_
    refine En_getI (j := 3) (l := 0) (u := 1600) rfl rfl rfl (by decide +kernel : TG 3 = 3) (by decide +kernel) hσ0 (by decide +kernel) (fun z9 h8 h10 h11 => ?_)
    refine En_Ps 1 (pc' := 13) (lv' := [(0, .ref 3), (1, .retAddr 15)]) (st' := [.ref 3, .int z9]) rfl ?_
    refine En_getI (j := 2) (l := 0) (u := 1600) rfl rfl rfl (by decide +kernel : TG 3 = 3) (by decide +kernel) hσ0 (by decide +kernel) (fun z13 h12 h14 h15 => ?_)
    refine En_Ps 1 (pc' := 17) (lv' := [(0, .ref 3), (1, .retAddr 15)]) (st' := [.int ((z9 - z13))]) rfl ?_
    refine En_top (subI rfl rfl (by omega) (by omega)) (fun z16 h17 => ?_)
    refine En_Ps 1 (pc' := 18) (lv' := [(0, .ref 3), (1, .retAddr 15)]) (st' := [.retAddr 15, .int z16]) rfl ?_
    refine En_slen 7 7 rfl rfl (by decide) rfl ?_
    refine En_icEq _ rfl (by decide : (Int32.ofNat 7).toInt = 7) rfl (fun h18 => ?_) (fun h18 => ?_)
    · refine En_Ps 2 (pc' := 28) (lv' := [(2, .int ((Int32.ofInt 0))), (0, .ref 3), (1, .retAddr 15)]) (st' := []) rfl ?_
      have key28 : ∀ (n28 : Nat) (σ20 : SG) (y19 : Int32), WT σ20 → Fr [] σ0 σ20 → (σ20 3)[1]? = some (.int z2) → (σ20 3)[3]? = some (.int z9) → (σ20 3)[2]? = some (.int z13) → 0 ≤ y19.toInt → y19.toInt ≤ 7 → z9.toInt - y19.toInt < (n28 : Int) → En 4 90 none mr_71 (P_71s7 σ0) 28 [(0, .ref 3), (1, .retAddr 15), (2, .int y19)] [] σ20 := by
        intro n28
        induction n28 with
        | zero =>
          intro σ20 y19 h21 h22 h23 h24 h25 h26 h27 h28
          exfalso; omega
        | succ n28 ih28 =>
          intro σ20 y19 h21 h22 h23 h24 h25 h26 h27 h28
          refine En_Ps 2 (pc' := 30) (lv' := [(0, .ref 3), (1, .retAddr 15), (2, .int y19)]) (st' := [.retAddr 15, .int y19]) rfl ?_
          refine En_slen 7 7 rfl rfl (by decide) rfl ?_
          refine En_icGe _ rfl (by decide : (Int32.ofNat 7).toInt = 7) rfl (fun h29 => ?_) (fun h29 => ?_)
          · refine En_Ps 1 (pc' := 67) (lv' := [(0, .ref 3), (1, .retAddr 15), (2, .int y19)]) (st' := [.int ((Int32.ofInt 1))]) rfl ?_
            refine En_top (by decide : (Int32.ofInt 1).toInt = 1) (fun z30 h31 => ?_)
            exact En_ret (v := some (.int z30)) rfl rfl (retZ rfl rfl (by omega) (by omega)) ⟨h21, h22, z30, rfl, (by omega)⟩
          · refine En_Ps 1 (pc' := 37) (lv' := [(0, .ref 3), (1, .retAddr 15), (2, .int y19)]) (st' := [.ref 3]) rfl ?_
            refine En_getU (j := 0) (u := 1) (g' := 1) (q := 0) rfl rfl rfl (by decide +kernel : TG 3 = 3) (by decide +kernel) h21 (by decide +kernel) (by decide +kernel) (fun h32 => ?_)
            refine En_getU (j := 0) (u := 2) (g' := 2) (q := 0) rfl rfl rfl (by decide +kernel : TG 1 = 1) (by decide +kernel) h21 (by decide +kernel) (by decide +kernel) (fun h34 => ?_)
            refine En_Ps 1 (pc' := 44) (lv' := [(0, .ref 3), (1, .retAddr 15), (2, .int y19)]) (st' := [.ref 3, .ref 2]) rfl ?_
            refine En_getK (j := 2) h25 rfl rfl rfl (by decide +kernel : TG 3 = 3) (by decide +kernel) ?_
            refine En_Ps 2 (pc' := 49) (lv' := [(0, .ref 3), (1, .retAddr 15), (2, .int y19)]) (st' := [.int ((z13 + y19)), .ref 2]) rfl ?_
            refine En_top (addI rfl rfl (by omega) (by omega)) (fun z36 h37 => ?_)
            refine En_bald (l := (-128)) (u := 127) rfl rfl (by decide +kernel : TG 2 = 2) (by decide +kernel) h21 (by omega) (lnI (by decide +kernel : LN _ = 1600) (by omega)) (FTsgl (by decide +kernel)) (fun z39 h38 h40 h41 => ?_)
            refine En_Ps 2 (pc' := 52) (lv' := [(0, .ref 3), (1, .retAddr 15), (2, .int y19)]) (st' := [.int y19, .retAddr 15, .int z39]) rfl ?_
            refine En_schar 7 7 rfl rfl rfl (by decide) (by omega) (by omega) rfl (fun z42 h43 h44 => ?_)
            refine En_icEq _ rfl rfl rfl (fun h45 => ?_) (fun h45 => ?_)
            · refine En_Ps 1 (pc' := 63) (lv' := [(2, .int ((y19 + Int32.ofInt 1))), (0, .ref 3), (1, .retAddr 15)]) (st' := []) rfl ?_
              refine En_lv1 (addI rfl (by decide : (Int32.ofInt 1).toInt = 1) (by omega) (by omega)) (fun z46 h47 => ?_)
              refine En_Ps 1 (pc' := 28) (lv' := [(2, .int z46), (0, .ref 3), (1, .retAddr 15)]) (st' := []) rfl ?_
              refine En_lv (lv := [(0, .ref 3), (1, .retAddr 15), (2, .int z46)]) ⟨rfl, rfl, rfl, trivial⟩ ?_
              exact ih28 σ20 z46 h21 h22 h23 h24 h25 (by omega) (by omega) (by omega)
            · refine En_Ps 1 (pc' := 59) (lv' := [(0, .ref 3), (1, .retAddr 15), (2, .int y19)]) (st' := [.int ((Int32.ofInt 0))]) rfl ?_
              refine En_top (by decide : (Int32.ofInt 0).toInt = 0) (fun z48 h49 => ?_)
              exact En_ret (v := some (.int z48)) rfl rfl (retZ rfl rfl (by omega) (by omega)) ⟨h21, h22, z48, rfl, (by omega)⟩
      have := (by decide : (Int32.ofInt 0).toInt = 0)
      refine En_lv (lv := [(0, .ref 3), (1, .retAddr 15), (2, .int ((Int32.ofInt 0)))]) ⟨rfl, rfl, rfl, trivial⟩ ?_
      exact key28 (Int.toNat (z9.toInt) + 1) σ0 ((Int32.ofInt 0)) hσ0 hF0 h1 h8 h12 (by omega) (by omega) (by omega)
    · refine En_Ps 1 (pc' := 25) (lv' := [(0, .ref 3), (1, .retAddr 15)]) (st' := [.int ((Int32.ofInt 0))]) rfl ?_
      refine En_top (by decide : (Int32.ofInt 0).toInt = 0) (fun z50 h51 => ?_)
      exact En_ret (v := some (.int z50)) rfl rfl (retZ rfl rfl (by omega) (by omega)) ⟨hσ0, hF0, z50, rfl, (by omega)⟩
/-- DoorSchool$Reader.stands(Ljava/lang/String;)Z -/
abbrev P_71s8 (σ0 : SG) : PO := fun v σ => WT σ ∧ Fr [] σ0 σ ∧ ∃ ret : Int32, v = some (.int ret) ∧ -ret.toInt ≤ 0 ∧ ret.toInt - 1 ≤ 0
set_option maxRecDepth 10000 in
set_option maxHeartbeats 4000000 in
theorem c_71s8 (σ0 : SG) (hσ0 : WT σ0) : En 4 90 none mr_71 (P_71s8 σ0) 0 [(0, .ref 3), (1, .retAddr 17)] [] σ0 := by
  have hF0 : Fr [] σ0 σ0 := Fr_rfl
  refine En_Ps 1 (pc' := 1) (lv' := [(0, .ref 3), (1, .retAddr 17)]) (st' := [.ref 3]) rfl ?_
  refine En_getI (j := 1) (l := 0) (u := 4) rfl rfl rfl (by decide +kernel : TG 3 = 3) (by decide +kernel) hσ0 (by decide +kernel) (fun z2 h1 h3 h4 => ?_)
  refine En_Ps 1 (pc' := 5) (lv' := [(0, .ref 3), (1, .retAddr 17)]) (st' := [.int ((Int32.ofInt 1)), .int z2]) rfl ?_
  refine En_icNe _ rfl (by decide : (Int32.ofInt 1).toInt = 1) rfl (fun h5 => ?_) (fun h5 => ?_)
  · refine En_Ps 1 (pc' := 25) (lv' := [(0, .ref 3), (1, .retAddr 17)]) (st' := [.int ((Int32.ofInt 0))]) rfl ?_
    refine En_top (by decide : (Int32.ofInt 0).toInt = 0) (fun z6 h7 => ?_)
    exact En_ret (v := some (.int z6)) rfl rfl (retZ rfl rfl (by omega) (by omega)) ⟨hσ0, hF0, z6, rfl, (by omega)⟩
  · refine En_Ps 1 (pc' := 9) (lv' := [(0, .ref 3), (1, .retAddr 17)]) (st' := [.ref 3]) rfl ?_
    refine En_getI (j := 3) (l := 0) (u := 1600) rfl rfl rfl (by decide +kernel : TG 3 = 3) (by decide +kernel) hσ0 (by decide +kernel) (fun z9 h8 h10 h11 => ?_)
    refine En_Ps 1 (pc' := 13) (lv' := [(0, .ref 3), (1, .retAddr 17)]) (st' := [.ref 3, .int z9]) rfl ?_
    refine En_getI (j := 2) (l := 0) (u := 1600) rfl rfl rfl (by decide +kernel : TG 3 = 3) (by decide +kernel) hσ0 (by decide +kernel) (fun z13 h12 h14 h15 => ?_)
    refine En_Ps 1 (pc' := 17) (lv' := [(0, .ref 3), (1, .retAddr 17)]) (st' := [.int ((z9 - z13))]) rfl ?_
    refine En_top (subI rfl rfl (by omega) (by omega)) (fun z16 h17 => ?_)
    refine En_Ps 1 (pc' := 18) (lv' := [(0, .ref 3), (1, .retAddr 17)]) (st' := [.retAddr 17, .int z16]) rfl ?_
    refine En_slen 8 4 rfl rfl (by decide) rfl ?_
    refine En_icEq _ rfl (by decide : (Int32.ofNat 4).toInt = 4) rfl (fun h18 => ?_) (fun h18 => ?_)
    · refine En_Ps 2 (pc' := 28) (lv' := [(2, .int ((Int32.ofInt 0))), (0, .ref 3), (1, .retAddr 17)]) (st' := []) rfl ?_
      have key28 : ∀ (n28 : Nat) (σ20 : SG) (y19 : Int32), WT σ20 → Fr [] σ0 σ20 → (σ20 3)[1]? = some (.int z2) → (σ20 3)[3]? = some (.int z9) → (σ20 3)[2]? = some (.int z13) → 0 ≤ y19.toInt → y19.toInt ≤ 4 → z9.toInt - y19.toInt < (n28 : Int) → En 4 90 none mr_71 (P_71s8 σ0) 28 [(0, .ref 3), (1, .retAddr 17), (2, .int y19)] [] σ20 := by
        intro n28
        induction n28 with
        | zero =>
          intro σ20 y19 h21 h22 h23 h24 h25 h26 h27 h28
          exfalso; omega
        | succ n28 ih28 =>
          intro σ20 y19 h21 h22 h23 h24 h25 h26 h27 h28
          refine En_Ps 2 (pc' := 30) (lv' := [(0, .ref 3), (1, .retAddr 17), (2, .int y19)]) (st' := [.retAddr 17, .int y19]) rfl ?_
          refine En_slen 8 4 rfl rfl (by decide) rfl ?_
          refine En_icGe _ rfl (by decide : (Int32.ofNat 4).toInt = 4) rfl (fun h29 => ?_) (fun h29 => ?_)
          · refine En_Ps 1 (pc' := 67) (lv' := [(0, .ref 3), (1, .retAddr 17), (2, .int y19)]) (st' := [.int ((Int32.ofInt 1))]) rfl ?_
            refine En_top (by decide : (Int32.ofInt 1).toInt = 1) (fun z30 h31 => ?_)
            exact En_ret (v := some (.int z30)) rfl rfl (retZ rfl rfl (by omega) (by omega)) ⟨h21, h22, z30, rfl, (by omega)⟩
          · refine En_Ps 1 (pc' := 37) (lv' := [(0, .ref 3), (1, .retAddr 17), (2, .int y19)]) (st' := [.ref 3]) rfl ?_
            refine En_getU (j := 0) (u := 1) (g' := 1) (q := 0) rfl rfl rfl (by decide +kernel : TG 3 = 3) (by decide +kernel) h21 (by decide +kernel) (by decide +kernel) (fun h32 => ?_)
            refine En_getU (j := 0) (u := 2) (g' := 2) (q := 0) rfl rfl rfl (by decide +kernel : TG 1 = 1) (by decide +kernel) h21 (by decide +kernel) (by decide +kernel) (fun h34 => ?_)
            refine En_Ps 1 (pc' := 44) (lv' := [(0, .ref 3), (1, .retAddr 17), (2, .int y19)]) (st' := [.ref 3, .ref 2]) rfl ?_
            refine En_getK (j := 2) h25 rfl rfl rfl (by decide +kernel : TG 3 = 3) (by decide +kernel) ?_
            refine En_Ps 2 (pc' := 49) (lv' := [(0, .ref 3), (1, .retAddr 17), (2, .int y19)]) (st' := [.int ((z13 + y19)), .ref 2]) rfl ?_
            refine En_top (addI rfl rfl (by omega) (by omega)) (fun z36 h37 => ?_)
            refine En_bald (l := (-128)) (u := 127) rfl rfl (by decide +kernel : TG 2 = 2) (by decide +kernel) h21 (by omega) (lnI (by decide +kernel : LN _ = 1600) (by omega)) (FTsgl (by decide +kernel)) (fun z39 h38 h40 h41 => ?_)
            refine En_Ps 2 (pc' := 52) (lv' := [(0, .ref 3), (1, .retAddr 17), (2, .int y19)]) (st' := [.int y19, .retAddr 17, .int z39]) rfl ?_
            refine En_schar 8 4 rfl rfl rfl (by decide) (by omega) (by omega) rfl (fun z42 h43 h44 => ?_)
            refine En_icEq _ rfl rfl rfl (fun h45 => ?_) (fun h45 => ?_)
            · refine En_Ps 1 (pc' := 63) (lv' := [(2, .int ((y19 + Int32.ofInt 1))), (0, .ref 3), (1, .retAddr 17)]) (st' := []) rfl ?_
              refine En_lv1 (addI rfl (by decide : (Int32.ofInt 1).toInt = 1) (by omega) (by omega)) (fun z46 h47 => ?_)
              refine En_Ps 1 (pc' := 28) (lv' := [(2, .int z46), (0, .ref 3), (1, .retAddr 17)]) (st' := []) rfl ?_
              refine En_lv (lv := [(0, .ref 3), (1, .retAddr 17), (2, .int z46)]) ⟨rfl, rfl, rfl, trivial⟩ ?_
              exact ih28 σ20 z46 h21 h22 h23 h24 h25 (by omega) (by omega) (by omega)
            · refine En_Ps 1 (pc' := 59) (lv' := [(0, .ref 3), (1, .retAddr 17), (2, .int y19)]) (st' := [.int ((Int32.ofInt 0))]) rfl ?_
              refine En_top (by decide : (Int32.ofInt 0).toInt = 0) (fun z48 h49 => ?_)
              exact En_ret (v := some (.int z48)) rfl rfl (retZ rfl rfl (by omega) (by omega)) ⟨h21, h22, z48, rfl, (by omega)⟩
      have := (by decide : (Int32.ofInt 0).toInt = 0)
      refine En_lv (lv := [(0, .ref 3), (1, .retAddr 17), (2, .int ((Int32.ofInt 0)))]) ⟨rfl, rfl, rfl, trivial⟩ ?_
      exact key28 (Int.toNat (z9.toInt) + 1) σ0 ((Int32.ofInt 0)) hσ0 hF0 h1 h8 h12 (by omega) (by omega) (by omega)
    · refine En_Ps 1 (pc' := 25) (lv' := [(0, .ref 3), (1, .retAddr 17)]) (st' := [.int ((Int32.ofInt 0))]) rfl ?_
      refine En_top (by decide : (Int32.ofInt 0).toInt = 0) (fun z50 h51 => ?_)
      exact En_ret (v := some (.int z50)) rfl rfl (retZ rfl rfl (by omega) (by omega)) ⟨hσ0, hF0, z50, rfl, (by omega)⟩
/-- DoorSchool$Reader.stands(Ljava/lang/String;)Z -/
abbrev P_71s9 (σ0 : SG) : PO := fun v σ => WT σ ∧ Fr [] σ0 σ ∧ ∃ ret : Int32, v = some (.int ret) ∧ -ret.toInt ≤ 0 ∧ ret.toInt - 1 ≤ 0
set_option maxRecDepth 10000 in
set_option maxHeartbeats 4000000 in
theorem c_71s9 (σ0 : SG) (hσ0 : WT σ0) : En 4 90 none mr_71 (P_71s9 σ0) 0 [(0, .ref 3), (1, .retAddr 19)] [] σ0 := by
  have hF0 : Fr [] σ0 σ0 := Fr_rfl
  refine En_Ps 1 (pc' := 1) (lv' := [(0, .ref 3), (1, .retAddr 19)]) (st' := [.ref 3]) rfl ?_
  refine En_getI (j := 1) (l := 0) (u := 4) rfl rfl rfl (by decide +kernel : TG 3 = 3) (by decide +kernel) hσ0 (by decide +kernel) (fun z2 h1 h3 h4 => ?_)
  refine En_Ps 1 (pc' := 5) (lv' := [(0, .ref 3), (1, .retAddr 19)]) (st' := [.int ((Int32.ofInt 1)), .int z2]) rfl ?_
  refine En_icNe _ rfl (by decide : (Int32.ofInt 1).toInt = 1) rfl (fun h5 => ?_) (fun h5 => ?_)
  · refine En_Ps 1 (pc' := 25) (lv' := [(0, .ref 3), (1, .retAddr 19)]) (st' := [.int ((Int32.ofInt 0))]) rfl ?_
    refine En_top (by decide : (Int32.ofInt 0).toInt = 0) (fun z6 h7 => ?_)
    exact En_ret (v := some (.int z6)) rfl rfl (retZ rfl rfl (by omega) (by omega)) ⟨hσ0, hF0, z6, rfl, (by omega)⟩
  · refine En_Ps 1 (pc' := 9) (lv' := [(0, .ref 3), (1, .retAddr 19)]) (st' := [.ref 3]) rfl ?_
    refine En_getI (j := 3) (l := 0) (u := 1600) rfl rfl rfl (by decide +kernel : TG 3 = 3) (by decide +kernel) hσ0 (by decide +kernel) (fun z9 h8 h10 h11 => ?_)
    refine En_Ps 1 (pc' := 13) (lv' := [(0, .ref 3), (1, .retAddr 19)]) (st' := [.ref 3, .int z9]) rfl ?_
    refine En_getI (j := 2) (l := 0) (u := 1600) rfl rfl rfl (by decide +kernel : TG 3 = 3) (by decide +kernel) hσ0 (by decide +kernel) (fun z13 h12 h14 h15 => ?_)
    refine En_Ps 1 (pc' := 17) (lv' := [(0, .ref 3), (1, .retAddr 19)]) (st' := [.int ((z9 - z13))]) rfl ?_
    refine En_top (subI rfl rfl (by omega) (by omega)) (fun z16 h17 => ?_)
    refine En_Ps 1 (pc' := 18) (lv' := [(0, .ref 3), (1, .retAddr 19)]) (st' := [.retAddr 19, .int z16]) rfl ?_
    refine En_slen 9 5 rfl rfl (by decide) rfl ?_
    refine En_icEq _ rfl (by decide : (Int32.ofNat 5).toInt = 5) rfl (fun h18 => ?_) (fun h18 => ?_)
    · refine En_Ps 2 (pc' := 28) (lv' := [(2, .int ((Int32.ofInt 0))), (0, .ref 3), (1, .retAddr 19)]) (st' := []) rfl ?_
      have key28 : ∀ (n28 : Nat) (σ20 : SG) (y19 : Int32), WT σ20 → Fr [] σ0 σ20 → (σ20 3)[1]? = some (.int z2) → (σ20 3)[3]? = some (.int z9) → (σ20 3)[2]? = some (.int z13) → 0 ≤ y19.toInt → y19.toInt ≤ 5 → z9.toInt - y19.toInt < (n28 : Int) → En 4 90 none mr_71 (P_71s9 σ0) 28 [(0, .ref 3), (1, .retAddr 19), (2, .int y19)] [] σ20 := by
        intro n28
        induction n28 with
        | zero =>
          intro σ20 y19 h21 h22 h23 h24 h25 h26 h27 h28
          exfalso; omega
        | succ n28 ih28 =>
          intro σ20 y19 h21 h22 h23 h24 h25 h26 h27 h28
          refine En_Ps 2 (pc' := 30) (lv' := [(0, .ref 3), (1, .retAddr 19), (2, .int y19)]) (st' := [.retAddr 19, .int y19]) rfl ?_
          refine En_slen 9 5 rfl rfl (by decide) rfl ?_
          refine En_icGe _ rfl (by decide : (Int32.ofNat 5).toInt = 5) rfl (fun h29 => ?_) (fun h29 => ?_)
          · refine En_Ps 1 (pc' := 67) (lv' := [(0, .ref 3), (1, .retAddr 19), (2, .int y19)]) (st' := [.int ((Int32.ofInt 1))]) rfl ?_
            refine En_top (by decide : (Int32.ofInt 1).toInt = 1) (fun z30 h31 => ?_)
            exact En_ret (v := some (.int z30)) rfl rfl (retZ rfl rfl (by omega) (by omega)) ⟨h21, h22, z30, rfl, (by omega)⟩
          · refine En_Ps 1 (pc' := 37) (lv' := [(0, .ref 3), (1, .retAddr 19), (2, .int y19)]) (st' := [.ref 3]) rfl ?_
            refine En_getU (j := 0) (u := 1) (g' := 1) (q := 0) rfl rfl rfl (by decide +kernel : TG 3 = 3) (by decide +kernel) h21 (by decide +kernel) (by decide +kernel) (fun h32 => ?_)
            refine En_getU (j := 0) (u := 2) (g' := 2) (q := 0) rfl rfl rfl (by decide +kernel : TG 1 = 1) (by decide +kernel) h21 (by decide +kernel) (by decide +kernel) (fun h34 => ?_)
            refine En_Ps 1 (pc' := 44) (lv' := [(0, .ref 3), (1, .retAddr 19), (2, .int y19)]) (st' := [.ref 3, .ref 2]) rfl ?_
            refine En_getK (j := 2) h25 rfl rfl rfl (by decide +kernel : TG 3 = 3) (by decide +kernel) ?_
            refine En_Ps 2 (pc' := 49) (lv' := [(0, .ref 3), (1, .retAddr 19), (2, .int y19)]) (st' := [.int ((z13 + y19)), .ref 2]) rfl ?_
            refine En_top (addI rfl rfl (by omega) (by omega)) (fun z36 h37 => ?_)
            refine En_bald (l := (-128)) (u := 127) rfl rfl (by decide +kernel : TG 2 = 2) (by decide +kernel) h21 (by omega) (lnI (by decide +kernel : LN _ = 1600) (by omega)) (FTsgl (by decide +kernel)) (fun z39 h38 h40 h41 => ?_)
            refine En_Ps 2 (pc' := 52) (lv' := [(0, .ref 3), (1, .retAddr 19), (2, .int y19)]) (st' := [.int y19, .retAddr 19, .int z39]) rfl ?_
            refine En_schar 9 5 rfl rfl rfl (by decide) (by omega) (by omega) rfl (fun z42 h43 h44 => ?_)
            refine En_icEq _ rfl rfl rfl (fun h45 => ?_) (fun h45 => ?_)
            · refine En_Ps 1 (pc' := 63) (lv' := [(2, .int ((y19 + Int32.ofInt 1))), (0, .ref 3), (1, .retAddr 19)]) (st' := []) rfl ?_
              refine En_lv1 (addI rfl (by decide : (Int32.ofInt 1).toInt = 1) (by omega) (by omega)) (fun z46 h47 => ?_)
              refine En_Ps 1 (pc' := 28) (lv' := [(2, .int z46), (0, .ref 3), (1, .retAddr 19)]) (st' := []) rfl ?_
              refine En_lv (lv := [(0, .ref 3), (1, .retAddr 19), (2, .int z46)]) ⟨rfl, rfl, rfl, trivial⟩ ?_
              exact ih28 σ20 z46 h21 h22 h23 h24 h25 (by omega) (by omega) (by omega)
            · refine En_Ps 1 (pc' := 59) (lv' := [(0, .ref 3), (1, .retAddr 19), (2, .int y19)]) (st' := [.int ((Int32.ofInt 0))]) rfl ?_
              refine En_top (by decide : (Int32.ofInt 0).toInt = 0) (fun z48 h49 => ?_)
              exact En_ret (v := some (.int z48)) rfl rfl (retZ rfl rfl (by omega) (by omega)) ⟨h21, h22, z48, rfl, (by omega)⟩
      have := (by decide : (Int32.ofInt 0).toInt = 0)
      refine En_lv (lv := [(0, .ref 3), (1, .retAddr 19), (2, .int ((Int32.ofInt 0)))]) ⟨rfl, rfl, rfl, trivial⟩ ?_
      exact key28 (Int.toNat (z9.toInt) + 1) σ0 ((Int32.ofInt 0)) hσ0 hF0 h1 h8 h12 (by omega) (by omega) (by omega)
    · refine En_Ps 1 (pc' := 25) (lv' := [(0, .ref 3), (1, .retAddr 19)]) (st' := [.int ((Int32.ofInt 0))]) rfl ?_
      refine En_top (by decide : (Int32.ofInt 0).toInt = 0) (fun z50 h51 => ?_)
      exact En_ret (v := some (.int z50)) rfl rfl (retZ rfl rfl (by omega) (by omega)) ⟨hσ0, hF0, z50, rfl, (by omega)⟩
/-- DoorSchool$Reader.stands(Ljava/lang/String;)Z -/
abbrev P_71s10 (σ0 : SG) : PO := fun v σ => WT σ ∧ Fr [] σ0 σ ∧ ∃ ret : Int32, v = some (.int ret) ∧ -ret.toInt ≤ 0 ∧ ret.toInt - 1 ≤ 0
set_option maxRecDepth 10000 in
set_option maxHeartbeats 4000000 in
theorem c_71s10 (σ0 : SG) (hσ0 : WT σ0) : En 4 90 none mr_71 (P_71s10 σ0) 0 [(0, .ref 3), (1, .retAddr 21)] [] σ0 := by
  have hF0 : Fr [] σ0 σ0 := Fr_rfl
  refine En_Ps 1 (pc' := 1) (lv' := [(0, .ref 3), (1, .retAddr 21)]) (st' := [.ref 3]) rfl ?_
  refine En_getI (j := 1) (l := 0) (u := 4) rfl rfl rfl (by decide +kernel : TG 3 = 3) (by decide +kernel) hσ0 (by decide +kernel) (fun z2 h1 h3 h4 => ?_)
  refine En_Ps 1 (pc' := 5) (lv' := [(0, .ref 3), (1, .retAddr 21)]) (st' := [.int ((Int32.ofInt 1)), .int z2]) rfl ?_
  refine En_icNe _ rfl (by decide : (Int32.ofInt 1).toInt = 1) rfl (fun h5 => ?_) (fun h5 => ?_)
  · refine En_Ps 1 (pc' := 25) (lv' := [(0, .ref 3), (1, .retAddr 21)]) (st' := [.int ((Int32.ofInt 0))]) rfl ?_
    refine En_top (by decide : (Int32.ofInt 0).toInt = 0) (fun z6 h7 => ?_)
    exact En_ret (v := some (.int z6)) rfl rfl (retZ rfl rfl (by omega) (by omega)) ⟨hσ0, hF0, z6, rfl, (by omega)⟩
  · refine En_Ps 1 (pc' := 9) (lv' := [(0, .ref 3), (1, .retAddr 21)]) (st' := [.ref 3]) rfl ?_
    refine En_getI (j := 3) (l := 0) (u := 1600) rfl rfl rfl (by decide +kernel : TG 3 = 3) (by decide +kernel) hσ0 (by decide +kernel) (fun z9 h8 h10 h11 => ?_)
    refine En_Ps 1 (pc' := 13) (lv' := [(0, .ref 3), (1, .retAddr 21)]) (st' := [.ref 3, .int z9]) rfl ?_
    refine En_getI (j := 2) (l := 0) (u := 1600) rfl rfl rfl (by decide +kernel : TG 3 = 3) (by decide +kernel) hσ0 (by decide +kernel) (fun z13 h12 h14 h15 => ?_)
    refine En_Ps 1 (pc' := 17) (lv' := [(0, .ref 3), (1, .retAddr 21)]) (st' := [.int ((z9 - z13))]) rfl ?_
    refine En_top (subI rfl rfl (by omega) (by omega)) (fun z16 h17 => ?_)
    refine En_Ps 1 (pc' := 18) (lv' := [(0, .ref 3), (1, .retAddr 21)]) (st' := [.retAddr 21, .int z16]) rfl ?_
    refine En_slen 10 6 rfl rfl (by decide) rfl ?_
    refine En_icEq _ rfl (by decide : (Int32.ofNat 6).toInt = 6) rfl (fun h18 => ?_) (fun h18 => ?_)
    · refine En_Ps 2 (pc' := 28) (lv' := [(2, .int ((Int32.ofInt 0))), (0, .ref 3), (1, .retAddr 21)]) (st' := []) rfl ?_
      have key28 : ∀ (n28 : Nat) (σ20 : SG) (y19 : Int32), WT σ20 → Fr [] σ0 σ20 → (σ20 3)[1]? = some (.int z2) → (σ20 3)[3]? = some (.int z9) → (σ20 3)[2]? = some (.int z13) → 0 ≤ y19.toInt → y19.toInt ≤ 6 → z9.toInt - y19.toInt < (n28 : Int) → En 4 90 none mr_71 (P_71s10 σ0) 28 [(0, .ref 3), (1, .retAddr 21), (2, .int y19)] [] σ20 := by
        intro n28
        induction n28 with
        | zero =>
          intro σ20 y19 h21 h22 h23 h24 h25 h26 h27 h28
          exfalso; omega
        | succ n28 ih28 =>
          intro σ20 y19 h21 h22 h23 h24 h25 h26 h27 h28
          refine En_Ps 2 (pc' := 30) (lv' := [(0, .ref 3), (1, .retAddr 21), (2, .int y19)]) (st' := [.retAddr 21, .int y19]) rfl ?_
          refine En_slen 10 6 rfl rfl (by decide) rfl ?_
          refine En_icGe _ rfl (by decide : (Int32.ofNat 6).toInt = 6) rfl (fun h29 => ?_) (fun h29 => ?_)
          · refine En_Ps 1 (pc' := 67) (lv' := [(0, .ref 3), (1, .retAddr 21), (2, .int y19)]) (st' := [.int ((Int32.ofInt 1))]) rfl ?_
            refine En_top (by decide : (Int32.ofInt 1).toInt = 1) (fun z30 h31 => ?_)
            exact En_ret (v := some (.int z30)) rfl rfl (retZ rfl rfl (by omega) (by omega)) ⟨h21, h22, z30, rfl, (by omega)⟩
          · refine En_Ps 1 (pc' := 37) (lv' := [(0, .ref 3), (1, .retAddr 21), (2, .int y19)]) (st' := [.ref 3]) rfl ?_
            refine En_getU (j := 0) (u := 1) (g' := 1) (q := 0) rfl rfl rfl (by decide +kernel : TG 3 = 3) (by decide +kernel) h21 (by decide +kernel) (by decide +kernel) (fun h32 => ?_)
            refine En_getU (j := 0) (u := 2) (g' := 2) (q := 0) rfl rfl rfl (by decide +kernel : TG 1 = 1) (by decide +kernel) h21 (by decide +kernel) (by decide +kernel) (fun h34 => ?_)
            refine En_Ps 1 (pc' := 44) (lv' := [(0, .ref 3), (1, .retAddr 21), (2, .int y19)]) (st' := [.ref 3, .ref 2]) rfl ?_
            refine En_getK (j := 2) h25 rfl rfl rfl (by decide +kernel : TG 3 = 3) (by decide +kernel) ?_
            refine En_Ps 2 (pc' := 49) (lv' := [(0, .ref 3), (1, .retAddr 21), (2, .int y19)]) (st' := [.int ((z13 + y19)), .ref 2]) rfl ?_
            refine En_top (addI rfl rfl (by omega) (by omega)) (fun z36 h37 => ?_)
            refine En_bald (l := (-128)) (u := 127) rfl rfl (by decide +kernel : TG 2 = 2) (by decide +kernel) h21 (by omega) (lnI (by decide +kernel : LN _ = 1600) (by omega)) (FTsgl (by decide +kernel)) (fun z39 h38 h40 h41 => ?_)
            refine En_Ps 2 (pc' := 52) (lv' := [(0, .ref 3), (1, .retAddr 21), (2, .int y19)]) (st' := [.int y19, .retAddr 21, .int z39]) rfl ?_
            refine En_schar 10 6 rfl rfl rfl (by decide) (by omega) (by omega) rfl (fun z42 h43 h44 => ?_)
            refine En_icEq _ rfl rfl rfl (fun h45 => ?_) (fun h45 => ?_)
            · refine En_Ps 1 (pc' := 63) (lv' := [(2, .int ((y19 + Int32.ofInt 1))), (0, .ref 3), (1, .retAddr 21)]) (st' := []) rfl ?_
              refine En_lv1 (addI rfl (by decide : (Int32.ofInt 1).toInt = 1) (by omega) (by omega)) (fun z46 h47 => ?_)
              refine En_Ps 1 (pc' := 28) (lv' := [(2, .int z46), (0, .ref 3), (1, .retAddr 21)]) (st' := []) rfl ?_
              refine En_lv (lv := [(0, .ref 3), (1, .retAddr 21), (2, .int z46)]) ⟨rfl, rfl, rfl, trivial⟩ ?_
              exact ih28 σ20 z46 h21 h22 h23 h24 h25 (by omega) (by omega) (by omega)
            · refine En_Ps 1 (pc' := 59) (lv' := [(0, .ref 3), (1, .retAddr 21), (2, .int y19)]) (st' := [.int ((Int32.ofInt 0))]) rfl ?_
              refine En_top (by decide : (Int32.ofInt 0).toInt = 0) (fun z48 h49 => ?_)
              exact En_ret (v := some (.int z48)) rfl rfl (retZ rfl rfl (by omega) (by omega)) ⟨h21, h22, z48, rfl, (by omega)⟩
      have := (by decide : (Int32.ofInt 0).toInt = 0)
      refine En_lv (lv := [(0, .ref 3), (1, .retAddr 21), (2, .int ((Int32.ofInt 0)))]) ⟨rfl, rfl, rfl, trivial⟩ ?_
      exact key28 (Int.toNat (z9.toInt) + 1) σ0 ((Int32.ofInt 0)) hσ0 hF0 h1 h8 h12 (by omega) (by omega) (by omega)
    · refine En_Ps 1 (pc' := 25) (lv' := [(0, .ref 3), (1, .retAddr 21)]) (st' := [.int ((Int32.ofInt 0))]) rfl ?_
      refine En_top (by decide : (Int32.ofInt 0).toInt = 0) (fun z50 h51 => ?_)
      exact En_ret (v := some (.int z50)) rfl rfl (retZ rfl rfl (by omega) (by omega)) ⟨hσ0, hF0, z50, rfl, (by omega)⟩
/-- DoorSchool$Reader.stands(Ljava/lang/String;)Z -/
abbrev P_71s11 (σ0 : SG) : PO := fun v σ => WT σ ∧ Fr [] σ0 σ ∧ ∃ ret : Int32, v = some (.int ret) ∧ -ret.toInt ≤ 0 ∧ ret.toInt - 1 ≤ 0
set_option maxRecDepth 10000 in
set_option maxHeartbeats 4000000 in
theorem c_71s11 (σ0 : SG) (hσ0 : WT σ0) : En 4 90 none mr_71 (P_71s11 σ0) 0 [(0, .ref 3), (1, .retAddr 23)] [] σ0 := by
  have hF0 : Fr [] σ0 σ0 := Fr_rfl
  refine En_Ps 1 (pc' := 1) (lv' := [(0, .ref 3), (1, .retAddr 23)]) (st' := [.ref 3]) rfl ?_
  refine En_getI (j := 1) (l := 0) (u := 4) rfl rfl rfl (by decide +kernel : TG 3 = 3) (by decide +kernel) hσ0 (by decide +kernel) (fun z2 h1 h3 h4 => ?_)
  refine En_Ps 1 (pc' := 5) (lv' := [(0, .ref 3), (1, .retAddr 23)]) (st' := [.int ((Int32.ofInt 1)), .int z2]) rfl ?_
  refine En_icNe _ rfl (by decide : (Int32.ofInt 1).toInt = 1) rfl (fun h5 => ?_) (fun h5 => ?_)
  · refine En_Ps 1 (pc' := 25) (lv' := [(0, .ref 3), (1, .retAddr 23)]) (st' := [.int ((Int32.ofInt 0))]) rfl ?_
    refine En_top (by decide : (Int32.ofInt 0).toInt = 0) (fun z6 h7 => ?_)
    exact En_ret (v := some (.int z6)) rfl rfl (retZ rfl rfl (by omega) (by omega)) ⟨hσ0, hF0, z6, rfl, (by omega)⟩
  · refine En_Ps 1 (pc' := 9) (lv' := [(0, .ref 3), (1, .retAddr 23)]) (st' := [.ref 3]) rfl ?_
    refine En_getI (j := 3) (l := 0) (u := 1600) rfl rfl rfl (by decide +kernel : TG 3 = 3) (by decide +kernel) hσ0 (by decide +kernel) (fun z9 h8 h10 h11 => ?_)
    refine En_Ps 1 (pc' := 13) (lv' := [(0, .ref 3), (1, .retAddr 23)]) (st' := [.ref 3, .int z9]) rfl ?_
    refine En_getI (j := 2) (l := 0) (u := 1600) rfl rfl rfl (by decide +kernel : TG 3 = 3) (by decide +kernel) hσ0 (by decide +kernel) (fun z13 h12 h14 h15 => ?_)
    refine En_Ps 1 (pc' := 17) (lv' := [(0, .ref 3), (1, .retAddr 23)]) (st' := [.int ((z9 - z13))]) rfl ?_
    refine En_top (subI rfl rfl (by omega) (by omega)) (fun z16 h17 => ?_)
    refine En_Ps 1 (pc' := 18) (lv' := [(0, .ref 3), (1, .retAddr 23)]) (st' := [.retAddr 23, .int z16]) rfl ?_
    refine En_slen 11 8 rfl rfl (by decide) rfl ?_
    refine En_icEq _ rfl (by decide : (Int32.ofNat 8).toInt = 8) rfl (fun h18 => ?_) (fun h18 => ?_)
    · refine En_Ps 2 (pc' := 28) (lv' := [(2, .int ((Int32.ofInt 0))), (0, .ref 3), (1, .retAddr 23)]) (st' := []) rfl ?_
      have key28 : ∀ (n28 : Nat) (σ20 : SG) (y19 : Int32), WT σ20 → Fr [] σ0 σ20 → (σ20 3)[1]? = some (.int z2) → (σ20 3)[3]? = some (.int z9) → (σ20 3)[2]? = some (.int z13) → 0 ≤ y19.toInt → y19.toInt ≤ 8 → z9.toInt - y19.toInt < (n28 : Int) → En 4 90 none mr_71 (P_71s11 σ0) 28 [(0, .ref 3), (1, .retAddr 23), (2, .int y19)] [] σ20 := by
        intro n28
        induction n28 with
        | zero =>
          intro σ20 y19 h21 h22 h23 h24 h25 h26 h27 h28
          exfalso; omega
        | succ n28 ih28 =>
          intro σ20 y19 h21 h22 h23 h24 h25 h26 h27 h28
          refine En_Ps 2 (pc' := 30) (lv' := [(0, .ref 3), (1, .retAddr 23), (2, .int y19)]) (st' := [.retAddr 23, .int y19]) rfl ?_
          refine En_slen 11 8 rfl rfl (by decide) rfl ?_
          refine En_icGe _ rfl (by decide : (Int32.ofNat 8).toInt = 8) rfl (fun h29 => ?_) (fun h29 => ?_)
          · refine En_Ps 1 (pc' := 67) (lv' := [(0, .ref 3), (1, .retAddr 23), (2, .int y19)]) (st' := [.int ((Int32.ofInt 1))]) rfl ?_
            refine En_top (by decide : (Int32.ofInt 1).toInt = 1) (fun z30 h31 => ?_)
            exact En_ret (v := some (.int z30)) rfl rfl (retZ rfl rfl (by omega) (by omega)) ⟨h21, h22, z30, rfl, (by omega)⟩
          · refine En_Ps 1 (pc' := 37) (lv' := [(0, .ref 3), (1, .retAddr 23), (2, .int y19)]) (st' := [.ref 3]) rfl ?_
            refine En_getU (j := 0) (u := 1) (g' := 1) (q := 0) rfl rfl rfl (by decide +kernel : TG 3 = 3) (by decide +kernel) h21 (by decide +kernel) (by decide +kernel) (fun h32 => ?_)
            refine En_getU (j := 0) (u := 2) (g' := 2) (q := 0) rfl rfl rfl (by decide +kernel : TG 1 = 1) (by decide +kernel) h21 (by decide +kernel) (by decide +kernel) (fun h34 => ?_)
            refine En_Ps 1 (pc' := 44) (lv' := [(0, .ref 3), (1, .retAddr 23), (2, .int y19)]) (st' := [.ref 3, .ref 2]) rfl ?_
            refine En_getK (j := 2) h25 rfl rfl rfl (by decide +kernel : TG 3 = 3) (by decide +kernel) ?_
            refine En_Ps 2 (pc' := 49) (lv' := [(0, .ref 3), (1, .retAddr 23), (2, .int y19)]) (st' := [.int ((z13 + y19)), .ref 2]) rfl ?_
            refine En_top (addI rfl rfl (by omega) (by omega)) (fun z36 h37 => ?_)
            refine En_bald (l := (-128)) (u := 127) rfl rfl (by decide +kernel : TG 2 = 2) (by decide +kernel) h21 (by omega) (lnI (by decide +kernel : LN _ = 1600) (by omega)) (FTsgl (by decide +kernel)) (fun z39 h38 h40 h41 => ?_)
            refine En_Ps 2 (pc' := 52) (lv' := [(0, .ref 3), (1, .retAddr 23), (2, .int y19)]) (st' := [.int y19, .retAddr 23, .int z39]) rfl ?_
            refine En_schar 11 8 rfl rfl rfl (by decide) (by omega) (by omega) rfl (fun z42 h43 h44 => ?_)
            refine En_icEq _ rfl rfl rfl (fun h45 => ?_) (fun h45 => ?_)
            · refine En_Ps 1 (pc' := 63) (lv' := [(2, .int ((y19 + Int32.ofInt 1))), (0, .ref 3), (1, .retAddr 23)]) (st' := []) rfl ?_
              refine En_lv1 (addI rfl (by decide : (Int32.ofInt 1).toInt = 1) (by omega) (by omega)) (fun z46 h47 => ?_)
              refine En_Ps 1 (pc' := 28) (lv' := [(2, .int z46), (0, .ref 3), (1, .retAddr 23)]) (st' := []) rfl ?_
              refine En_lv (lv := [(0, .ref 3), (1, .retAddr 23), (2, .int z46)]) ⟨rfl, rfl, rfl, trivial⟩ ?_
              exact ih28 σ20 z46 h21 h22 h23 h24 h25 (by omega) (by omega) (by omega)
            · refine En_Ps 1 (pc' := 59) (lv' := [(0, .ref 3), (1, .retAddr 23), (2, .int y19)]) (st' := [.int ((Int32.ofInt 0))]) rfl ?_
              refine En_top (by decide : (Int32.ofInt 0).toInt = 0) (fun z48 h49 => ?_)
              exact En_ret (v := some (.int z48)) rfl rfl (retZ rfl rfl (by omega) (by omega)) ⟨h21, h22, z48, rfl, (by omega)⟩
      have := (by decide : (Int32.ofInt 0).toInt = 0)
      refine En_lv (lv := [(0, .ref 3), (1, .retAddr 23), (2, .int ((Int32.ofInt 0)))]) ⟨rfl, rfl, rfl, trivial⟩ ?_
      exact key28 (Int.toNat (z9.toInt) + 1) σ0 ((Int32.ofInt 0)) hσ0 hF0 h1 h8 h12 (by omega) (by omega) (by omega)
    · refine En_Ps 1 (pc' := 25) (lv' := [(0, .ref 3), (1, .retAddr 23)]) (st' := [.int ((Int32.ofInt 0))]) rfl ?_
      refine En_top (by decide : (Int32.ofInt 0).toInt = 0) (fun z50 h51 => ?_)
      exact En_ret (v := some (.int z50)) rfl rfl (retZ rfl rfl (by omega) (by omega)) ⟨hσ0, hF0, z50, rfl, (by omega)⟩
/-- DoorSchool$Reader.stands(Ljava/lang/String;)Z -/
abbrev P_71s12 (σ0 : SG) : PO := fun v σ => WT σ ∧ Fr [] σ0 σ ∧ ∃ ret : Int32, v = some (.int ret) ∧ -ret.toInt ≤ 0 ∧ ret.toInt - 1 ≤ 0
set_option maxRecDepth 10000 in
set_option maxHeartbeats 4000000 in
theorem c_71s12 (σ0 : SG) (hσ0 : WT σ0) : En 4 90 none mr_71 (P_71s12 σ0) 0 [(0, .ref 3), (1, .retAddr 25)] [] σ0 := by
  have hF0 : Fr [] σ0 σ0 := Fr_rfl
  refine En_Ps 1 (pc' := 1) (lv' := [(0, .ref 3), (1, .retAddr 25)]) (st' := [.ref 3]) rfl ?_
  refine En_getI (j := 1) (l := 0) (u := 4) rfl rfl rfl (by decide +kernel : TG 3 = 3) (by decide +kernel) hσ0 (by decide +kernel) (fun z2 h1 h3 h4 => ?_)
  refine En_Ps 1 (pc' := 5) (lv' := [(0, .ref 3), (1, .retAddr 25)]) (st' := [.int ((Int32.ofInt 1)), .int z2]) rfl ?_
  refine En_icNe _ rfl (by decide : (Int32.ofInt 1).toInt = 1) rfl (fun h5 => ?_) (fun h5 => ?_)
  · refine En_Ps 1 (pc' := 25) (lv' := [(0, .ref 3), (1, .retAddr 25)]) (st' := [.int ((Int32.ofInt 0))]) rfl ?_
    refine En_top (by decide : (Int32.ofInt 0).toInt = 0) (fun z6 h7 => ?_)
    exact En_ret (v := some (.int z6)) rfl rfl (retZ rfl rfl (by omega) (by omega)) ⟨hσ0, hF0, z6, rfl, (by omega)⟩
  · refine En_Ps 1 (pc' := 9) (lv' := [(0, .ref 3), (1, .retAddr 25)]) (st' := [.ref 3]) rfl ?_
    refine En_getI (j := 3) (l := 0) (u := 1600) rfl rfl rfl (by decide +kernel : TG 3 = 3) (by decide +kernel) hσ0 (by decide +kernel) (fun z9 h8 h10 h11 => ?_)
    refine En_Ps 1 (pc' := 13) (lv' := [(0, .ref 3), (1, .retAddr 25)]) (st' := [.ref 3, .int z9]) rfl ?_
    refine En_getI (j := 2) (l := 0) (u := 1600) rfl rfl rfl (by decide +kernel : TG 3 = 3) (by decide +kernel) hσ0 (by decide +kernel) (fun z13 h12 h14 h15 => ?_)
    refine En_Ps 1 (pc' := 17) (lv' := [(0, .ref 3), (1, .retAddr 25)]) (st' := [.int ((z9 - z13))]) rfl ?_
    refine En_top (subI rfl rfl (by omega) (by omega)) (fun z16 h17 => ?_)
    refine En_Ps 1 (pc' := 18) (lv' := [(0, .ref 3), (1, .retAddr 25)]) (st' := [.retAddr 25, .int z16]) rfl ?_
    refine En_slen 12 4 rfl rfl (by decide) rfl ?_
    refine En_icEq _ rfl (by decide : (Int32.ofNat 4).toInt = 4) rfl (fun h18 => ?_) (fun h18 => ?_)
    · refine En_Ps 2 (pc' := 28) (lv' := [(2, .int ((Int32.ofInt 0))), (0, .ref 3), (1, .retAddr 25)]) (st' := []) rfl ?_
      have key28 : ∀ (n28 : Nat) (σ20 : SG) (y19 : Int32), WT σ20 → Fr [] σ0 σ20 → (σ20 3)[1]? = some (.int z2) → (σ20 3)[3]? = some (.int z9) → (σ20 3)[2]? = some (.int z13) → 0 ≤ y19.toInt → y19.toInt ≤ 4 → z9.toInt - y19.toInt < (n28 : Int) → En 4 90 none mr_71 (P_71s12 σ0) 28 [(0, .ref 3), (1, .retAddr 25), (2, .int y19)] [] σ20 := by
        intro n28
        induction n28 with
        | zero =>
          intro σ20 y19 h21 h22 h23 h24 h25 h26 h27 h28
          exfalso; omega
        | succ n28 ih28 =>
          intro σ20 y19 h21 h22 h23 h24 h25 h26 h27 h28
          refine En_Ps 2 (pc' := 30) (lv' := [(0, .ref 3), (1, .retAddr 25), (2, .int y19)]) (st' := [.retAddr 25, .int y19]) rfl ?_
          refine En_slen 12 4 rfl rfl (by decide) rfl ?_
          refine En_icGe _ rfl (by decide : (Int32.ofNat 4).toInt = 4) rfl (fun h29 => ?_) (fun h29 => ?_)
          · refine En_Ps 1 (pc' := 67) (lv' := [(0, .ref 3), (1, .retAddr 25), (2, .int y19)]) (st' := [.int ((Int32.ofInt 1))]) rfl ?_
            refine En_top (by decide : (Int32.ofInt 1).toInt = 1) (fun z30 h31 => ?_)
            exact En_ret (v := some (.int z30)) rfl rfl (retZ rfl rfl (by omega) (by omega)) ⟨h21, h22, z30, rfl, (by omega)⟩
          · refine En_Ps 1 (pc' := 37) (lv' := [(0, .ref 3), (1, .retAddr 25), (2, .int y19)]) (st' := [.ref 3]) rfl ?_
            refine En_getU (j := 0) (u := 1) (g' := 1) (q := 0) rfl rfl rfl (by decide +kernel : TG 3 = 3) (by decide +kernel) h21 (by decide +kernel) (by decide +kernel) (fun h32 => ?_)
            refine En_getU (j := 0) (u := 2) (g' := 2) (q := 0) rfl rfl rfl (by decide +kernel : TG 1 = 1) (by decide +kernel) h21 (by decide +kernel) (by decide +kernel) (fun h34 => ?_)
            refine En_Ps 1 (pc' := 44) (lv' := [(0, .ref 3), (1, .retAddr 25), (2, .int y19)]) (st' := [.ref 3, .ref 2]) rfl ?_
            refine En_getK (j := 2) h25 rfl rfl rfl (by decide +kernel : TG 3 = 3) (by decide +kernel) ?_
            refine En_Ps 2 (pc' := 49) (lv' := [(0, .ref 3), (1, .retAddr 25), (2, .int y19)]) (st' := [.int ((z13 + y19)), .ref 2]) rfl ?_
            refine En_top (addI rfl rfl (by omega) (by omega)) (fun z36 h37 => ?_)
            refine En_bald (l := (-128)) (u := 127) rfl rfl (by decide +kernel : TG 2 = 2) (by decide +kernel) h21 (by omega) (lnI (by decide +kernel : LN _ = 1600) (by omega)) (FTsgl (by decide +kernel)) (fun z39 h38 h40 h41 => ?_)
            refine En_Ps 2 (pc' := 52) (lv' := [(0, .ref 3), (1, .retAddr 25), (2, .int y19)]) (st' := [.int y19, .retAddr 25, .int z39]) rfl ?_
            refine En_schar 12 4 rfl rfl rfl (by decide) (by omega) (by omega) rfl (fun z42 h43 h44 => ?_)
            refine En_icEq _ rfl rfl rfl (fun h45 => ?_) (fun h45 => ?_)
            · refine En_Ps 1 (pc' := 63) (lv' := [(2, .int ((y19 + Int32.ofInt 1))), (0, .ref 3), (1, .retAddr 25)]) (st' := []) rfl ?_
              refine En_lv1 (addI rfl (by decide : (Int32.ofInt 1).toInt = 1) (by omega) (by omega)) (fun z46 h47 => ?_)
              refine En_Ps 1 (pc' := 28) (lv' := [(2, .int z46), (0, .ref 3), (1, .retAddr 25)]) (st' := []) rfl ?_
              refine En_lv (lv := [(0, .ref 3), (1, .retAddr 25), (2, .int z46)]) ⟨rfl, rfl, rfl, trivial⟩ ?_
              exact ih28 σ20 z46 h21 h22 h23 h24 h25 (by omega) (by omega) (by omega)
            · refine En_Ps 1 (pc' := 59) (lv' := [(0, .ref 3), (1, .retAddr 25), (2, .int y19)]) (st' := [.int ((Int32.ofInt 0))]) rfl ?_
              refine En_top (by decide : (Int32.ofInt 0).toInt = 0) (fun z48 h49 => ?_)
              exact En_ret (v := some (.int z48)) rfl rfl (retZ rfl rfl (by omega) (by omega)) ⟨h21, h22, z48, rfl, (by omega)⟩
      have := (by decide : (Int32.ofInt 0).toInt = 0)
      refine En_lv (lv := [(0, .ref 3), (1, .retAddr 25), (2, .int ((Int32.ofInt 0)))]) ⟨rfl, rfl, rfl, trivial⟩ ?_
      exact key28 (Int.toNat (z9.toInt) + 1) σ0 ((Int32.ofInt 0)) hσ0 hF0 h1 h8 h12 (by omega) (by omega) (by omega)
    · refine En_Ps 1 (pc' := 25) (lv' := [(0, .ref 3), (1, .retAddr 25)]) (st' := [.int ((Int32.ofInt 0))]) rfl ?_
      refine En_top (by decide : (Int32.ofInt 0).toInt = 0) (fun z50 h51 => ?_)
      exact En_ret (v := some (.int z50)) rfl rfl (retZ rfl rfl (by omega) (by omega)) ⟨hσ0, hF0, z50, rfl, (by omega)⟩
/-- DoorSchool$Reader.stands(Ljava/lang/String;)Z -/
abbrev P_71s13 (σ0 : SG) : PO := fun v σ => WT σ ∧ Fr [] σ0 σ ∧ ∃ ret : Int32, v = some (.int ret) ∧ -ret.toInt ≤ 0 ∧ ret.toInt - 1 ≤ 0
set_option maxRecDepth 10000 in
set_option maxHeartbeats 4000000 in
theorem c_71s13 (σ0 : SG) (hσ0 : WT σ0) : En 4 90 none mr_71 (P_71s13 σ0) 0 [(0, .ref 3), (1, .retAddr 27)] [] σ0 := by
  have hF0 : Fr [] σ0 σ0 := Fr_rfl
  refine En_Ps 1 (pc' := 1) (lv' := [(0, .ref 3), (1, .retAddr 27)]) (st' := [.ref 3]) rfl ?_
  refine En_getI (j := 1) (l := 0) (u := 4) rfl rfl rfl (by decide +kernel : TG 3 = 3) (by decide +kernel) hσ0 (by decide +kernel) (fun z2 h1 h3 h4 => ?_)
  refine En_Ps 1 (pc' := 5) (lv' := [(0, .ref 3), (1, .retAddr 27)]) (st' := [.int ((Int32.ofInt 1)), .int z2]) rfl ?_
  refine En_icNe _ rfl (by decide : (Int32.ofInt 1).toInt = 1) rfl (fun h5 => ?_) (fun h5 => ?_)
  · refine En_Ps 1 (pc' := 25) (lv' := [(0, .ref 3), (1, .retAddr 27)]) (st' := [.int ((Int32.ofInt 0))]) rfl ?_
    refine En_top (by decide : (Int32.ofInt 0).toInt = 0) (fun z6 h7 => ?_)
    exact En_ret (v := some (.int z6)) rfl rfl (retZ rfl rfl (by omega) (by omega)) ⟨hσ0, hF0, z6, rfl, (by omega)⟩
  · refine En_Ps 1 (pc' := 9) (lv' := [(0, .ref 3), (1, .retAddr 27)]) (st' := [.ref 3]) rfl ?_
    refine En_getI (j := 3) (l := 0) (u := 1600) rfl rfl rfl (by decide +kernel : TG 3 = 3) (by decide +kernel) hσ0 (by decide +kernel) (fun z9 h8 h10 h11 => ?_)
    refine En_Ps 1 (pc' := 13) (lv' := [(0, .ref 3), (1, .retAddr 27)]) (st' := [.ref 3, .int z9]) rfl ?_
    refine En_getI (j := 2) (l := 0) (u := 1600) rfl rfl rfl (by decide +kernel : TG 3 = 3) (by decide +kernel) hσ0 (by decide +kernel) (fun z13 h12 h14 h15 => ?_)
    refine En_Ps 1 (pc' := 17) (lv' := [(0, .ref 3), (1, .retAddr 27)]) (st' := [.int ((z9 - z13))]) rfl ?_
    refine En_top (subI rfl rfl (by omega) (by omega)) (fun z16 h17 => ?_)
    refine En_Ps 1 (pc' := 18) (lv' := [(0, .ref 3), (1, .retAddr 27)]) (st' := [.retAddr 27, .int z16]) rfl ?_
    refine En_slen 13 5 rfl rfl (by decide) rfl ?_
    refine En_icEq _ rfl (by decide : (Int32.ofNat 5).toInt = 5) rfl (fun h18 => ?_) (fun h18 => ?_)
    · refine En_Ps 2 (pc' := 28) (lv' := [(2, .int ((Int32.ofInt 0))), (0, .ref 3), (1, .retAddr 27)]) (st' := []) rfl ?_
      have key28 : ∀ (n28 : Nat) (σ20 : SG) (y19 : Int32), WT σ20 → Fr [] σ0 σ20 → (σ20 3)[1]? = some (.int z2) → (σ20 3)[3]? = some (.int z9) → (σ20 3)[2]? = some (.int z13) → 0 ≤ y19.toInt → y19.toInt ≤ 5 → z9.toInt - y19.toInt < (n28 : Int) → En 4 90 none mr_71 (P_71s13 σ0) 28 [(0, .ref 3), (1, .retAddr 27), (2, .int y19)] [] σ20 := by
        intro n28
        induction n28 with
        | zero =>
          intro σ20 y19 h21 h22 h23 h24 h25 h26 h27 h28
          exfalso; omega
        | succ n28 ih28 =>
          intro σ20 y19 h21 h22 h23 h24 h25 h26 h27 h28
          refine En_Ps 2 (pc' := 30) (lv' := [(0, .ref 3), (1, .retAddr 27), (2, .int y19)]) (st' := [.retAddr 27, .int y19]) rfl ?_
          refine En_slen 13 5 rfl rfl (by decide) rfl ?_
          refine En_icGe _ rfl (by decide : (Int32.ofNat 5).toInt = 5) rfl (fun h29 => ?_) (fun h29 => ?_)
          · refine En_Ps 1 (pc' := 67) (lv' := [(0, .ref 3), (1, .retAddr 27), (2, .int y19)]) (st' := [.int ((Int32.ofInt 1))]) rfl ?_
            refine En_top (by decide : (Int32.ofInt 1).toInt = 1) (fun z30 h31 => ?_)
            exact En_ret (v := some (.int z30)) rfl rfl (retZ rfl rfl (by omega) (by omega)) ⟨h21, h22, z30, rfl, (by omega)⟩
          · refine En_Ps 1 (pc' := 37) (lv' := [(0, .ref 3), (1, .retAddr 27), (2, .int y19)]) (st' := [.ref 3]) rfl ?_
            refine En_getU (j := 0) (u := 1) (g' := 1) (q := 0) rfl rfl rfl (by decide +kernel : TG 3 = 3) (by decide +kernel) h21 (by decide +kernel) (by decide +kernel) (fun h32 => ?_)
            refine En_getU (j := 0) (u := 2) (g' := 2) (q := 0) rfl rfl rfl (by decide +kernel : TG 1 = 1) (by decide +kernel) h21 (by decide +kernel) (by decide +kernel) (fun h34 => ?_)
            refine En_Ps 1 (pc' := 44) (lv' := [(0, .ref 3), (1, .retAddr 27), (2, .int y19)]) (st' := [.ref 3, .ref 2]) rfl ?_
            refine En_getK (j := 2) h25 rfl rfl rfl (by decide +kernel : TG 3 = 3) (by decide +kernel) ?_
            refine En_Ps 2 (pc' := 49) (lv' := [(0, .ref 3), (1, .retAddr 27), (2, .int y19)]) (st' := [.int ((z13 + y19)), .ref 2]) rfl ?_
            refine En_top (addI rfl rfl (by omega) (by omega)) (fun z36 h37 => ?_)
            refine En_bald (l := (-128)) (u := 127) rfl rfl (by decide +kernel : TG 2 = 2) (by decide +kernel) h21 (by omega) (lnI (by decide +kernel : LN _ = 1600) (by omega)) (FTsgl (by decide +kernel)) (fun z39 h38 h40 h41 => ?_)
            refine En_Ps 2 (pc' := 52) (lv' := [(0, .ref 3), (1, .retAddr 27), (2, .int y19)]) (st' := [.int y19, .retAddr 27, .int z39]) rfl ?_
            refine En_schar 13 5 rfl rfl rfl (by decide) (by omega) (by omega) rfl (fun z42 h43 h44 => ?_)
            refine En_icEq _ rfl rfl rfl (fun h45 => ?_) (fun h45 => ?_)
            · refine En_Ps 1 (pc' := 63) (lv' := [(2, .int ((y19 + Int32.ofInt 1))), (0, .ref 3), (1, .retAddr 27)]) (st' := []) rfl ?_
              refine En_lv1 (addI rfl (by decide : (Int32.ofInt 1).toInt = 1) (by omega) (by omega)) (fun z46 h47 => ?_)
              refine En_Ps 1 (pc' := 28) (lv' := [(2, .int z46), (0, .ref 3), (1, .retAddr 27)]) (st' := []) rfl ?_
              refine En_lv (lv := [(0, .ref 3), (1, .retAddr 27), (2, .int z46)]) ⟨rfl, rfl, rfl, trivial⟩ ?_
              exact ih28 σ20 z46 h21 h22 h23 h24 h25 (by omega) (by omega) (by omega)
            · refine En_Ps 1 (pc' := 59) (lv' := [(0, .ref 3), (1, .retAddr 27), (2, .int y19)]) (st' := [.int ((Int32.ofInt 0))]) rfl ?_
              refine En_top (by decide : (Int32.ofInt 0).toInt = 0) (fun z48 h49 => ?_)
              exact En_ret (v := some (.int z48)) rfl rfl (retZ rfl rfl (by omega) (by omega)) ⟨h21, h22, z48, rfl, (by omega)⟩
      have := (by decide : (Int32.ofInt 0).toInt = 0)
      refine En_lv (lv := [(0, .ref 3), (1, .retAddr 27), (2, .int ((Int32.ofInt 0)))]) ⟨rfl, rfl, rfl, trivial⟩ ?_
      exact key28 (Int.toNat (z9.toInt) + 1) σ0 ((Int32.ofInt 0)) hσ0 hF0 h1 h8 h12 (by omega) (by omega) (by omega)
    · refine En_Ps 1 (pc' := 25) (lv' := [(0, .ref 3), (1, .retAddr 27)]) (st' := [.int ((Int32.ofInt 0))]) rfl ?_
      refine En_top (by decide : (Int32.ofInt 0).toInt = 0) (fun z50 h51 => ?_)
      exact En_ret (v := some (.int z50)) rfl rfl (retZ rfl rfl (by omega) (by omega)) ⟨hσ0, hF0, z50, rfl, (by omega)⟩
/-- DoorSchool$Reader.stands(Ljava/lang/String;)Z -/
abbrev P_71s14 (σ0 : SG) : PO := fun v σ => WT σ ∧ Fr [] σ0 σ ∧ ∃ ret : Int32, v = some (.int ret) ∧ -ret.toInt ≤ 0 ∧ ret.toInt - 1 ≤ 0
set_option maxRecDepth 10000 in
set_option maxHeartbeats 4000000 in
theorem c_71s14 (σ0 : SG) (hσ0 : WT σ0) : En 4 90 none mr_71 (P_71s14 σ0) 0 [(0, .ref 3), (1, .retAddr 29)] [] σ0 := by
  have hF0 : Fr [] σ0 σ0 := Fr_rfl
  refine En_Ps 1 (pc' := 1) (lv' := [(0, .ref 3), (1, .retAddr 29)]) (st' := [.ref 3]) rfl ?_
  refine En_getI (j := 1) (l := 0) (u := 4) rfl rfl rfl (by decide +kernel : TG 3 = 3) (by decide +kernel) hσ0 (by decide +kernel) (fun z2 h1 h3 h4 => ?_)
  refine En_Ps 1 (pc' := 5) (lv' := [(0, .ref 3), (1, .retAddr 29)]) (st' := [.int ((Int32.ofInt 1)), .int z2]) rfl ?_
  refine En_icNe _ rfl (by decide : (Int32.ofInt 1).toInt = 1) rfl (fun h5 => ?_) (fun h5 => ?_)
  · refine En_Ps 1 (pc' := 25) (lv' := [(0, .ref 3), (1, .retAddr 29)]) (st' := [.int ((Int32.ofInt 0))]) rfl ?_
    refine En_top (by decide : (Int32.ofInt 0).toInt = 0) (fun z6 h7 => ?_)
    exact En_ret (v := some (.int z6)) rfl rfl (retZ rfl rfl (by omega) (by omega)) ⟨hσ0, hF0, z6, rfl, (by omega)⟩
  · refine En_Ps 1 (pc' := 9) (lv' := [(0, .ref 3), (1, .retAddr 29)]) (st' := [.ref 3]) rfl ?_
    refine En_getI (j := 3) (l := 0) (u := 1600) rfl rfl rfl (by decide +kernel : TG 3 = 3) (by decide +kernel) hσ0 (by decide +kernel) (fun z9 h8 h10 h11 => ?_)
    refine En_Ps 1 (pc' := 13) (lv' := [(0, .ref 3), (1, .retAddr 29)]) (st' := [.ref 3, .int z9]) rfl ?_
    refine En_getI (j := 2) (l := 0) (u := 1600) rfl rfl rfl (by decide +kernel : TG 3 = 3) (by decide +kernel) hσ0 (by decide +kernel) (fun z13 h12 h14 h15 => ?_)
    refine En_Ps 1 (pc' := 17) (lv' := [(0, .ref 3), (1, .retAddr 29)]) (st' := [.int ((z9 - z13))]) rfl ?_
    refine En_top (subI rfl rfl (by omega) (by omega)) (fun z16 h17 => ?_)
    refine En_Ps 1 (pc' := 18) (lv' := [(0, .ref 3), (1, .retAddr 29)]) (st' := [.retAddr 29, .int z16]) rfl ?_
    refine En_slen 14 5 rfl rfl (by decide) rfl ?_
    refine En_icEq _ rfl (by decide : (Int32.ofNat 5).toInt = 5) rfl (fun h18 => ?_) (fun h18 => ?_)
    · refine En_Ps 2 (pc' := 28) (lv' := [(2, .int ((Int32.ofInt 0))), (0, .ref 3), (1, .retAddr 29)]) (st' := []) rfl ?_
      have key28 : ∀ (n28 : Nat) (σ20 : SG) (y19 : Int32), WT σ20 → Fr [] σ0 σ20 → (σ20 3)[1]? = some (.int z2) → (σ20 3)[3]? = some (.int z9) → (σ20 3)[2]? = some (.int z13) → 0 ≤ y19.toInt → y19.toInt ≤ 5 → z9.toInt - y19.toInt < (n28 : Int) → En 4 90 none mr_71 (P_71s14 σ0) 28 [(0, .ref 3), (1, .retAddr 29), (2, .int y19)] [] σ20 := by
        intro n28
        induction n28 with
        | zero =>
          intro σ20 y19 h21 h22 h23 h24 h25 h26 h27 h28
          exfalso; omega
        | succ n28 ih28 =>
          intro σ20 y19 h21 h22 h23 h24 h25 h26 h27 h28
          refine En_Ps 2 (pc' := 30) (lv' := [(0, .ref 3), (1, .retAddr 29), (2, .int y19)]) (st' := [.retAddr 29, .int y19]) rfl ?_
          refine En_slen 14 5 rfl rfl (by decide) rfl ?_
          refine En_icGe _ rfl (by decide : (Int32.ofNat 5).toInt = 5) rfl (fun h29 => ?_) (fun h29 => ?_)
          · refine En_Ps 1 (pc' := 67) (lv' := [(0, .ref 3), (1, .retAddr 29), (2, .int y19)]) (st' := [.int ((Int32.ofInt 1))]) rfl ?_
            refine En_top (by decide : (Int32.ofInt 1).toInt = 1) (fun z30 h31 => ?_)
            exact En_ret (v := some (.int z30)) rfl rfl (retZ rfl rfl (by omega) (by omega)) ⟨h21, h22, z30, rfl, (by omega)⟩
          · refine En_Ps 1 (pc' := 37) (lv' := [(0, .ref 3), (1, .retAddr 29), (2, .int y19)]) (st' := [.ref 3]) rfl ?_
            refine En_getU (j := 0) (u := 1) (g' := 1) (q := 0) rfl rfl rfl (by decide +kernel : TG 3 = 3) (by decide +kernel) h21 (by decide +kernel) (by decide +kernel) (fun h32 => ?_)
            refine En_getU (j := 0) (u := 2) (g' := 2) (q := 0) rfl rfl rfl (by decide +kernel : TG 1 = 1) (by decide +kernel) h21 (by decide +kernel) (by decide +kernel) (fun h34 => ?_)
            refine En_Ps 1 (pc' := 44) (lv' := [(0, .ref 3), (1, .retAddr 29), (2, .int y19)]) (st' := [.ref 3, .ref 2]) rfl ?_
            refine En_getK (j := 2) h25 rfl rfl rfl (by decide +kernel : TG 3 = 3) (by decide +kernel) ?_
            refine En_Ps 2 (pc' := 49) (lv' := [(0, .ref 3), (1, .retAddr 29), (2, .int y19)]) (st' := [.int ((z13 + y19)), .ref 2]) rfl ?_
            refine En_top (addI rfl rfl (by omega) (by omega)) (fun z36 h37 => ?_)
            refine En_bald (l := (-128)) (u := 127) rfl rfl (by decide +kernel : TG 2 = 2) (by decide +kernel) h21 (by omega) (lnI (by decide +kernel : LN _ = 1600) (by omega)) (FTsgl (by decide +kernel)) (fun z39 h38 h40 h41 => ?_)
            refine En_Ps 2 (pc' := 52) (lv' := [(0, .ref 3), (1, .retAddr 29), (2, .int y19)]) (st' := [.int y19, .retAddr 29, .int z39]) rfl ?_
            refine En_schar 14 5 rfl rfl rfl (by decide) (by omega) (by omega) rfl (fun z42 h43 h44 => ?_)
            refine En_icEq _ rfl rfl rfl (fun h45 => ?_) (fun h45 => ?_)
            · refine En_Ps 1 (pc' := 63) (lv' := [(2, .int ((y19 + Int32.ofInt 1))), (0, .ref 3), (1, .retAddr 29)]) (st' := []) rfl ?_
              refine En_lv1 (addI rfl (by decide : (Int32.ofInt 1).toInt = 1) (by omega) (by omega)) (fun z46 h47 => ?_)
              refine En_Ps 1 (pc' := 28) (lv' := [(2, .int z46), (0, .ref 3), (1, .retAddr 29)]) (st' := []) rfl ?_
              refine En_lv (lv := [(0, .ref 3), (1, .retAddr 29), (2, .int z46)]) ⟨rfl, rfl, rfl, trivial⟩ ?_
              exact ih28 σ20 z46 h21 h22 h23 h24 h25 (by omega) (by omega) (by omega)
            · refine En_Ps 1 (pc' := 59) (lv' := [(0, .ref 3), (1, .retAddr 29), (2, .int y19)]) (st' := [.int ((Int32.ofInt 0))]) rfl ?_
              refine En_top (by decide : (Int32.ofInt 0).toInt = 0) (fun z48 h49 => ?_)
              exact En_ret (v := some (.int z48)) rfl rfl (retZ rfl rfl (by omega) (by omega)) ⟨h21, h22, z48, rfl, (by omega)⟩
      have := (by decide : (Int32.ofInt 0).toInt = 0)
      refine En_lv (lv := [(0, .ref 3), (1, .retAddr 29), (2, .int ((Int32.ofInt 0)))]) ⟨rfl, rfl, rfl, trivial⟩ ?_
      exact key28 (Int.toNat (z9.toInt) + 1) σ0 ((Int32.ofInt 0)) hσ0 hF0 h1 h8 h12 (by omega) (by omega) (by omega)
    · refine En_Ps 1 (pc' := 25) (lv' := [(0, .ref 3), (1, .retAddr 29)]) (st' := [.int ((Int32.ofInt 0))]) rfl ?_
      refine En_top (by decide : (Int32.ofInt 0).toInt = 0) (fun z50 h51 => ?_)
      exact En_ret (v := some (.int z50)) rfl rfl (retZ rfl rfl (by omega) (by omega)) ⟨hσ0, hF0, z50, rfl, (by omega)⟩
/-- DoorSchool$Reader.stands(Ljava/lang/String;)Z -/
abbrev P_71s15 (σ0 : SG) : PO := fun v σ => WT σ ∧ Fr [] σ0 σ ∧ ∃ ret : Int32, v = some (.int ret) ∧ -ret.toInt ≤ 0 ∧ ret.toInt - 1 ≤ 0
set_option maxRecDepth 10000 in
set_option maxHeartbeats 4000000 in
theorem c_71s15 (σ0 : SG) (hσ0 : WT σ0) : En 4 90 none mr_71 (P_71s15 σ0) 0 [(0, .ref 3), (1, .retAddr 31)] [] σ0 := by
  have hF0 : Fr [] σ0 σ0 := Fr_rfl
  refine En_Ps 1 (pc' := 1) (lv' := [(0, .ref 3), (1, .retAddr 31)]) (st' := [.ref 3]) rfl ?_
  refine En_getI (j := 1) (l := 0) (u := 4) rfl rfl rfl (by decide +kernel : TG 3 = 3) (by decide +kernel) hσ0 (by decide +kernel) (fun z2 h1 h3 h4 => ?_)
  refine En_Ps 1 (pc' := 5) (lv' := [(0, .ref 3), (1, .retAddr 31)]) (st' := [.int ((Int32.ofInt 1)), .int z2]) rfl ?_
  refine En_icNe _ rfl (by decide : (Int32.ofInt 1).toInt = 1) rfl (fun h5 => ?_) (fun h5 => ?_)
  · refine En_Ps 1 (pc' := 25) (lv' := [(0, .ref 3), (1, .retAddr 31)]) (st' := [.int ((Int32.ofInt 0))]) rfl ?_
    refine En_top (by decide : (Int32.ofInt 0).toInt = 0) (fun z6 h7 => ?_)
    exact En_ret (v := some (.int z6)) rfl rfl (retZ rfl rfl (by omega) (by omega)) ⟨hσ0, hF0, z6, rfl, (by omega)⟩
  · refine En_Ps 1 (pc' := 9) (lv' := [(0, .ref 3), (1, .retAddr 31)]) (st' := [.ref 3]) rfl ?_
    refine En_getI (j := 3) (l := 0) (u := 1600) rfl rfl rfl (by decide +kernel : TG 3 = 3) (by decide +kernel) hσ0 (by decide +kernel) (fun z9 h8 h10 h11 => ?_)
    refine En_Ps 1 (pc' := 13) (lv' := [(0, .ref 3), (1, .retAddr 31)]) (st' := [.ref 3, .int z9]) rfl ?_
    refine En_getI (j := 2) (l := 0) (u := 1600) rfl rfl rfl (by decide +kernel : TG 3 = 3) (by decide +kernel) hσ0 (by decide +kernel) (fun z13 h12 h14 h15 => ?_)
    refine En_Ps 1 (pc' := 17) (lv' := [(0, .ref 3), (1, .retAddr 31)]) (st' := [.int ((z9 - z13))]) rfl ?_
    refine En_top (subI rfl rfl (by omega) (by omega)) (fun z16 h17 => ?_)
    refine En_Ps 1 (pc' := 18) (lv' := [(0, .ref 3), (1, .retAddr 31)]) (st' := [.retAddr 31, .int z16]) rfl ?_
    refine En_slen 15 5 rfl rfl (by decide) rfl ?_
    refine En_icEq _ rfl (by decide : (Int32.ofNat 5).toInt = 5) rfl (fun h18 => ?_) (fun h18 => ?_)
    · refine En_Ps 2 (pc' := 28) (lv' := [(2, .int ((Int32.ofInt 0))), (0, .ref 3), (1, .retAddr 31)]) (st' := []) rfl ?_
      have key28 : ∀ (n28 : Nat) (σ20 : SG) (y19 : Int32), WT σ20 → Fr [] σ0 σ20 → (σ20 3)[1]? = some (.int z2) → (σ20 3)[3]? = some (.int z9) → (σ20 3)[2]? = some (.int z13) → 0 ≤ y19.toInt → y19.toInt ≤ 5 → z9.toInt - y19.toInt < (n28 : Int) → En 4 90 none mr_71 (P_71s15 σ0) 28 [(0, .ref 3), (1, .retAddr 31), (2, .int y19)] [] σ20 := by
        intro n28
        induction n28 with
        | zero =>
          intro σ20 y19 h21 h22 h23 h24 h25 h26 h27 h28
          exfalso; omega
        | succ n28 ih28 =>
          intro σ20 y19 h21 h22 h23 h24 h25 h26 h27 h28
          refine En_Ps 2 (pc' := 30) (lv' := [(0, .ref 3), (1, .retAddr 31), (2, .int y19)]) (st' := [.retAddr 31, .int y19]) rfl ?_
          refine En_slen 15 5 rfl rfl (by decide) rfl ?_
          refine En_icGe _ rfl (by decide : (Int32.ofNat 5).toInt = 5) rfl (fun h29 => ?_) (fun h29 => ?_)
          · refine En_Ps 1 (pc' := 67) (lv' := [(0, .ref 3), (1, .retAddr 31), (2, .int y19)]) (st' := [.int ((Int32.ofInt 1))]) rfl ?_
            refine En_top (by decide : (Int32.ofInt 1).toInt = 1) (fun z30 h31 => ?_)
            exact En_ret (v := some (.int z30)) rfl rfl (retZ rfl rfl (by omega) (by omega)) ⟨h21, h22, z30, rfl, (by omega)⟩
          · refine En_Ps 1 (pc' := 37) (lv' := [(0, .ref 3), (1, .retAddr 31), (2, .int y19)]) (st' := [.ref 3]) rfl ?_
            refine En_getU (j := 0) (u := 1) (g' := 1) (q := 0) rfl rfl rfl (by decide +kernel : TG 3 = 3) (by decide +kernel) h21 (by decide +kernel) (by decide +kernel) (fun h32 => ?_)
            refine En_getU (j := 0) (u := 2) (g' := 2) (q := 0) rfl rfl rfl (by decide +kernel : TG 1 = 1) (by decide +kernel) h21 (by decide +kernel) (by decide +kernel) (fun h34 => ?_)
            refine En_Ps 1 (pc' := 44) (lv' := [(0, .ref 3), (1, .retAddr 31), (2, .int y19)]) (st' := [.ref 3, .ref 2]) rfl ?_
            refine En_getK (j := 2) h25 rfl rfl rfl (by decide +kernel : TG 3 = 3) (by decide +kernel) ?_
            refine En_Ps 2 (pc' := 49) (lv' := [(0, .ref 3), (1, .retAddr 31), (2, .int y19)]) (st' := [.int ((z13 + y19)), .ref 2]) rfl ?_
            refine En_top (addI rfl rfl (by omega) (by omega)) (fun z36 h37 => ?_)
            refine En_bald (l := (-128)) (u := 127) rfl rfl (by decide +kernel : TG 2 = 2) (by decide +kernel) h21 (by omega) (lnI (by decide +kernel : LN _ = 1600) (by omega)) (FTsgl (by decide +kernel)) (fun z39 h38 h40 h41 => ?_)
            refine En_Ps 2 (pc' := 52) (lv' := [(0, .ref 3), (1, .retAddr 31), (2, .int y19)]) (st' := [.int y19, .retAddr 31, .int z39]) rfl ?_
            refine En_schar 15 5 rfl rfl rfl (by decide) (by omega) (by omega) rfl (fun z42 h43 h44 => ?_)
            refine En_icEq _ rfl rfl rfl (fun h45 => ?_) (fun h45 => ?_)
            · refine En_Ps 1 (pc' := 63) (lv' := [(2, .int ((y19 + Int32.ofInt 1))), (0, .ref 3), (1, .retAddr 31)]) (st' := []) rfl ?_
              refine En_lv1 (addI rfl (by decide : (Int32.ofInt 1).toInt = 1) (by omega) (by omega)) (fun z46 h47 => ?_)
              refine En_Ps 1 (pc' := 28) (lv' := [(2, .int z46), (0, .ref 3), (1, .retAddr 31)]) (st' := []) rfl ?_
              refine En_lv (lv := [(0, .ref 3), (1, .retAddr 31), (2, .int z46)]) ⟨rfl, rfl, rfl, trivial⟩ ?_
              exact ih28 σ20 z46 h21 h22 h23 h24 h25 (by omega) (by omega) (by omega)
            · refine En_Ps 1 (pc' := 59) (lv' := [(0, .ref 3), (1, .retAddr 31), (2, .int y19)]) (st' := [.int ((Int32.ofInt 0))]) rfl ?_
              refine En_top (by decide : (Int32.ofInt 0).toInt = 0) (fun z48 h49 => ?_)
              exact En_ret (v := some (.int z48)) rfl rfl (retZ rfl rfl (by omega) (by omega)) ⟨h21, h22, z48, rfl, (by omega)⟩
      have := (by decide : (Int32.ofInt 0).toInt = 0)
      refine En_lv (lv := [(0, .ref 3), (1, .retAddr 31), (2, .int ((Int32.ofInt 0)))]) ⟨rfl, rfl, rfl, trivial⟩ ?_
      exact key28 (Int.toNat (z9.toInt) + 1) σ0 ((Int32.ofInt 0)) hσ0 hF0 h1 h8 h12 (by omega) (by omega) (by omega)
    · refine En_Ps 1 (pc' := 25) (lv' := [(0, .ref 3), (1, .retAddr 31)]) (st' := [.int ((Int32.ofInt 0))]) rfl ?_
      refine En_top (by decide : (Int32.ofInt 0).toInt = 0) (fun z50 h51 => ?_)
      exact En_ret (v := some (.int z50)) rfl rfl (retZ rfl rfl (by omega) (by omega)) ⟨hσ0, hF0, z50, rfl, (by omega)⟩
/-- DoorSchool$Reader.stands(Ljava/lang/String;)Z -/
abbrev P_71s16 (σ0 : SG) : PO := fun v σ => WT σ ∧ Fr [] σ0 σ ∧ ∃ ret : Int32, v = some (.int ret) ∧ -ret.toInt ≤ 0 ∧ ret.toInt - 1 ≤ 0
set_option maxRecDepth 10000 in
set_option maxHeartbeats 4000000 in
theorem c_71s16 (σ0 : SG) (hσ0 : WT σ0) : En 4 90 none mr_71 (P_71s16 σ0) 0 [(0, .ref 3), (1, .retAddr 33)] [] σ0 := by
  have hF0 : Fr [] σ0 σ0 := Fr_rfl
  refine En_Ps 1 (pc' := 1) (lv' := [(0, .ref 3), (1, .retAddr 33)]) (st' := [.ref 3]) rfl ?_
  refine En_getI (j := 1) (l := 0) (u := 4) rfl rfl rfl (by decide +kernel : TG 3 = 3) (by decide +kernel) hσ0 (by decide +kernel) (fun z2 h1 h3 h4 => ?_)
  refine En_Ps 1 (pc' := 5) (lv' := [(0, .ref 3), (1, .retAddr 33)]) (st' := [.int ((Int32.ofInt 1)), .int z2]) rfl ?_
  refine En_icNe _ rfl (by decide : (Int32.ofInt 1).toInt = 1) rfl (fun h5 => ?_) (fun h5 => ?_)
  · refine En_Ps 1 (pc' := 25) (lv' := [(0, .ref 3), (1, .retAddr 33)]) (st' := [.int ((Int32.ofInt 0))]) rfl ?_
    refine En_top (by decide : (Int32.ofInt 0).toInt = 0) (fun z6 h7 => ?_)
    exact En_ret (v := some (.int z6)) rfl rfl (retZ rfl rfl (by omega) (by omega)) ⟨hσ0, hF0, z6, rfl, (by omega)⟩
  · refine En_Ps 1 (pc' := 9) (lv' := [(0, .ref 3), (1, .retAddr 33)]) (st' := [.ref 3]) rfl ?_
    refine En_getI (j := 3) (l := 0) (u := 1600) rfl rfl rfl (by decide +kernel : TG 3 = 3) (by decide +kernel) hσ0 (by decide +kernel) (fun z9 h8 h10 h11 => ?_)
    refine En_Ps 1 (pc' := 13) (lv' := [(0, .ref 3), (1, .retAddr 33)]) (st' := [.ref 3, .int z9]) rfl ?_
    refine En_getI (j := 2) (l := 0) (u := 1600) rfl rfl rfl (by decide +kernel : TG 3 = 3) (by decide +kernel) hσ0 (by decide +kernel) (fun z13 h12 h14 h15 => ?_)
    refine En_Ps 1 (pc' := 17) (lv' := [(0, .ref 3), (1, .retAddr 33)]) (st' := [.int ((z9 - z13))]) rfl ?_
    refine En_top (subI rfl rfl (by omega) (by omega)) (fun z16 h17 => ?_)
    refine En_Ps 1 (pc' := 18) (lv' := [(0, .ref 3), (1, .retAddr 33)]) (st' := [.retAddr 33, .int z16]) rfl ?_
    refine En_slen 16 8 rfl rfl (by decide) rfl ?_
    refine En_icEq _ rfl (by decide : (Int32.ofNat 8).toInt = 8) rfl (fun h18 => ?_) (fun h18 => ?_)
    · refine En_Ps 2 (pc' := 28) (lv' := [(2, .int ((Int32.ofInt 0))), (0, .ref 3), (1, .retAddr 33)]) (st' := []) rfl ?_
      have key28 : ∀ (n28 : Nat) (σ20 : SG) (y19 : Int32), WT σ20 → Fr [] σ0 σ20 → (σ20 3)[1]? = some (.int z2) → (σ20 3)[3]? = some (.int z9) → (σ20 3)[2]? = some (.int z13) → 0 ≤ y19.toInt → y19.toInt ≤ 8 → z9.toInt - y19.toInt < (n28 : Int) → En 4 90 none mr_71 (P_71s16 σ0) 28 [(0, .ref 3), (1, .retAddr 33), (2, .int y19)] [] σ20 := by
        intro n28
        induction n28 with
        | zero =>
          intro σ20 y19 h21 h22 h23 h24 h25 h26 h27 h28
          exfalso; omega
        | succ n28 ih28 =>
          intro σ20 y19 h21 h22 h23 h24 h25 h26 h27 h28
          refine En_Ps 2 (pc' := 30) (lv' := [(0, .ref 3), (1, .retAddr 33), (2, .int y19)]) (st' := [.retAddr 33, .int y19]) rfl ?_
          refine En_slen 16 8 rfl rfl (by decide) rfl ?_
          refine En_icGe _ rfl (by decide : (Int32.ofNat 8).toInt = 8) rfl (fun h29 => ?_) (fun h29 => ?_)
          · refine En_Ps 1 (pc' := 67) (lv' := [(0, .ref 3), (1, .retAddr 33), (2, .int y19)]) (st' := [.int ((Int32.ofInt 1))]) rfl ?_
            refine En_top (by decide : (Int32.ofInt 1).toInt = 1) (fun z30 h31 => ?_)
            exact En_ret (v := some (.int z30)) rfl rfl (retZ rfl rfl (by omega) (by omega)) ⟨h21, h22, z30, rfl, (by omega)⟩
          · refine En_Ps 1 (pc' := 37) (lv' := [(0, .ref 3), (1, .retAddr 33), (2, .int y19)]) (st' := [.ref 3]) rfl ?_
            refine En_getU (j := 0) (u := 1) (g' := 1) (q := 0) rfl rfl rfl (by decide +kernel : TG 3 = 3) (by decide +kernel) h21 (by decide +kernel) (by decide +kernel) (fun h32 => ?_)
            refine En_getU (j := 0) (u := 2) (g' := 2) (q := 0) rfl rfl rfl (by decide +kernel : TG 1 = 1) (by decide +kernel) h21 (by decide +kernel) (by decide +kernel) (fun h34 => ?_)
            refine En_Ps 1 (pc' := 44) (lv' := [(0, .ref 3), (1, .retAddr 33), (2, .int y19)]) (st' := [.ref 3, .ref 2]) rfl ?_
            refine En_getK (j := 2) h25 rfl rfl rfl (by decide +kernel : TG 3 = 3) (by decide +kernel) ?_
            refine En_Ps 2 (pc' := 49) (lv' := [(0, .ref 3), (1, .retAddr 33), (2, .int y19)]) (st' := [.int ((z13 + y19)), .ref 2]) rfl ?_
            refine En_top (addI rfl rfl (by omega) (by omega)) (fun z36 h37 => ?_)
            refine En_bald (l := (-128)) (u := 127) rfl rfl (by decide +kernel : TG 2 = 2) (by decide +kernel) h21 (by omega) (lnI (by decide +kernel : LN _ = 1600) (by omega)) (FTsgl (by decide +kernel)) (fun z39 h38 h40 h41 => ?_)
            refine En_Ps 2 (pc' := 52) (lv' := [(0, .ref 3), (1, .retAddr 33), (2, .int y19)]) (st' := [.int y19, .retAddr 33, .int z39]) rfl ?_
            refine En_schar 16 8 rfl rfl rfl (by decide) (by omega) (by omega) rfl (fun z42 h43 h44 => ?_)
            refine En_icEq _ rfl rfl rfl (fun h45 => ?_) (fun h45 => ?_)
            · refine En_Ps 1 (pc' := 63) (lv' := [(2, .int ((y19 + Int32.ofInt 1))), (0, .ref 3), (1, .retAddr 33)]) (st' := []) rfl ?_
              refine En_lv1 (addI rfl (by decide : (Int32.ofInt 1).toInt = 1) (by omega) (by omega)) (fun z46 h47 => ?_)
              refine En_Ps 1 (pc' := 28) (lv' := [(2, .int z46), (0, .ref 3), (1, .retAddr 33)]) (st' := []) rfl ?_
              refine En_lv (lv := [(0, .ref 3), (1, .retAddr 33), (2, .int z46)]) ⟨rfl, rfl, rfl, trivial⟩ ?_
              exact ih28 σ20 z46 h21 h22 h23 h24 h25 (by omega) (by omega) (by omega)
            · refine En_Ps 1 (pc' := 59) (lv' := [(0, .ref 3), (1, .retAddr 33), (2, .int y19)]) (st' := [.int ((Int32.ofInt 0))]) rfl ?_
              refine En_top (by decide : (Int32.ofInt 0).toInt = 0) (fun z48 h49 => ?_)
              exact En_ret (v := some (.int z48)) rfl rfl (retZ rfl rfl (by omega) (by omega)) ⟨h21, h22, z48, rfl, (by omega)⟩
      have := (by decide : (Int32.ofInt 0).toInt = 0)
      refine En_lv (lv := [(0, .ref 3), (1, .retAddr 33), (2, .int ((Int32.ofInt 0)))]) ⟨rfl, rfl, rfl, trivial⟩ ?_
      exact key28 (Int.toNat (z9.toInt) + 1) σ0 ((Int32.ofInt 0)) hσ0 hF0 h1 h8 h12 (by omega) (by omega) (by omega)
    · refine En_Ps 1 (pc' := 25) (lv' := [(0, .ref 3), (1, .retAddr 33)]) (st' := [.int ((Int32.ofInt 0))]) rfl ?_
      refine En_top (by decide : (Int32.ofInt 0).toInt = 0) (fun z50 h51 => ?_)
      exact En_ret (v := some (.int z50)) rfl rfl (retZ rfl rfl (by omega) (by omega)) ⟨hσ0, hF0, z50, rfl, (by omega)⟩
