/-- DoorSchool$Reader.stands(Ljava/lang/String;)Z -/
abbrev P_71s17 (σ0 : SG) : PO := fun v σ => WT σ ∧ Fr [] σ0 σ ∧ ∃ ret : Int32, v = some (.int ret) ∧ -ret.toInt ≤ 0 ∧ ret.toInt - 1 ≤ 0
set_option maxRecDepth 10000 in
set_option maxHeartbeats 4000000 in
theorem c_71s17 (σ0 : SG) (hσ0 : WT σ0) : En 4 90 none mr_71 (P_71s17 σ0) 0 [(0, .ref 3), (1, .retAddr 35)] [] σ0 := by
  have hF0 : Fr [] σ0 σ0 := Fr_rfl
  refine En_Ps 1 (pc' := 1) (lv' := [(0, .ref 3), (1, .retAddr 35)]) (st' := [.ref 3]) rfl ?_
  refine En_getI (j := 1) (l := 0) (u := 4) rfl rfl rfl (by decide +kernel : TG 3 = 3) (by decide +kernel) hσ0 (by decide +kernel) (fun z2 h1 h3 h4 => ?_)
  refine En_Ps 1 (pc' := 5) (lv' := [(0, .ref 3), (1, .retAddr 35)]) (st' := [.int ((Int32.ofInt 1)), .int z2]) rfl ?_
  refine En_icNe _ rfl (by decide : (Int32.ofInt 1).toInt = 1) rfl (fun h5 => ?_) (fun h5 => ?_)
  · refine En_Ps 1 (pc' := 25) (lv' := [(0, .ref 3), (1, .retAddr 35)]) (st' := [.int ((Int32.ofInt 0))]) rfl ?_
    refine En_top (by decide : (Int32.ofInt 0).toInt = 0) (fun z6 h7 => ?_)
    exact En_ret (v := some (.int z6)) rfl rfl (retZ rfl rfl (by omega) (by omega)) ⟨hσ0, hF0, z6, rfl, (by omega)⟩
  · refine En_Ps 1 (pc' := 9) (lv' := [(0, .ref 3), (1, .retAddr 35)]) (st' := [.ref 3]) rfl ?_
    refine En_getI (j := 3) (l := 0) (u := 1600) rfl rfl rfl (by decide +kernel : TG 3 = 3) (by decide +kernel) hσ0 (by decide +kernel) (fun z9 h8 h10 h11 => ?_)
    refine En_Ps 1 (pc' := 13) (lv' := [(0, .ref 3), (1, .retAddr 35)]) (st' := [.ref 3, .int z9]) rfl ?_
    refine En_getI (j := 2) (l := 0) (u := 1600) rfl rfl rfl (by decide +kernel : TG 3 = 3) (by decide +kernel) hσ0 (by decide +kernel) (fun z13 h12 h14 h15 => ?_)
    refine En_Ps 1 (pc' := 17) (lv' := [(0, .ref 3), (1, .retAddr 35)]) (st' := [.int ((z9 - z13))]) rfl ?_
    refine En_top (subI rfl rfl (by omega) (by omega)) (fun z16 h17 => ?_)
    refine En_Ps 1 (pc' := 18) (lv' := [(0, .ref 3), (1, .retAddr 35)]) (st' := [.retAddr 35, .int z16]) rfl ?_
    refine En_slen 17 4 rfl rfl (by decide) rfl ?_
    refine En_icEq _ rfl (by decide : (Int32.ofNat 4).toInt = 4) rfl (fun h18 => ?_) (fun h18 => ?_)
    · refine En_Ps 2 (pc' := 28) (lv' := [(2, .int ((Int32.ofInt 0))), (0, .ref 3), (1, .retAddr 35)]) (st' := []) rfl ?_
      have key28 : ∀ (n28 : Nat) (σ20 : SG) (y19 : Int32), WT σ20 → Fr [] σ0 σ20 → (σ20 3)[1]? = some (.int z2) → (σ20 3)[3]? = some (.int z9) → (σ20 3)[2]? = some (.int z13) → 0 ≤ y19.toInt → y19.toInt ≤ 4 → z9.toInt - y19.toInt < (n28 : Int) → En 4 90 none mr_71 (P_71s17 σ0) 28 [(0, .ref 3), (1, .retAddr 35), (2, .int y19)] [] σ20 := by
        intro n28
        induction n28 with
        | zero =>
          intro σ20 y19 h21 h22 h23 h24 h25 h26 h27 h28
          exfalso; omega
        | succ n28 ih28 =>
          intro σ20 y19 h21 h22 h23 h24 h25 h26 h27 h28
          refine En_Ps 2 (pc' := 30) (lv' := [(0, .ref 3), (1, .retAddr 35), (2, .int y19)]) (st' := [.retAddr 35, .int y19]) rfl ?_
          refine En_slen 17 4 rfl rfl (by decide) rfl ?_
          refine En_icGe _ rfl (by decide : (Int32.ofNat 4).toInt = 4) rfl (fun h29 => ?_) (fun h29 => ?_)
          · refine En_Ps 1 (pc' := 67) (lv' := [(0, .ref 3), (1, .retAddr 35), (2, .int y19)]) (st' := [.int ((Int32.ofInt 1))]) rfl ?_
            refine En_top (by decide : (Int32.ofInt 1).toInt = 1) (fun z30 h31 => ?_)
            exact En_ret (v := some (.int z30)) rfl rfl (retZ rfl rfl (by omega) (by omega)) ⟨h21, h22, z30, rfl, (by omega)⟩
          · refine En_Ps 1 (pc' := 37) (lv' := [(0, .ref 3), (1, .retAddr 35), (2, .int y19)]) (st' := [.ref 3]) rfl ?_
            refine En_getU (j := 0) (u := 1) (g' := 1) (q := 0) rfl rfl rfl (by decide +kernel : TG 3 = 3) (by decide +kernel) h21 (by decide +kernel) (by decide +kernel) (fun h32 => ?_)
            refine En_getU (j := 0) (u := 2) (g' := 2) (q := 0) rfl rfl rfl (by decide +kernel : TG 1 = 1) (by decide +kernel) h21 (by decide +kernel) (by decide +kernel) (fun h34 => ?_)
            refine En_Ps 1 (pc' := 44) (lv' := [(0, .ref 3), (1, .retAddr 35), (2, .int y19)]) (st' := [.ref 3, .ref 2]) rfl ?_
            refine En_getK (j := 2) h25 rfl rfl rfl (by decide +kernel : TG 3 = 3) (by decide +kernel) ?_
            refine En_Ps 2 (pc' := 49) (lv' := [(0, .ref 3), (1, .retAddr 35), (2, .int y19)]) (st' := [.int ((z13 + y19)), .ref 2]) rfl ?_
            refine En_top (addI rfl rfl (by omega) (by omega)) (fun z36 h37 => ?_)
            refine En_bald (l := (-128)) (u := 127) rfl rfl (by decide +kernel : TG 2 = 2) (by decide +kernel) h21 (by omega) (lnI (by decide +kernel : LN _ = 1600) (by omega)) (FTsgl (by decide +kernel)) (fun z39 h38 h40 h41 => ?_)
            refine En_Ps 2 (pc' := 52) (lv' := [(0, .ref 3), (1, .retAddr 35), (2, .int y19)]) (st' := [.int y19, .retAddr 35, .int z39]) rfl ?_
            refine En_schar 17 4 rfl rfl rfl (by decide) (by omega) (by omega) rfl (fun z42 h43 h44 => ?_)
            refine En_icEq _ rfl rfl rfl (fun h45 => ?_) (fun h45 => ?_)
            · refine En_Ps 1 (pc' := 63) (lv' := [(2, .int ((y19 + Int32.ofInt 1))), (0, .ref 3), (1, .retAddr 35)]) (st' := []) rfl ?_
              refine En_lv1 (addI rfl (by decide : (Int32.ofInt 1).toInt = 1) (by omega) (by omega)) (fun z46 h47 => ?_)
              refine En_Ps 1 (pc' := 28) (lv' := [(2, .int z46), (0, .ref 3), (1, .retAddr 35)]) (st' := []) rfl ?_
              refine En_lv (lv := [(0, .ref 3), (1, .retAddr 35), (2, .int z46)]) ⟨rfl, rfl, rfl, trivial⟩ ?_
              exact ih28 σ20 z46 h21 h22 h23 h24 h25 (by omega) (by omega) (by omega)
            · refine En_Ps 1 (pc' := 59) (lv' := [(0, .ref 3), (1, .retAddr 35), (2, .int y19)]) (st' := [.int ((Int32.ofInt 0))]) rfl ?_
              refine En_top (by decide : (Int32.ofInt 0).toInt = 0) (fun z48 h49 => ?_)
              exact En_ret (v := some (.int z48)) rfl rfl (retZ rfl rfl (by omega) (by omega)) ⟨h21, h22, z48, rfl, (by omega)⟩
      have := (by decide : (Int32.ofInt 0).toInt = 0)
      refine En_lv (lv := [(0, .ref 3), (1, .retAddr 35), (2, .int ((Int32.ofInt 0)))]) ⟨rfl, rfl, rfl, trivial⟩ ?_
      exact key28 (Int.toNat (z9.toInt) + 1) σ0 ((Int32.ofInt 0)) hσ0 hF0 h1 h8 h12 (by omega) (by omega) (by omega)
    · refine En_Ps 1 (pc' := 25) (lv' := [(0, .ref 3), (1, .retAddr 35)]) (st' := [.int ((Int32.ofInt 0))]) rfl ?_
      refine En_top (by decide : (Int32.ofInt 0).toInt = 0) (fun z50 h51 => ?_)
      exact En_ret (v := some (.int z50)) rfl rfl (retZ rfl rfl (by omega) (by omega)) ⟨hσ0, hF0, z50, rfl, (by omega)⟩
/-- DoorSchool$Reader.takeNumber(II)I -/
abbrev P_73 (σ0 : SG) (a : Int32) (b : Int32) (f : Int32) : PO := fun v σ => WT σ ∧ Fr [(3, 1), (3, 2), (3, 3), (3, 4), (3, 5), (3, 6)] σ0 σ ∧ ∃ f1 : Int32, (σ 3)[5]? = some (.int f1) ∧ ∃ ret : Int32, v = some (.int ret) ∧ ret.toInt - 1000000 ≤ 0 ∧ -f1.toInt ≤ 0 ∧ f1.toInt - 3 ≤ 0 ∧ -f1.toInt + f.toInt ≤ 0 ∧ f1.toInt - f.toInt - 3 ≤ 0 ∧ f.toInt - f1.toInt ≤ 0 ∧ (f1.toInt ≤ 0 → a.toInt - ret.toInt ≤ 0 ∧ ret.toInt - b.toInt ≤ 0) ∧ (-f1.toInt + 1 ≤ 0 → ret.toInt + 1 ≤ 0 ∧ -ret.toInt - 1 ≤ 0) ∧ (-b.toInt - 1 ≤ 0 → ret.toInt - b.toInt ≤ 0) ∧ (-a.toInt - 1 ≤ 0 → -ret.toInt - 1 ≤ 0)
set_option maxRecDepth 10000 in
set_option maxHeartbeats 4000000 in
theorem c_73 (σ0 : SG) (hσ0 : WT σ0) (a : Int32) (b : Int32) (f : Int32) (h_f : (σ0 3)[5]? = some (.int f)) : En 2 43 none mr_73 (P_73 σ0 a b f) 0 [(0, .ref 3), (1, .int a), (2, .int b)] [] σ0 := by
  obtain ⟨hl_f, hu_f⟩ := WT_int hσ0 (g := 3) (by decide +kernel) (by decide +kernel) (l := 0) (u := 3) (by decide +kernel) h_f
  have hF0 : Fr [(3, 1), (3, 2), (3, 3), (3, 4), (3, 5), (3, 6)] σ0 σ0 := Fr_rfl
  refine En_Ps 3 (pc' := 3) (lv' := [(0, .ref 3), (1, .int a), (2, .int b)]) (st' := [.int b, .int a, .ref 3]) rfl ?_
  refine En_callV rfl rfl rfl rfl rfl rfl rfl rfl (by decide +kernel : TG 3 = 3) (by decide +kernel) rfl (c_58 σ0 hσ0 a b f h_f) (by decide) (by decide) (fun v2 σ3 h1 => ?_)
  obtain ⟨h4, h5, z7, h8, z9, rfl, h6⟩ := h1
  have h10 := Fr_trans hF0 h5 (by decide +kernel)
  refine En_Ps 2 (pc' := 8) (lv' := [(3, .int z9), (0, .ref 3), (1, .int a), (2, .int b)]) (st' := [.ref 3]) rfl ?_
  refine En_getK (j := 5) h8 rfl rfl rfl (by decide +kernel : TG 3 = 3) (by decide +kernel) ?_
  refine En_iNe _ rfl rfl (fun h11 => ?_) (fun h11 => ?_)
  · refine En_Ps 1 (pc' := 19) (lv' := [(3, .int z9), (0, .ref 3), (1, .int a), (2, .int b)]) (st' := [.int z9]) rfl ?_
    exact En_ret (v := some (.int z9)) rfl rfl rfl ⟨h4, h10, z7, h8, z9, rfl, (by omega)⟩
  · refine En_Ps 1 (pc' := 15) (lv' := [(3, .int z9), (0, .ref 3), (1, .int a), (2, .int b)]) (st' := [.ref 3]) rfl ?_
    refine En_callV rfl rfl rfl rfl rfl rfl rfl rfl (by decide +kernel : TG 3 = 3) (by decide +kernel) rfl (c_72 σ3 h4) (by decide) (by decide) (fun v13 σ14 h12 => ?_)
    obtain ⟨h15, h16, rfl, h17⟩ := h12
    have h18 := Fr_trans h10 h16 (by decide +kernel)
    refine En_Ps 1 (pc' := 19) (lv' := [(3, .int z9), (0, .ref 3), (1, .int a), (2, .int b)]) (st' := [.int z9]) rfl ?_
    exact En_ret (v := some (.int z9)) rfl rfl rfl ⟨h15, h18, z7, ((h16 _ _ (inW (by decide +kernel : TG 3 = 3) (by decide +kernel))).trans h8), z9, rfl, (by omega)⟩
/-- DoorSchool$Reader.readFirst(LDoorSchool$Plan;)V -/
abbrev P_65 (σ0 : SG) (a : Nat) (f : Int32) : PO := fun v σ => WT σ ∧ Fr [(3, 1), (3, 2), (3, 3), (3, 4), (3, 5), (3, 6), (18, 1), (18, 2)] σ0 σ ∧ ∃ f1 : Int32, (σ 3)[5]? = some (.int f1) ∧ ∃ sg1 : Int32, (σ a)[1]? = some (.int sg1) ∧ v = none ∧ -f1.toInt ≤ 0 ∧ f1.toInt - 3 ≤ 0 ∧ -f1.toInt + f.toInt ≤ 0 ∧ f1.toInt - f.toInt - 3 ≤ 0 ∧ -sg1.toInt - 1 ≤ 0 ∧ sg1.toInt - 4 ≤ 0 ∧ -sg1.toInt + f.toInt - 4 ≤ 0 ∧ sg1.toInt - f.toInt - 4 ≤ 0 ∧ f.toInt - f1.toInt ≤ 0 ∧ -sg1.toInt - f1.toInt ≤ 0
set_option maxRecDepth 10000 in
set_option maxHeartbeats 4000000 in
theorem c_65 (σ0 : SG) (hσ0 : WT σ0) (a : Nat) (ha : TG a = 18) (f : Int32) (h_f : (σ0 3)[5]? = some (.int f)) : En 5 112 none mr_65 (P_65 σ0 a f) 0 [(0, .ref 3), (1, .ref a)] [] σ0 := by
  obtain ⟨hl_f, hu_f⟩ := WT_int hσ0 (g := 3) (by decide +kernel) (by decide +kernel) (l := 0) (u := 3) (by decide +kernel) h_f
  have hF0 : Fr [(3, 1), (3, 2), (3, 3), (3, 4), (3, 5), (3, 6), (18, 1), (18, 2)] σ0 σ0 := Fr_rfl
  refine En_Ps 2 (pc' := 2) (lv' := [(0, .ref 3), (1, .ref a)]) (st' := [.ref 3, .ref 3]) rfl ?_
  refine En_ldcS (i := 10) rfl rfl rfl ?_
  refine En_callV rfl rfl rfl rfl rfl rfl rfl rfl (by decide +kernel : TG 3 = 3) (by decide +kernel) rfl (c_71s10 σ0 hσ0) (by decide) (by decide) (fun v2 σ3 h1 => ?_)
  obtain ⟨h4, h5, z7, rfl, h6⟩ := h1
  have h8 := Fr_trans hF0 h5 (by decide +kernel)
  refine En_callV rfl rfl rfl rfl rfl rfl rfl rfl (by decide +kernel : TG 3 = 3) (by decide +kernel) rfl (c_59 σ3 h4 z7 (geI rfl (by omega)) (leI rfl (by omega)) f ((h5 _ _ (inW (by decide +kernel : TG 3 = 3) (by decide +kernel))).trans h_f)) (by decide) (by decide) (fun v10 σ11 h9 => ?_)
  obtain ⟨h12, h13, z15, h16, rfl, h14⟩ := h9
  have h17 := Fr_trans h8 h13 (by decide +kernel)
  refine En_Ps 2 (pc' := 12) (lv' := [(0, .ref 3), (1, .ref a)]) (st' := [.ref 3, .ref 3]) rfl ?_
  refine En_ldcS (i := 13) rfl rfl rfl ?_
  refine En_callV rfl rfl rfl rfl rfl rfl rfl rfl (by decide +kernel : TG 3 = 3) (by decide +kernel) rfl (c_71s13 σ11 h12) (by decide) (by decide) (fun v19 σ20 h18 => ?_)
  obtain ⟨h21, h22, z24, rfl, h23⟩ := h18
  have h25 := Fr_trans h17 h22 (by decide +kernel)
  refine En_callV rfl rfl rfl rfl rfl rfl rfl rfl (by decide +kernel : TG 3 = 3) (by decide +kernel) rfl (c_59 σ20 h21 z24 (geI rfl (by omega)) (leI rfl (by omega)) z15 ((h22 _ _ (inW (by decide +kernel : TG 3 = 3) (by decide +kernel))).trans h16)) (by decide) (by decide) (fun v27 σ28 h26 => ?_)
  obtain ⟨h29, h30, z32, h33, rfl, h31⟩ := h26
  have h34 := Fr_trans h25 h30 (by decide +kernel)
  refine En_Ps 4 (pc' := 24) (lv' := [(0, .ref 3), (1, .ref a)]) (st' := [.int ((Int32.ofInt 4)), .int ((Int32.ofInt 2)), .ref 3, .ref a]) rfl ?_
  have := (by decide : ((Int32.ofInt 2)).toInt = 2)
  have := (by decide : ((Int32.ofInt 4)).toInt = 4)
  refine En_callV rfl rfl rfl rfl rfl rfl rfl rfl (by decide +kernel : TG 3 = 3) (by decide +kernel) rfl (c_73 σ28 h29 ((Int32.ofInt 2)) ((Int32.ofInt 4)) z32 h33) (by decide) (by decide) (fun v36 σ37 h35 => ?_)
  obtain ⟨h38, h39, z41, h42, z43, rfl, h40⟩ := h35
  have h44 := Fr_trans h34 h39 (by decide +kernel)
  refine En_put (j := 1) rfl rfl rfl ha (by decide +kernel) rfl (vI (l := (-1)) (u := 4) (by decide +kernel) rfl (by omega) (by omega)) h38 h44 (by decide +kernel) (fun σ45 h46 h47 h48 h49 => ?_)
  refine En_Ps 2 (pc' := 32) (lv' := [(0, .ref 3), (1, .ref a)]) (st' := [.ref 3, .ref 3]) rfl ?_
  refine En_ldcS (i := 16) rfl rfl rfl ?_
  refine En_callV rfl rfl rfl rfl rfl rfl rfl rfl (by decide +kernel : TG 3 = 3) (by decide +kernel) rfl (c_71s16 σ45 h46) (by decide) (by decide) (fun v51 σ52 h50 => ?_)
  obtain ⟨h53, h54, z56, rfl, h55⟩ := h50
  have h57 := Fr_trans h47 h54 (by decide +kernel)
  refine En_callV rfl rfl rfl rfl rfl rfl rfl rfl (by decide +kernel : TG 3 = 3) (by decide +kernel) rfl (c_59 σ52 h53 z56 (geI rfl (by omega)) (leI rfl (by omega)) z41 ((h54 _ _ (inW (by decide +kernel : TG 3 = 3) (by decide +kernel))).trans ((h49 _ _ (Or.inr (by decide))).trans h42))) (by decide) (by decide) (fun v59 σ60 h58 => ?_)
  obtain ⟨h61, h62, z64, h65, rfl, h63⟩ := h58
  have h66 := Fr_trans h57 h62 (by decide +kernel)
  refine En_Ps 4 (pc' := 44) (lv' := [(0, .ref 3), (1, .ref a)]) (st' := [.int ((Int32.ofInt 3)), .int ((Int32.ofInt 1)), .ref 3, .ref a]) rfl ?_
  have := (by decide : ((Int32.ofInt 1)).toInt = 1)
  have := (by decide : ((Int32.ofInt 3)).toInt = 3)
  refine En_callV rfl rfl rfl rfl rfl rfl rfl rfl (by decide +kernel : TG 3 = 3) (by decide +kernel) rfl (c_73 σ60 h61 ((Int32.ofInt 1)) ((Int32.ofInt 3)) z64 h65) (by decide) (by decide) (fun v68 σ69 h67 => ?_)
  obtain ⟨h70, h71, z73, h74, z75, rfl, h72⟩ := h67
  have h76 := Fr_trans h66 h71 (by decide +kernel)
  refine En_put (j := 2) rfl rfl rfl ha (by decide +kernel) rfl (vI (l := (-1)) (u := 3) (by decide +kernel) rfl (by omega) (by omega)) h70 h76 (by decide +kernel) (fun σ77 h78 h79 h80 h81 => ?_)
  exact En_ret (v := none) rfl rfl rfl ⟨h78, h79, z73, ((h81 _ _ (Or.inr (by decide))).trans h74), z43, ((h81 _ _ (Or.inr (by decide))).trans ((h71 _ _ (inW ha (by decide +kernel))).trans ((h62 _ _ (inW ha (by decide +kernel))).trans ((h54 _ _ (inW ha (by decide +kernel))).trans h48)))), rfl, (by omega)⟩
/-- DoorSchool$Reader.takeWay()I -/
abbrev P_75 (σ0 : SG) (f : Int32) : PO := fun v σ => WT σ ∧ Fr [(3, 1), (3, 2), (3, 3), (3, 4), (3, 5), (3, 6)] σ0 σ ∧ ∃ f1 : Int32, (σ 3)[5]? = some (.int f1) ∧ ∃ ret : Int32, v = some (.int ret) ∧ -ret.toInt - 1 ≤ 0 ∧ ret.toInt - 2 ≤ 0 ∧ -f1.toInt ≤ 0 ∧ f1.toInt - 3 ≤ 0 ∧ -f1.toInt + f.toInt ≤ 0 ∧ f1.toInt - f.toInt - 3 ≤ 0 ∧ f.toInt - f1.toInt ≤ 0 ∧ (f1.toInt ≤ 0 → -ret.toInt ≤ 0)
set_option maxRecDepth 10000 in
set_option maxHeartbeats 4000000 in
theorem c_75 (σ0 : SG) (hσ0 : WT σ0) (f : Int32) (h_f : (σ0 3)[5]? = some (.int f)) : En 5 112 none mr_75 (P_75 σ0 f) 0 [(0, .ref 3)] [] σ0 := by
  obtain ⟨hl_f, hu_f⟩ := WT_int hσ0 (g := 3) (by decide +kernel) (by decide +kernel) (l := 0) (u := 3) (by decide +kernel) h_f
  have hF0 : Fr [(3, 1), (3, 2), (3, 3), (3, 4), (3, 5), (3, 6)] σ0 σ0 := Fr_rfl
  refine En_Ps 3 (pc' := 3) (lv' := [(1, .int ((Int32.ofInt (-1)))), (0, .ref 3)]) (st' := [.ref 3]) rfl ?_
  refine En_ldcS (i := 4) rfl rfl rfl ?_
  refine En_callV rfl rfl rfl rfl rfl rfl rfl rfl (by decide +kernel : TG 3 = 3) (by decide +kernel) rfl (c_71s4 σ0 hσ0) (by decide) (by decide) (fun v2 σ3 h1 => ?_)
  obtain ⟨h4, h5, z7, rfl, h6⟩ := h1
  have h8 := Fr_trans hF0 h5 (by decide +kernel)
  refine En_iEq _ rfl rfl (fun h9 => ?_) (fun h9 => ?_)
  · refine En_Ps 1 (pc' := 17) (lv' := [(1, .int ((Int32.ofInt (-1)))), (0, .ref 3)]) (st' := [.ref 3]) rfl ?_
    refine En_ldcS (i := 11) rfl rfl rfl ?_
    refine En_callV rfl rfl rfl rfl rfl rfl rfl rfl (by decide +kernel : TG 3 = 3) (by decide +kernel) rfl (c_71s11 σ3 h4) (by decide) (by decide) (fun v11 σ12 h10 => ?_)
    obtain ⟨h13, h14, z16, rfl, h15⟩ := h10
    have h17 := Fr_trans h8 h14 (by decide +kernel)
    refine En_iEq _ rfl rfl (fun h18 => ?_) (fun h18 => ?_)
    · refine En_Ps 1 (pc' := 31) (lv' := [(1, .int ((Int32.ofInt (-1)))), (0, .ref 3)]) (st' := [.ref 3]) rfl ?_
      refine En_ldcS (i := 7) rfl rfl rfl ?_
      refine En_callV rfl rfl rfl rfl rfl rfl rfl rfl (by decide +kernel : TG 3 = 3) (by decide +kernel) rfl (c_71s7 σ12 h13) (by decide) (by decide) (fun v20 σ21 h19 => ?_)
      obtain ⟨h22, h23, z25, rfl, h24⟩ := h19
      have h26 := Fr_trans h17 h23 (by decide +kernel)
      refine En_iEq _ rfl rfl (fun h27 => ?_) (fun h27 => ?_)
      · refine En_Ps 3 (pc' := 44) (lv' := [(1, .int ((Int32.ofInt (-1)))), (0, .ref 3)]) (st' := [.int ((Int32.ofInt (-1))), .int ((Int32.ofInt (-1))), .ref 3]) rfl ?_
        refine En_icEq _ (by decide : (Int32.ofInt (-1)).toInt = -1) (by decide : (Int32.ofInt (-1)).toInt = -1) rfl (fun h28 => ?_) (fun hx => by exfalso; omega)
        refine En_Ps 1 (pc' := 52) (lv' := [(1, .int ((Int32.ofInt (-1)))), (0, .ref 3)]) (st' := [.int ((Int32.ofInt 0)), .ref 3]) rfl ?_
        have := (by decide : ((Int32.ofInt 0)).toInt = 0)
        refine En_callV rfl rfl rfl rfl rfl rfl rfl rfl (by decide +kernel : TG 3 = 3) (by decide +kernel) rfl (c_59 σ21 h22 ((Int32.ofInt 0)) (geI (by decide : (Int32.ofInt 0).toInt = 0) (by omega)) (leI (by decide : (Int32.ofInt 0).toInt = 0) (by omega)) f ((h23 _ _ (inW (by decide +kernel : TG 3 = 3) (by decide +kernel))).trans ((h14 _ _ (inW (by decide +kernel : TG 3 = 3) (by decide +kernel))).trans ((h5 _ _ (inW (by decide +kernel : TG 3 = 3) (by decide +kernel))).trans h_f)))) (by decide) (by decide) (fun v30 σ31 h29 => ?_)
        obtain ⟨h32, h33, z35, h36, rfl, h34⟩ := h29
        have h37 := Fr_trans h26 h33 (by decide +kernel)
        refine En_Ps 1 (pc' := 56) (lv' := [(1, .int ((Int32.ofInt (-1)))), (0, .ref 3)]) (st' := [.int ((Int32.ofInt (-1)))]) rfl ?_
        refine En_top (by decide : (Int32.ofInt (-1)).toInt = -1) (fun z38 h39 => ?_)
        exact En_ret (v := some (.int z38)) rfl rfl rfl ⟨h32, h37, z35, h36, z38, rfl, (by omega)⟩
      · refine En_Ps 5 (pc' := 44) (lv' := [(1, .int ((Int32.ofInt 2))), (0, .ref 3)]) (st' := [.int ((Int32.ofInt (-1))), .int ((Int32.ofInt 2)), .ref 3]) rfl ?_
        refine En_icEq _ (by decide : (Int32.ofInt 2).toInt = 2) (by decide : (Int32.ofInt (-1)).toInt = -1) rfl (fun hx => by exfalso; omega) (fun h40 => ?_)
        refine En_Ps 2 (pc' := 52) (lv' := [(1, .int ((Int32.ofInt 2))), (0, .ref 3)]) (st' := [.int ((Int32.ofInt 1)), .ref 3]) rfl ?_
        have := (by decide : ((Int32.ofInt 1)).toInt = 1)
        refine En_callV rfl rfl rfl rfl rfl rfl rfl rfl (by decide +kernel : TG 3 = 3) (by decide +kernel) rfl (c_59 σ21 h22 ((Int32.ofInt 1)) (geI (by decide : (Int32.ofInt 1).toInt = 1) (by omega)) (leI (by decide : (Int32.ofInt 1).toInt = 1) (by omega)) f ((h23 _ _ (inW (by decide +kernel : TG 3 = 3) (by decide +kernel))).trans ((h14 _ _ (inW (by decide +kernel : TG 3 = 3) (by decide +kernel))).trans ((h5 _ _ (inW (by decide +kernel : TG 3 = 3) (by decide +kernel))).trans h_f)))) (by decide) (by decide) (fun v42 σ43 h41 => ?_)
        obtain ⟨h44, h45, z47, h48, rfl, h46⟩ := h41
        have h49 := Fr_trans h26 h45 (by decide +kernel)
        refine En_Ps 1 (pc' := 56) (lv' := [(1, .int ((Int32.ofInt 2))), (0, .ref 3)]) (st' := [.int ((Int32.ofInt 2))]) rfl ?_
        refine En_top (by decide : (Int32.ofInt 2).toInt = 2) (fun z50 h51 => ?_)
        exact En_ret (v := some (.int z50)) rfl rfl rfl ⟨h44, h49, z47, h48, z50, rfl, (by omega)⟩
    · refine En_Ps 6 (pc' := 44) (lv' := [(1, .int ((Int32.ofInt 1))), (0, .ref 3)]) (st' := [.int ((Int32.ofInt (-1))), .int ((Int32.ofInt 1)), .ref 3]) rfl ?_
      refine En_icEq _ (by decide : (Int32.ofInt 1).toInt = 1) (by decide : (Int32.ofInt (-1)).toInt = -1) rfl (fun hx => by exfalso; omega) (fun h52 => ?_)
      refine En_Ps 2 (pc' := 52) (lv' := [(1, .int ((Int32.ofInt 1))), (0, .ref 3)]) (st' := [.int ((Int32.ofInt 1)), .ref 3]) rfl ?_
      have := (by decide : ((Int32.ofInt 1)).toInt = 1)
      refine En_callV rfl rfl rfl rfl rfl rfl rfl rfl (by decide +kernel : TG 3 = 3) (by decide +kernel) rfl (c_59 σ12 h13 ((Int32.ofInt 1)) (geI (by decide : (Int32.ofInt 1).toInt = 1) (by omega)) (leI (by decide : (Int32.ofInt 1).toInt = 1) (by omega)) f ((h14 _ _ (inW (by decide +kernel : TG 3 = 3) (by decide +kernel))).trans ((h5 _ _ (inW (by decide +kernel : TG 3 = 3) (by decide +kernel))).trans h_f))) (by decide) (by decide) (fun v54 σ55 h53 => ?_)
      obtain ⟨h56, h57, z59, h60, rfl, h58⟩ := h53
      have h61 := Fr_trans h17 h57 (by decide +kernel)
      refine En_Ps 1 (pc' := 56) (lv' := [(1, .int ((Int32.ofInt 1))), (0, .ref 3)]) (st' := [.int ((Int32.ofInt 1))]) rfl ?_
      refine En_top (by decide : (Int32.ofInt 1).toInt = 1) (fun z62 h63 => ?_)
      exact En_ret (v := some (.int z62)) rfl rfl rfl ⟨h56, h61, z59, h60, z62, rfl, (by omega)⟩
  · refine En_Ps 6 (pc' := 44) (lv' := [(1, .int ((Int32.ofInt 0))), (0, .ref 3)]) (st' := [.int ((Int32.ofInt (-1))), .int ((Int32.ofInt 0)), .ref 3]) rfl ?_
    refine En_icEq _ (by decide : (Int32.ofInt 0).toInt = 0) (by decide : (Int32.ofInt (-1)).toInt = -1) rfl (fun hx => by exfalso; omega) (fun h64 => ?_)
    refine En_Ps 2 (pc' := 52) (lv' := [(1, .int ((Int32.ofInt 0))), (0, .ref 3)]) (st' := [.int ((Int32.ofInt 1)), .ref 3]) rfl ?_
    have := (by decide : ((Int32.ofInt 1)).toInt = 1)
    refine En_callV rfl rfl rfl rfl rfl rfl rfl rfl (by decide +kernel : TG 3 = 3) (by decide +kernel) rfl (c_59 σ3 h4 ((Int32.ofInt 1)) (geI (by decide : (Int32.ofInt 1).toInt = 1) (by omega)) (leI (by decide : (Int32.ofInt 1).toInt = 1) (by omega)) f ((h5 _ _ (inW (by decide +kernel : TG 3 = 3) (by decide +kernel))).trans h_f)) (by decide) (by decide) (fun v66 σ67 h65 => ?_)
    obtain ⟨h68, h69, z71, h72, rfl, h70⟩ := h65
    have h73 := Fr_trans h8 h69 (by decide +kernel)
    refine En_Ps 1 (pc' := 56) (lv' := [(1, .int ((Int32.ofInt 0))), (0, .ref 3)]) (st' := [.int ((Int32.ofInt 0))]) rfl ?_
    refine En_top (by decide : (Int32.ofInt 0).toInt = 0) (fun z74 h75 => ?_)
    exact En_ret (v := some (.int z74)) rfl rfl rfl ⟨h68, h73, z71, h72, z74, rfl, (by omega)⟩
/-- DoorSchool$Reader.readDoor(LDoorSchool$Plan;)V -/
abbrev P_63 (σ0 : SG) (a : Nat) (f : Int32) (sg : Int32) : PO := fun v σ => WT σ ∧ Fr [(3, 1), (3, 2), (3, 3), (3, 4), (3, 5), (3, 6), (18, 3), (20, 2), (28, 1), (28, 2), (28, 3)] σ0 σ ∧ ∃ f1 : Int32, (σ 3)[5]? = some (.int f1) ∧ v = none ∧ -f1.toInt ≤ 0 ∧ f1.toInt - 3 ≤ 0 ∧ -f1.toInt + f.toInt ≤ 0 ∧ f1.toInt - f.toInt - 3 ≤ 0 ∧ -f1.toInt + sg.toInt - 4 ≤ 0 ∧ f1.toInt - sg.toInt - 3 ≤ 0 ∧ f.toInt - f1.toInt ≤ 0
set_option maxRecDepth 10000 in
set_option maxHeartbeats 4000000 in
theorem c_63 (σ0 : SG) (hσ0 : WT σ0) (a : Nat) (ha : TG a = 18) (f : Int32) (h_f : (σ0 3)[5]? = some (.int f)) (sg : Int32) (h_sg : (σ0 a)[1]? = some (.int sg)) (hp0 : -sg.toInt ≤ 0) : En 6 133 none mr_63 (P_63 σ0 a f sg) 0 [(0, .ref 3), (1, .ref a)] [] σ0 := by
  obtain ⟨hl_f, hu_f⟩ := WT_int hσ0 (g := 3) (by decide +kernel) (by decide +kernel) (l := 0) (u := 3) (by decide +kernel) h_f
  obtain ⟨hl_sg, hu_sg⟩ := WT_int hσ0 (g := 18) ha (by decide +kernel) (l := (-1)) (u := 4) (by decide +kernel) h_sg
  have hF0 : Fr [(3, 1), (3, 2), (3, 3), (3, 4), (3, 5), (3, 6), (18, 3), (20, 2), (28, 1), (28, 2), (28, 3)] σ0 σ0 := Fr_rfl
  refine En_Ps 1 (pc' := 1) (lv' := [(0, .ref 3), (1, .ref a)]) (st' := [.ref a]) rfl ?_
  refine En_getI (j := 3) (l := 0) (u := 4) rfl rfl rfl ha (by decide +kernel) hσ0 (by decide +kernel) (fun z2 h1 h3 h4 => ?_)
  refine En_Ps 1 (pc' := 5) (lv' := [(0, .ref 3), (1, .ref a)]) (st' := [.int ((Int32.ofInt 4)), .int z2]) rfl ?_
  refine En_icLt _ rfl (by decide : (Int32.ofInt 4).toInt = 4) rfl (fun h5 => ?_) (fun h5 => ?_)
  · refine En_Ps 1 (pc' := 15) (lv' := [(0, .ref 3), (1, .ref a)]) (st' := [.ref 3]) rfl ?_
    refine En_callV rfl rfl rfl rfl rfl rfl rfl rfl (by decide +kernel : TG 3 = 3) (by decide +kernel) rfl (c_72 σ0 hσ0) (by decide) (by decide) (fun v7 σ8 h6 => ?_)
    obtain ⟨h9, h10, rfl, h11⟩ := h6
    have h12 := Fr_trans hF0 h10 (by decide +kernel)
    refine En_Ps 1 (pc' := 19) (lv' := [(0, .ref 3), (1, .ref a)]) (st' := [.ref 3]) rfl ?_
    refine En_callV rfl rfl rfl rfl rfl rfl rfl rfl (by decide +kernel : TG 3 = 3) (by decide +kernel) rfl (c_75 σ8 h9 f ((h10 _ _ (inW (by decide +kernel : TG 3 = 3) (by decide +kernel))).trans h_f)) (by decide) (by decide) (fun v14 σ15 h13 => ?_)
    obtain ⟨h16, h17, z19, h20, z21, rfl, h18⟩ := h13
    have h22 := Fr_trans h12 h17 (by decide +kernel)
    refine En_Ps 3 (pc' := 25) (lv' := [(2, .int z21), (0, .ref 3), (1, .ref a)]) (st' := [.ref 3, .ref 3]) rfl ?_
    refine En_ldcS (i := 14) rfl rfl rfl ?_
    refine En_callV rfl rfl rfl rfl rfl rfl rfl rfl (by decide +kernel : TG 3 = 3) (by decide +kernel) rfl (c_71s14 σ15 h16) (by decide) (by decide) (fun v24 σ25 h23 => ?_)
    obtain ⟨h26, h27, z29, rfl, h28⟩ := h23
    have h30 := Fr_trans h22 h27 (by decide +kernel)
    refine En_callV rfl rfl rfl rfl rfl rfl rfl rfl (by decide +kernel : TG 3 = 3) (by decide +kernel) rfl (c_59 σ25 h26 z29 (geI rfl (by omega)) (leI rfl (by omega)) z19 ((h27 _ _ (inW (by decide +kernel : TG 3 = 3) (by decide +kernel))).trans h20)) (by decide) (by decide) (fun v32 σ33 h31 => ?_)
    obtain ⟨h34, h35, z37, h38, rfl, h36⟩ := h31
    have h39 := Fr_trans h30 h35 (by decide +kernel)
    refine En_Ps 3 (pc' := 37) (lv' := [(2, .int z21), (0, .ref 3), (1, .ref a)]) (st' := [.int (((Int8.ofInt 50).toInt32)), .int ((Int32.ofInt 0)), .ref 3]) rfl ?_
    have := (by decide : ((Int32.ofInt 0)).toInt = 0)
    have := (by decide : (((Int8.ofInt 50).toInt32)).toInt = 50)
    refine En_callV rfl rfl rfl rfl rfl rfl rfl rfl (by decide +kernel : TG 3 = 3) (by decide +kernel) rfl (c_73 σ33 h34 ((Int32.ofInt 0)) (((Int8.ofInt 50).toInt32)) z37 h38) (by decide) (by decide) (fun v41 σ42 h40 => ?_)
    obtain ⟨h43, h44, z46, h47, z48, rfl, h45⟩ := h40
    have h49 := Fr_trans h39 h44 (by decide +kernel)
    refine En_Ps 2 (pc' := 42) (lv' := [(3, .int z48), (2, .int z21), (0, .ref 3), (1, .ref a)]) (st' := [.ref 3]) rfl ?_
    refine En_getK (j := 5) h47 rfl rfl rfl (by decide +kernel : TG 3 = 3) (by decide +kernel) ?_
    refine En_iNe _ rfl rfl (fun h50 => ?_) (fun h50 => ?_)
    · exact En_ret (v := none) rfl rfl rfl ⟨h43, h49, z46, h47, rfl, (by omega)⟩
    · refine En_Ps 1 (pc' := 49) (lv' := [(3, .int z48), (2, .int z21), (0, .ref 3), (1, .ref a)]) (st' := [.ref a]) rfl ?_
      refine En_getR (j := 4) (g' := 19) (u := 0) rfl rfl rfl ha (by decide +kernel) h43 (by decide +kernel) (fun a52 h51 ha52 => ?_)
      refine En_Ps 1 (pc' := 53) (lv' := [(3, .int z48), (2, .int z21), (0, .ref 3), (1, .ref a)]) (st' := [.ref a, .ref a52]) rfl ?_
      refine En_getK (j := 3) ((h44 _ _ (inW ha (by decide +kernel))).trans ((h35 _ _ (inW ha (by decide +kernel))).trans ((h27 _ _ (inW ha (by decide +kernel))).trans ((h17 _ _ (inW ha (by decide +kernel))).trans ((h10 _ _ (inW ha (by decide +kernel))).trans h1))))) rfl rfl rfl ha (by decide +kernel) ?_
      refine En_aald (g' := 28) (u := 0) rfl rfl ha52 (by decide +kernel) h43 (by omega) (lnI (by decide +kernel : LN _ = 4) (by omega)) (FTsgl (by decide +kernel)) (fun a54 h53 ha54 => ?_)
      refine En_Ps 2 (pc' := 59) (lv' := [(3, .int z48), (2, .int z21), (0, .ref 3), (1, .ref a)]) (st' := [.int z48, .int z21, .ref a54]) rfl ?_
      refine En_callV rfl rfl rfl rfl rfl rfl rfl rfl ha54 (by decide +kernel) rfl (c_12 σ42 h43 a54 ha54 z21 z48 (geI rfl (by omega)) (leI rfl (by omega)) (geI rfl (by omega)) (leI rfl (by omega))) (by decide) (by decide) (fun v56 σ57 h55 => ?_)
      obtain ⟨h58, h59, rfl, h60⟩ := h55
      have h61 := Fr_trans h49 h59 (by decide +kernel)
      refine En_Ps 2 (pc' := 64) (lv' := [(3, .int z48), (2, .int z21), (0, .ref 3), (1, .ref a)]) (st' := [.ref a, .ref a]) rfl ?_
      refine En_getK (j := 3) ((h59 _ _ (inW ha (by decide +kernel))).trans ((h44 _ _ (inW ha (by decide +kernel))).trans ((h35 _ _ (inW ha (by decide +kernel))).trans ((h27 _ _ (inW ha (by decide +kernel))).trans ((h17 _ _ (inW ha (by decide +kernel))).trans ((h10 _ _ (inW ha (by decide +kernel))).trans h1)))))) rfl rfl rfl ha (by decide +kernel) ?_
      refine En_Ps 2 (pc' := 69) (lv' := [(3, .int z48), (2, .int z21), (0, .ref 3), (1, .ref a)]) (st' := [.int ((z2 + ((Int32.ofInt 1)))), .ref a]) rfl ?_
      refine En_top (addI rfl (by decide : (Int32.ofInt 1).toInt = 1) (by omega) (by omega)) (fun z62 h63 => ?_)
      refine En_put (j := 3) rfl rfl rfl ha (by decide +kernel) rfl (vI (l := 0) (u := 4) (by decide +kernel) rfl (by omega) (by omega)) h58 h61 (by decide +kernel) (fun σ64 h65 h66 h67 h68 => ?_)
      exact En_ret (v := none) rfl rfl rfl ⟨h65, h66, z46, ((h68 _ _ (Or.inr (by decide))).trans ((h59 _ _ (inW (by decide +kernel : TG 3 = 3) (by decide +kernel))).trans h47)), rfl, (by omega)⟩
  · refine En_Ps 2 (pc' := 10) (lv' := [(0, .ref 3), (1, .ref a)]) (st' := [.int ((Int32.ofInt 3)), .ref 3]) rfl ?_
    have := (by decide : ((Int32.ofInt 3)).toInt = 3)
    refine En_callV rfl rfl rfl rfl rfl rfl rfl rfl (by decide +kernel : TG 3 = 3) (by decide +kernel) rfl (c_54 σ0 hσ0 ((Int32.ofInt 3)) (geI (by decide : (Int32.ofInt 3).toInt = 3) (by omega)) (leI (by decide : (Int32.ofInt 3).toInt = 3) (by omega)) f h_f) (by decide) (by decide) (fun v70 σ71 h69 => ?_)
    obtain ⟨h72, h73, z75, h76, rfl, h74⟩ := h69
    have h77 := Fr_trans hF0 h73 (by decide +kernel)
    exact En_ret (v := none) rfl rfl rfl ⟨h72, h77, z75, h76, rfl, (by omega)⟩
/-- DoorSchool$Reader.readSaid(LDoorSchool$Plan;LDoorSchool$Lessons;)V -/
abbrev P_69 (σ0 : SG) (a : Nat) (b : Nat) (f : Int32) (sg : Int32) : PO := fun v σ => WT σ ∧ Fr [(3, 1), (3, 2), (3, 3), (3, 4), (3, 5), (3, 6), (20, 2), (21, 0), (22, 0)] σ0 σ ∧ ∃ f1 : Int32, (σ 3)[5]? = some (.int f1) ∧ v = none ∧ -f1.toInt ≤ 0 ∧ f1.toInt - 3 ≤ 0 ∧ -f1.toInt + f.toInt ≤ 0 ∧ f1.toInt - f.toInt - 3 ≤ 0 ∧ -f1.toInt + sg.toInt - 4 ≤ 0 ∧ f1.toInt - sg.toInt - 3 ≤ 0 ∧ f.toInt - f1.toInt ≤ 0
set_option maxRecDepth 10000 in
set_option maxHeartbeats 4000000 in
theorem c_69 (σ0 : SG) (hσ0 : WT σ0) (a : Nat) (ha : TG a = 18) (b : Nat) (hb : TG b = 20) (f : Int32) (h_f : (σ0 3)[5]? = some (.int f)) (sg : Int32) (h_sg : (σ0 a)[1]? = some (.int sg)) (hp0 : -sg.toInt ≤ 0) : En 5 112 none mr_69 (P_69 σ0 a b f sg) 0 [(0, .ref 3), (1, .ref a), (2, .ref b)] [] σ0 := by
  obtain ⟨hl_f, hu_f⟩ := WT_int hσ0 (g := 3) (by decide +kernel) (by decide +kernel) (l := 0) (u := 3) (by decide +kernel) h_f
  obtain ⟨hl_sg, hu_sg⟩ := WT_int hσ0 (g := 18) ha (by decide +kernel) (l := (-1)) (u := 4) (by decide +kernel) h_sg
  have hF0 : Fr [(3, 1), (3, 2), (3, 3), (3, 4), (3, 5), (3, 6), (20, 2), (21, 0), (22, 0)] σ0 σ0 := Fr_rfl
  refine En_Ps 3 (pc' := 3) (lv' := [(0, .ref 3), (1, .ref a), (2, .ref b)]) (st' := [.ref a, .int ((Int32.ofInt 0)), .ref 3]) rfl ?_
  refine En_callV rfl rfl rfl rfl rfl rfl rfl rfl ha (by decide +kernel) rfl (c_51 σ0 hσ0 a ha sg h_sg (by omega)) (by decide) (by decide) (fun v2 σ3 h1 => ?_)
  obtain ⟨h4, h5, z7, rfl, h6⟩ := h1
  have h8 := Fr_trans hF0 h5 (by decide +kernel)
  refine En_Ps 2 (pc' := 8) (lv' := [(0, .ref 3), (1, .ref a), (2, .ref b)]) (st' := [.int ((z7 - ((Int32.ofInt 1)))), .int ((Int32.ofInt 0)), .ref 3]) rfl ?_
  refine En_top (subI rfl (by decide : (Int32.ofInt 1).toInt = 1) (by omega) (by omega)) (fun z9 h10 => ?_)
  have := (by decide : ((Int32.ofInt 0)).toInt = 0)
  refine En_callV rfl rfl rfl rfl rfl rfl rfl rfl (by decide +kernel : TG 3 = 3) (by decide +kernel) rfl (c_73 σ3 h4 ((Int32.ofInt 0)) z9 f ((h5 _ _ (inW (by decide +kernel : TG 3 = 3) (by decide +kernel))).trans h_f)) (by decide) (by decide) (fun v12 σ13 h11 => ?_)
  obtain ⟨h14, h15, z17, h18, z19, rfl, h16⟩ := h11
  have h20 := Fr_trans h8 h15 (by decide +kernel)
  refine En_Ps 2 (pc' := 13) (lv' := [(3, .int z19), (0, .ref 3), (1, .ref a), (2, .ref b)]) (st' := [.ref 3]) rfl ?_
  refine En_ldcS (i := 8) rfl rfl rfl ?_
  refine En_callV rfl rfl rfl rfl rfl rfl rfl rfl (by decide +kernel : TG 3 = 3) (by decide +kernel) rfl (c_71s8 σ13 h14) (by decide) (by decide) (fun v22 σ23 h21 => ?_)
  obtain ⟨h24, h25, z27, rfl, h26⟩ := h21
  have h28 := Fr_trans h20 h25 (by decide +kernel)
  refine En_iEq _ rfl rfl (fun h29 => ?_) (fun h29 => ?_)
  · refine En_Ps 5 (pc' := 32) (lv' := [(4, .int ((Int32.ofInt 0))), (3, .int z19), (0, .ref 3), (1, .ref a), (2, .ref b)]) (st' := [.int ((Int32.ofInt 1)), .int ((Int32.ofInt 0)), .ref 3]) rfl ?_
    refine En_icEq _ (by decide : (Int32.ofInt 0).toInt = 0) (by decide : (Int32.ofInt 1).toInt = 1) rfl (fun hx => by exfalso; omega) (fun h30 => ?_)
    refine En_Ps 1 (pc' := 36) (lv' := [(4, .int ((Int32.ofInt 0))), (3, .int z19), (0, .ref 3), (1, .ref a), (2, .ref b)]) (st' := [.ref 3, .ref 3]) rfl ?_
    refine En_ldcS (i := 12) rfl rfl rfl ?_
    refine En_callV rfl rfl rfl rfl rfl rfl rfl rfl (by decide +kernel : TG 3 = 3) (by decide +kernel) rfl (c_71s12 σ23 h24) (by decide) (by decide) (fun v32 σ33 h31 => ?_)
    obtain ⟨h34, h35, z37, rfl, h36⟩ := h31
    have h38 := Fr_trans h28 h35 (by decide +kernel)
    refine En_iEq _ rfl rfl (fun h39 => ?_) (fun h39 => ?_)
    · refine En_Ps 1 (pc' := 49) (lv' := [(4, .int ((Int32.ofInt 0))), (3, .int z19), (0, .ref 3), (1, .ref a), (2, .ref b)]) (st' := [.int ((Int32.ofInt 0)), .ref 3]) rfl ?_
      have := (by decide : ((Int32.ofInt 0)).toInt = 0)
      refine En_callV rfl rfl rfl rfl rfl rfl rfl rfl (by decide +kernel : TG 3 = 3) (by decide +kernel) rfl (c_59 σ33 h34 ((Int32.ofInt 0)) (geI (by decide : (Int32.ofInt 0).toInt = 0) (by omega)) (leI (by decide : (Int32.ofInt 0).toInt = 0) (by omega)) z17 ((h35 _ _ (inW (by decide +kernel : TG 3 = 3) (by decide +kernel))).trans ((h25 _ _ (inW (by decide +kernel : TG 3 = 3) (by decide +kernel))).trans h18))) (by decide) (by decide) (fun v41 σ42 h40 => ?_)
      obtain ⟨h43, h44, z46, h47, rfl, h45⟩ := h40
      have h48 := Fr_trans h38 h44 (by decide +kernel)
      refine En_Ps 1 (pc' := 53) (lv' := [(4, .int ((Int32.ofInt 0))), (3, .int z19), (0, .ref 3), (1, .ref a), (2, .ref b)]) (st' := [.ref 3]) rfl ?_
      refine En_getK (j := 5) h47 rfl rfl rfl (by decide +kernel : TG 3 = 3) (by decide +kernel) ?_
      refine En_iNe _ rfl rfl (fun h49 => ?_) (fun hx => by exfalso; omega)
      exact En_ret (v := none) rfl rfl rfl ⟨h43, h48, z46, h47, rfl, (by omega)⟩
    · refine En_Ps 2 (pc' := 49) (lv' := [(4, .int ((Int32.ofInt 0))), (3, .int z19), (0, .ref 3), (1, .ref a), (2, .ref b)]) (st' := [.int ((Int32.ofInt 1)), .ref 3]) rfl ?_
      have := (by decide : ((Int32.ofInt 1)).toInt = 1)
      refine En_callV rfl rfl rfl rfl rfl rfl rfl rfl (by decide +kernel : TG 3 = 3) (by decide +kernel) rfl (c_59 σ33 h34 ((Int32.ofInt 1)) (geI (by decide : (Int32.ofInt 1).toInt = 1) (by omega)) (leI (by decide : (Int32.ofInt 1).toInt = 1) (by omega)) z17 ((h35 _ _ (inW (by decide +kernel : TG 3 = 3) (by decide +kernel))).trans ((h25 _ _ (inW (by decide +kernel : TG 3 = 3) (by decide +kernel))).trans h18))) (by decide) (by decide) (fun v51 σ52 h50 => ?_)
      obtain ⟨h53, h54, z56, h57, rfl, h55⟩ := h50
      have h58 := Fr_trans h38 h54 (by decide +kernel)
      refine En_Ps 1 (pc' := 53) (lv' := [(4, .int ((Int32.ofInt 0))), (3, .int z19), (0, .ref 3), (1, .ref a), (2, .ref b)]) (st' := [.ref 3]) rfl ?_
      refine En_getK (j := 5) h57 rfl rfl rfl (by decide +kernel : TG 3 = 3) (by decide +kernel) ?_
      refine En_iNe _ rfl rfl (fun h59 => ?_) (fun h59 => ?_)
      · exact En_ret (v := none) rfl rfl rfl ⟨h53, h58, z56, h57, rfl, (by omega)⟩
      · refine En_Ps 3 (pc' := 63) (lv' := [(4, .int ((Int32.ofInt 0))), (3, .int z19), (0, .ref 3), (1, .ref a), (2, .ref b)]) (st' := [.int ((Int32.ofInt 0)), .int z19, .ref b]) rfl ?_
        have := (by decide : ((Int32.ofInt 0)).toInt = 0)
        refine En_callV rfl rfl rfl rfl rfl rfl rfl rfl hb (by decide +kernel) rfl (c_31 σ52 h53 b hb z19 ((Int32.ofInt 0)) (geI rfl (by omega)) (leI rfl (by omega)) (geI (by decide : (Int32.ofInt 0).toInt = 0) (by omega)) (leI (by decide : (Int32.ofInt 0).toInt = 0) (by omega))) (by decide) (by decide) (fun v61 σ62 h60 => ?_)
        obtain ⟨h63, h64, rfl, h65⟩ := h60
        have h66 := Fr_trans h58 h64 (by decide +kernel)
        exact En_ret (v := none) rfl rfl rfl ⟨h63, h66, z56, ((h64 _ _ (inW (by decide +kernel : TG 3 = 3) (by decide +kernel))).trans h57), rfl, (by omega)⟩
  · refine En_Ps 6 (pc' := 32) (lv' := [(4, .int ((Int32.ofInt 1))), (3, .int z19), (0, .ref 3), (1, .ref a), (2, .ref b)]) (st' := [.int ((Int32.ofInt 1)), .int ((Int32.ofInt 1)), .ref 3]) rfl ?_
    refine En_icEq _ (by decide : (Int32.ofInt 1).toInt = 1) (by decide : (Int32.ofInt 1).toInt = 1) rfl (fun h67 => ?_) (fun hx => by exfalso; omega)
    refine En_Ps 2 (pc' := 49) (lv' := [(4, .int ((Int32.ofInt 1))), (3, .int z19), (0, .ref 3), (1, .ref a), (2, .ref b)]) (st' := [.int ((Int32.ofInt 1)), .ref 3]) rfl ?_
    have := (by decide : ((Int32.ofInt 1)).toInt = 1)
    refine En_callV rfl rfl rfl rfl rfl rfl rfl rfl (by decide +kernel : TG 3 = 3) (by decide +kernel) rfl (c_59 σ23 h24 ((Int32.ofInt 1)) (geI (by decide : (Int32.ofInt 1).toInt = 1) (by omega)) (leI (by decide : (Int32.ofInt 1).toInt = 1) (by omega)) z17 ((h25 _ _ (inW (by decide +kernel : TG 3 = 3) (by decide +kernel))).trans h18)) (by decide) (by decide) (fun v69 σ70 h68 => ?_)
    obtain ⟨h71, h72, z74, h75, rfl, h73⟩ := h68
    have h76 := Fr_trans h28 h72 (by decide +kernel)
    refine En_Ps 1 (pc' := 53) (lv' := [(4, .int ((Int32.ofInt 1))), (3, .int z19), (0, .ref 3), (1, .ref a), (2, .ref b)]) (st' := [.ref 3]) rfl ?_
    refine En_getK (j := 5) h75 rfl rfl rfl (by decide +kernel : TG 3 = 3) (by decide +kernel) ?_
    refine En_iNe _ rfl rfl (fun h77 => ?_) (fun h77 => ?_)
    · exact En_ret (v := none) rfl rfl rfl ⟨h71, h76, z74, h75, rfl, (by omega)⟩
    · refine En_Ps 3 (pc' := 63) (lv' := [(4, .int ((Int32.ofInt 1))), (3, .int z19), (0, .ref 3), (1, .ref a), (2, .ref b)]) (st' := [.int ((Int32.ofInt 1)), .int z19, .ref b]) rfl ?_
      have := (by decide : ((Int32.ofInt 1)).toInt = 1)
      refine En_callV rfl rfl rfl rfl rfl rfl rfl rfl hb (by decide +kernel) rfl (c_31 σ70 h71 b hb z19 ((Int32.ofInt 1)) (geI rfl (by omega)) (leI rfl (by omega)) (geI (by decide : (Int32.ofInt 1).toInt = 1) (by omega)) (leI (by decide : (Int32.ofInt 1).toInt = 1) (by omega))) (by decide) (by decide) (fun v79 σ80 h78 => ?_)
      obtain ⟨h81, h82, rfl, h83⟩ := h78
      have h84 := Fr_trans h76 h82 (by decide +kernel)
      exact En_ret (v := none) rfl rfl rfl ⟨h81, h84, z74, ((h82 _ _ (inW (by decide +kernel : TG 3 = 3) (by decide +kernel))).trans h75), rfl, (by omega)⟩
/-- DoorSchool$Reader.readLesson(LDoorSchool$Plan;)V -/
abbrev P_67 (σ0 : SG) (a : Nat) (f : Int32) (sg : Int32) : PO := fun v σ => WT σ ∧ Fr [(3, 1), (3, 2), (3, 3), (3, 4), (3, 5), (3, 6), (20, 2), (21, 0), (22, 0)] σ0 σ ∧ ∃ f1 : Int32, (σ 3)[5]? = some (.int f1) ∧ v = none ∧ -f1.toInt ≤ 0 ∧ f1.toInt - 3 ≤ 0 ∧ -f1.toInt + f.toInt ≤ 0 ∧ f1.toInt - f.toInt - 3 ≤ 0 ∧ -f1.toInt + sg.toInt - 4 ≤ 0 ∧ f1.toInt - sg.toInt - 3 ≤ 0 ∧ f.toInt - f1.toInt ≤ 0
set_option maxRecDepth 10000 in
set_option maxHeartbeats 4000000 in
theorem c_67 (σ0 : SG) (hσ0 : WT σ0) (a : Nat) (ha : TG a = 18) (f : Int32) (h_f : (σ0 3)[5]? = some (.int f)) (sg : Int32) (h_sg : (σ0 a)[1]? = some (.int sg)) (hp0 : -sg.toInt ≤ 0) : En 6 136 none mr_67 (P_67 σ0 a f sg) 0 [(0, .ref 3), (1, .ref a)] [] σ0 := by
  obtain ⟨hl_f, hu_f⟩ := WT_int hσ0 (g := 3) (by decide +kernel) (by decide +kernel) (l := 0) (u := 3) (by decide +kernel) h_f
  obtain ⟨hl_sg, hu_sg⟩ := WT_int hσ0 (g := 18) ha (by decide +kernel) (l := (-1)) (u := 4) (by decide +kernel) h_sg
  have hF0 : Fr [(3, 1), (3, 2), (3, 3), (3, 4), (3, 5), (3, 6), (20, 2), (21, 0), (22, 0)] σ0 σ0 := Fr_rfl
  refine En_Ps 1 (pc' := 1) (lv' := [(0, .ref 3), (1, .ref a)]) (st' := [.ref 3]) rfl ?_
  refine En_callV rfl rfl rfl rfl rfl rfl rfl rfl (by decide +kernel : TG 3 = 3) (by decide +kernel) rfl (c_72 σ0 hσ0) (by decide) (by decide) (fun v2 σ3 h1 => ?_)
  obtain ⟨h4, h5, rfl, h6⟩ := h1
  have h7 := Fr_trans hF0 h5 (by decide +kernel)
  refine En_Ps 3 (pc' := 7) (lv' := [(0, .ref 3), (1, .ref a)]) (st' := [.ref a, .int ((Int32.ofInt 0)), .ref 3]) rfl ?_
  refine En_getI (j := 3) (l := 0) (u := 4) rfl rfl rfl ha (by decide +kernel) h4 (by decide +kernel) (fun z9 h8 h10 h11 => ?_)
  refine En_Ps 2 (pc' := 12) (lv' := [(0, .ref 3), (1, .ref a)]) (st' := [.int ((z9 - ((Int32.ofInt 1)))), .int ((Int32.ofInt 0)), .ref 3]) rfl ?_
  refine En_top (subI rfl (by decide : (Int32.ofInt 1).toInt = 1) (by omega) (by omega)) (fun z12 h13 => ?_)
  have := (by decide : ((Int32.ofInt 0)).toInt = 0)
  refine En_callV rfl rfl rfl rfl rfl rfl rfl rfl (by decide +kernel : TG 3 = 3) (by decide +kernel) rfl (c_58 σ3 h4 ((Int32.ofInt 0)) z12 f ((h5 _ _ (inW (by decide +kernel : TG 3 = 3) (by decide +kernel))).trans h_f)) (by decide) (by decide) (fun v15 σ16 h14 => ?_)
  obtain ⟨h17, h18, z20, h21, z22, rfl, h19⟩ := h14
  have h23 := Fr_trans h7 h18 (by decide +kernel)
  refine En_Ps 2 (pc' := 17) (lv' := [(2, .int z22), (0, .ref 3), (1, .ref a)]) (st' := [.ref 3]) rfl ?_
  refine En_getK (j := 5) h21 rfl rfl rfl (by decide +kernel : TG 3 = 3) (by decide +kernel) ?_
  refine En_iEq _ rfl rfl (fun h24 => ?_) (fun h24 => ?_)
  · refine En_Ps 1 (pc' := 25) (lv' := [(2, .int z22), (0, .ref 3), (1, .ref a)]) (st' := [.ref a]) rfl ?_
    refine En_getR (j := 4) (g' := 19) (u := 0) rfl rfl rfl ha (by decide +kernel) h17 (by decide +kernel) (fun a26 h25 ha26 => ?_)
    refine En_Ps 1 (pc' := 29) (lv' := [(2, .int z22), (0, .ref 3), (1, .ref a)]) (st' := [.int z22, .ref a26]) rfl ?_
    refine En_aald (g' := 28) (u := 0) rfl rfl ha26 (by decide +kernel) h17 (by omega) (lnI (by decide +kernel : LN _ = 4) (by omega)) (FTsgl (by decide +kernel)) (fun a28 h27 ha28 => ?_)
    refine En_getR (j := 0) (g' := 20) (u := 0) rfl rfl rfl ha28 (by decide +kernel) h17 (by decide +kernel) (fun a30 h29 ha30 => ?_)
    refine En_Ps 2 (pc' := 35) (lv' := [(3, .ref a30), (2, .int z22), (0, .ref 3), (1, .ref a)]) (st' := [.ref a30]) rfl ?_
    refine En_getI (j := 2) (l := 0) (u := 13) rfl rfl rfl ha30 (by decide +kernel) h17 (by decide +kernel) (fun z32 h31 h33 h34 => ?_)
    refine En_Ps 1 (pc' := 40) (lv' := [(3, .ref a30), (2, .int z22), (0, .ref 3), (1, .ref a)]) (st' := [.int (((Int8.ofInt 12).toInt32)), .int z32]) rfl ?_
    refine En_icLt _ rfl (by decide : ((Int8.ofInt 12).toInt32).toInt = 12) rfl (fun h35 => ?_) (fun h35 => ?_)
    · refine En_Ps 1 (pc' := 50) (lv' := [(3, .ref a30), (2, .int z22), (0, .ref 3), (1, .ref a)]) (st' := [.ref 3]) rfl ?_
      refine En_callV rfl rfl rfl rfl rfl rfl rfl rfl (by decide +kernel : TG 3 = 3) (by decide +kernel) rfl (c_72 σ16 h17) (by decide) (by decide) (fun v37 σ38 h36 => ?_)
      obtain ⟨h39, h40, rfl, h41⟩ := h36
      have h42 := Fr_trans h23 h40 (by decide +kernel)
      refine En_Ps 3 (pc' := 56) (lv' := [(3, .ref a30), (2, .int z22), (0, .ref 3), (1, .ref a)]) (st' := [.ref a30, .ref a, .ref 3]) rfl ?_
      refine En_callV rfl rfl rfl rfl rfl rfl rfl rfl (by decide +kernel : TG 3 = 3) (by decide +kernel) rfl (c_69 σ38 h39 a ha a30 ha30 z20 ((h40 _ _ (inW (by decide +kernel : TG 3 = 3) (by decide +kernel))).trans h21) sg ((h40 _ _ (inW ha (by decide +kernel))).trans ((h18 _ _ (inW ha (by decide +kernel))).trans ((h5 _ _ (inW ha (by decide +kernel))).trans h_sg))) (by omega)) (by decide) (by decide) (fun v44 σ45 h43 => ?_)
      obtain ⟨h46, h47, z49, h50, rfl, h48⟩ := h43
      have h51 := Fr_trans h42 h47 (by decide +kernel)
      exact En_ret (v := none) rfl rfl rfl ⟨h46, h51, z49, h50, rfl, (by omega)⟩
    · refine En_Ps 2 (pc' := 45) (lv' := [(3, .ref a30), (2, .int z22), (0, .ref 3), (1, .ref a)]) (st' := [.int ((Int32.ofInt 3)), .ref 3]) rfl ?_
      have := (by decide : ((Int32.ofInt 3)).toInt = 3)
      refine En_callV rfl rfl rfl rfl rfl rfl rfl rfl (by decide +kernel : TG 3 = 3) (by decide +kernel) rfl (c_54 σ16 h17 ((Int32.ofInt 3)) (geI (by decide : (Int32.ofInt 3).toInt = 3) (by omega)) (leI (by decide : (Int32.ofInt 3).toInt = 3) (by omega)) z20 h21) (by decide) (by decide) (fun v53 σ54 h52 => ?_)
      obtain ⟨h55, h56, z58, h59, rfl, h57⟩ := h52
      have h60 := Fr_trans h23 h56 (by decide +kernel)
      exact En_ret (v := none) rfl rfl rfl ⟨h55, h60, z58, h59, rfl, (by omega)⟩
  · exact En_ret (v := none) rfl rfl rfl ⟨h17, h23, z20, h21, rfl, (by omega)⟩
/-- DoorSchool$Reader.readExam(LDoorSchool$Plan;)V -/
abbrev P_64 (σ0 : SG) (a : Nat) (f : Int32) (sg : Int32) : PO := fun v σ => WT σ ∧ Fr [(3, 1), (3, 2), (3, 3), (3, 4), (3, 5), (3, 6), (20, 2), (21, 0), (22, 0)] σ0 σ ∧ ∃ f1 : Int32, (σ 3)[5]? = some (.int f1) ∧ v = none ∧ -f1.toInt ≤ 0 ∧ f1.toInt - 3 ≤ 0 ∧ -f1.toInt + f.toInt ≤ 0 ∧ f1.toInt - f.toInt - 3 ≤ 0 ∧ -f1.toInt + sg.toInt - 4 ≤ 0 ∧ f1.toInt - sg.toInt - 3 ≤ 0 ∧ f.toInt - f1.toInt ≤ 0
set_option maxRecDepth 10000 in
set_option maxHeartbeats 4000000 in
theorem c_64 (σ0 : SG) (hσ0 : WT σ0) (a : Nat) (ha : TG a = 18) (f : Int32) (h_f : (σ0 3)[5]? = some (.int f)) (sg : Int32) (h_sg : (σ0 a)[1]? = some (.int sg)) (hp0 : -sg.toInt ≤ 0) : En 6 136 none mr_64 (P_64 σ0 a f sg) 0 [(0, .ref 3), (1, .ref a)] [] σ0 := by
  obtain ⟨hl_f, hu_f⟩ := WT_int hσ0 (g := 3) (by decide +kernel) (by decide +kernel) (l := 0) (u := 3) (by decide +kernel) h_f
  obtain ⟨hl_sg, hu_sg⟩ := WT_int hσ0 (g := 18) ha (by decide +kernel) (l := (-1)) (u := 4) (by decide +kernel) h_sg
  have hF0 : Fr [(3, 1), (3, 2), (3, 3), (3, 4), (3, 5), (3, 6), (20, 2), (21, 0), (22, 0)] σ0 σ0 := Fr_rfl
  refine En_Ps 1 (pc' := 1) (lv' := [(0, .ref 3), (1, .ref a)]) (st' := [.ref a]) rfl ?_
  refine En_getR (j := 5) (g' := 20) (u := 0) rfl rfl rfl ha (by decide +kernel) hσ0 (by decide +kernel) (fun a2 h1 ha2 => ?_)
  refine En_getI (j := 2) (l := 0) (u := 13) rfl rfl rfl ha2 (by decide +kernel) hσ0 (by decide +kernel) (fun z4 h3 h5 h6 => ?_)
  refine En_Ps 1 (pc' := 9) (lv' := [(0, .ref 3), (1, .ref a)]) (st' := [.int (((Int8.ofInt 12).toInt32)), .int z4]) rfl ?_
  refine En_icLt _ rfl (by decide : ((Int8.ofInt 12).toInt32).toInt = 12) rfl (fun h7 => ?_) (fun h7 => ?_)
  · refine En_Ps 1 (pc' := 19) (lv' := [(0, .ref 3), (1, .ref a)]) (st' := [.ref 3]) rfl ?_
    refine En_callV rfl rfl rfl rfl rfl rfl rfl rfl (by decide +kernel : TG 3 = 3) (by decide +kernel) rfl (c_72 σ0 hσ0) (by decide) (by decide) (fun v9 σ10 h8 => ?_)
    obtain ⟨h11, h12, rfl, h13⟩ := h8
    have h14 := Fr_trans hF0 h12 (by decide +kernel)
    refine En_Ps 3 (pc' := 25) (lv' := [(0, .ref 3), (1, .ref a)]) (st' := [.ref a, .ref a, .ref 3]) rfl ?_
    refine En_getK (j := 5) ((h12 _ _ (inW ha (by decide +kernel))).trans h1) rfl rfl rfl ha (by decide +kernel) ?_
    refine En_callV rfl rfl rfl rfl rfl rfl rfl rfl (by decide +kernel : TG 3 = 3) (by decide +kernel) rfl (c_69 σ10 h11 a ha a2 ha2 f ((h12 _ _ (inW (by decide +kernel : TG 3 = 3) (by decide +kernel))).trans h_f) sg ((h12 _ _ (inW ha (by decide +kernel))).trans h_sg) (by omega)) (by decide) (by decide) (fun v16 σ17 h15 => ?_)
    obtain ⟨h18, h19, z21, h22, rfl, h20⟩ := h15
    have h23 := Fr_trans h14 h19 (by decide +kernel)
    exact En_ret (v := none) rfl rfl rfl ⟨h18, h23, z21, h22, rfl, (by omega)⟩
  · refine En_Ps 2 (pc' := 14) (lv' := [(0, .ref 3), (1, .ref a)]) (st' := [.int ((Int32.ofInt 3)), .ref 3]) rfl ?_
    have := (by decide : ((Int32.ofInt 3)).toInt = 3)
    refine En_callV rfl rfl rfl rfl rfl rfl rfl rfl (by decide +kernel : TG 3 = 3) (by decide +kernel) rfl (c_54 σ0 hσ0 ((Int32.ofInt 3)) (geI (by decide : (Int32.ofInt 3).toInt = 3) (by omega)) (leI (by decide : (Int32.ofInt 3).toInt = 3) (by omega)) f h_f) (by decide) (by decide) (fun v25 σ26 h24 => ?_)
    obtain ⟨h27, h28, z30, h31, rfl, h29⟩ := h24
    have h32 := Fr_trans hF0 h28 (by decide +kernel)
    exact En_ret (v := none) rfl rfl rfl ⟨h27, h32, z30, h31, rfl, (by omega)⟩
/-- DoorSchool$Reader.readTwin(LDoorSchool$Plan;)V -/
abbrev P_70 (σ0 : SG) (a : Nat) (f : Int32) (sg : Int32) : PO := fun v σ => WT σ ∧ Fr [(3, 1), (3, 2), (3, 3), (3, 4), (3, 5), (3, 6), (28, 3)] σ0 σ ∧ ∃ f1 : Int32, (σ 3)[5]? = some (.int f1) ∧ v = none ∧ -f1.toInt ≤ 0 ∧ f1.toInt - 3 ≤ 0 ∧ -f1.toInt + f.toInt ≤ 0 ∧ f1.toInt - f.toInt - 3 ≤ 0 ∧ -f1.toInt + sg.toInt - 4 ≤ 0 ∧ f1.toInt - sg.toInt - 3 ≤ 0 ∧ f.toInt - f1.toInt ≤ 0
set_option maxRecDepth 10000 in
set_option maxHeartbeats 4000000 in
theorem c_70 (σ0 : SG) (hσ0 : WT σ0) (a : Nat) (ha : TG a = 18) (f : Int32) (h_f : (σ0 3)[5]? = some (.int f)) (sg : Int32) (h_sg : (σ0 a)[1]? = some (.int sg)) (hp0 : -sg.toInt ≤ 0) : En 2 43 none mr_70 (P_70 σ0 a f sg) 0 [(0, .ref 3), (1, .ref a)] [] σ0 := by
  obtain ⟨hl_f, hu_f⟩ := WT_int hσ0 (g := 3) (by decide +kernel) (by decide +kernel) (l := 0) (u := 3) (by decide +kernel) h_f
  obtain ⟨hl_sg, hu_sg⟩ := WT_int hσ0 (g := 18) ha (by decide +kernel) (l := (-1)) (u := 4) (by decide +kernel) h_sg
  have hF0 : Fr [(3, 1), (3, 2), (3, 3), (3, 4), (3, 5), (3, 6), (28, 3)] σ0 σ0 := Fr_rfl
  refine En_Ps 1 (pc' := 1) (lv' := [(0, .ref 3), (1, .ref a)]) (st' := [.ref 3]) rfl ?_
  refine En_callV rfl rfl rfl rfl rfl rfl rfl rfl (by decide +kernel : TG 3 = 3) (by decide +kernel) rfl (c_72 σ0 hσ0) (by decide) (by decide) (fun v2 σ3 h1 => ?_)
  obtain ⟨h4, h5, rfl, h6⟩ := h1
  have h7 := Fr_trans hF0 h5 (by decide +kernel)
  refine En_Ps 3 (pc' := 7) (lv' := [(0, .ref 3), (1, .ref a)]) (st' := [.ref a, .int ((Int32.ofInt 0)), .ref 3]) rfl ?_
  refine En_getI (j := 3) (l := 0) (u := 4) rfl rfl rfl ha (by decide +kernel) h4 (by decide +kernel) (fun z9 h8 h10 h11 => ?_)
  refine En_Ps 2 (pc' := 12) (lv' := [(0, .ref 3), (1, .ref a)]) (st' := [.int ((z9 - ((Int32.ofInt 1)))), .int ((Int32.ofInt 0)), .ref 3]) rfl ?_
  refine En_top (subI rfl (by decide : (Int32.ofInt 1).toInt = 1) (by omega) (by omega)) (fun z12 h13 => ?_)
  have := (by decide : ((Int32.ofInt 0)).toInt = 0)
  refine En_callV rfl rfl rfl rfl rfl rfl rfl rfl (by decide +kernel : TG 3 = 3) (by decide +kernel) rfl (c_58 σ3 h4 ((Int32.ofInt 0)) z12 f ((h5 _ _ (inW (by decide +kernel : TG 3 = 3) (by decide +kernel))).trans h_f)) (by decide) (by decide) (fun v15 σ16 h14 => ?_)
  obtain ⟨h17, h18, z20, h21, z22, rfl, h19⟩ := h14
  have h23 := Fr_trans h7 h18 (by decide +kernel)
  refine En_Ps 2 (pc' := 17) (lv' := [(2, .int z22), (0, .ref 3), (1, .ref a)]) (st' := [.ref 3]) rfl ?_
  refine En_getK (j := 5) h21 rfl rfl rfl (by decide +kernel : TG 3 = 3) (by decide +kernel) ?_
  refine En_iNe _ rfl rfl (fun h24 => ?_) (fun h24 => ?_)
  · refine En_Ps 1 (pc' := 50) (lv' := [(2, .int z22), (0, .ref 3), (1, .ref a)]) (st' := [.ref 3]) rfl ?_
    refine En_getK (j := 5) h21 rfl rfl rfl (by decide +kernel : TG 3 = 3) (by decide +kernel) ?_
    refine En_iEq _ rfl rfl (fun hx => by exfalso; omega) (fun h25 => ?_)
    exact En_ret (v := none) rfl rfl rfl ⟨h17, h23, z20, h21, rfl, (by omega)⟩
  · refine En_Ps 1 (pc' := 24) (lv' := [(2, .int z22), (0, .ref 3), (1, .ref a)]) (st' := [.ref a]) rfl ?_
    refine En_getR (j := 4) (g' := 19) (u := 0) rfl rfl rfl ha (by decide +kernel) h17 (by decide +kernel) (fun a27 h26 ha27 => ?_)
    refine En_Ps 1 (pc' := 28) (lv' := [(2, .int z22), (0, .ref 3), (1, .ref a)]) (st' := [.int z22, .ref a27]) rfl ?_
    refine En_aald (g' := 28) (u := 0) rfl rfl ha27 (by decide +kernel) h17 (by omega) (lnI (by decide +kernel : LN _ = 4) (by omega)) (FTsgl (by decide +kernel)) (fun a29 h28 ha29 => ?_)
    refine En_getI (j := 3) (l := (-1)) (u := 3) rfl rfl rfl ha29 (by decide +kernel) h17 (by decide +kernel) (fun z31 h30 h32 h33 => ?_)
    refine En_Ps 1 (pc' := 33) (lv' := [(2, .int z22), (0, .ref 3), (1, .ref a)]) (st' := [.int ((Int32.ofInt (-1))), .int z31]) rfl ?_
    refine En_icNe _ rfl (by decide : (Int32.ofInt (-1)).toInt = -1) rfl (fun h34 => ?_) (fun h34 => ?_)
    · refine En_Ps 2 (pc' := 46) (lv' := [(2, .int z22), (0, .ref 3), (1, .ref a)]) (st' := [.int ((Int32.ofInt 2)), .ref 3]) rfl ?_
      have := (by decide : ((Int32.ofInt 2)).toInt = 2)
      refine En_callV rfl rfl rfl rfl rfl rfl rfl rfl (by decide +kernel : TG 3 = 3) (by decide +kernel) rfl (c_54 σ16 h17 ((Int32.ofInt 2)) (geI (by decide : (Int32.ofInt 2).toInt = 2) (by omega)) (leI (by decide : (Int32.ofInt 2).toInt = 2) (by omega)) z20 h21) (by decide) (by decide) (fun v36 σ37 h35 => ?_)
      obtain ⟨h38, h39, z41, h42, rfl, h40⟩ := h35
      have h43 := Fr_trans h23 h39 (by decide +kernel)
      refine En_Ps 1 (pc' := 50) (lv' := [(2, .int z22), (0, .ref 3), (1, .ref a)]) (st' := [.ref 3]) rfl ?_
      refine En_getK (j := 5) h42 rfl rfl rfl (by decide +kernel : TG 3 = 3) (by decide +kernel) ?_
      refine En_iEq _ rfl rfl (fun hx => by exfalso; omega) (fun h44 => ?_)
      exact En_ret (v := none) rfl rfl rfl ⟨h38, h43, z41, h42, rfl, (by omega)⟩
    · refine En_Ps 2 (pc' := 38) (lv' := [(2, .int z22), (0, .ref 3), (1, .ref a)]) (st' := [.int z22, .ref a]) rfl ?_
      refine En_callV rfl rfl rfl rfl rfl rfl rfl rfl ha (by decide +kernel) rfl (c_45 σ16 h17 a ha z22) (by decide) (by decide) (fun v46 σ47 h45 => ?_)
      obtain ⟨h48, h49, z51, rfl, h50⟩ := h45
      have h52 := Fr_trans h23 h49 (by decide +kernel)
      refine En_iEq _ rfl rfl (fun h53 => ?_) (fun h53 => ?_)
      · refine En_Ps 1 (pc' := 50) (lv' := [(2, .int z22), (0, .ref 3), (1, .ref a)]) (st' := [.ref 3]) rfl ?_
        refine En_getK (j := 5) ((h49 _ _ (inW (by decide +kernel : TG 3 = 3) (by decide +kernel))).trans h21) rfl rfl rfl (by decide +kernel : TG 3 = 3) (by decide +kernel) ?_
        refine En_iEq _ rfl rfl (fun h54 => ?_) (fun hx => by exfalso; omega)
        refine En_Ps 1 (pc' := 58) (lv' := [(2, .int z22), (0, .ref 3), (1, .ref a)]) (st' := [.ref 3]) rfl ?_
        refine En_callV rfl rfl rfl rfl rfl rfl rfl rfl (by decide +kernel : TG 3 = 3) (by decide +kernel) rfl (c_72 σ47 h48) (by decide) (by decide) (fun v56 σ57 h55 => ?_)
        obtain ⟨h58, h59, rfl, h60⟩ := h55
        have h61 := Fr_trans h52 h59 (by decide +kernel)
        refine En_Ps 3 (pc' := 64) (lv' := [(2, .int z22), (0, .ref 3), (1, .ref a)]) (st' := [.ref a, .int ((Int32.ofInt 0)), .ref 3]) rfl ?_
        refine En_getK (j := 3) ((h59 _ _ (inW ha (by decide +kernel))).trans ((h49 _ _ (inW ha (by decide +kernel))).trans ((h18 _ _ (inW ha (by decide +kernel))).trans h8))) rfl rfl rfl ha (by decide +kernel) ?_
        refine En_Ps 2 (pc' := 69) (lv' := [(2, .int z22), (0, .ref 3), (1, .ref a)]) (st' := [.int ((z9 - ((Int32.ofInt 1)))), .int ((Int32.ofInt 0)), .ref 3]) rfl ?_
        refine En_top (subI rfl (by decide : (Int32.ofInt 1).toInt = 1) (by omega) (by omega)) (fun z62 h63 => ?_)
        have := (by decide : ((Int32.ofInt 0)).toInt = 0)
        refine En_callV rfl rfl rfl rfl rfl rfl rfl rfl (by decide +kernel : TG 3 = 3) (by decide +kernel) rfl (c_58 σ57 h58 ((Int32.ofInt 0)) z62 z20 ((h59 _ _ (inW (by decide +kernel : TG 3 = 3) (by decide +kernel))).trans ((h49 _ _ (inW (by decide +kernel : TG 3 = 3) (by decide +kernel))).trans h21))) (by decide) (by decide) (fun v65 σ66 h64 => ?_)
        obtain ⟨h67, h68, z70, h71, z72, rfl, h69⟩ := h64
        have h73 := Fr_trans h61 h68 (by decide +kernel)
        refine En_Ps 2 (pc' := 74) (lv' := [(3, .int z72), (2, .int z22), (0, .ref 3), (1, .ref a)]) (st' := [.ref 3]) rfl ?_
        refine En_getK (j := 5) h71 rfl rfl rfl (by decide +kernel : TG 3 = 3) (by decide +kernel) ?_
        refine En_iNe _ rfl rfl (fun h74 => ?_) (fun h74 => ?_)
        · refine En_Ps 1 (pc' := 104) (lv' := [(3, .int z72), (2, .int z22), (0, .ref 3), (1, .ref a)]) (st' := [.ref 3]) rfl ?_
          refine En_getK (j := 5) h71 rfl rfl rfl (by decide +kernel : TG 3 = 3) (by decide +kernel) ?_
          refine En_iNe _ rfl rfl (fun h75 => ?_) (fun hx => by exfalso; omega)
          exact En_ret (v := none) rfl rfl rfl ⟨h67, h73, z70, h71, rfl, (by omega)⟩
        · refine En_Ps 2 (pc' := 82) (lv' := [(3, .int z72), (2, .int z22), (0, .ref 3), (1, .ref a)]) (st' := [.int z22, .int z72]) rfl ?_
          refine En_icEq _ rfl rfl rfl (fun h76 => ?_) (fun h76 => ?_)
          · refine En_Ps 2 (pc' := 100) (lv' := [(3, .int z72), (2, .int z22), (0, .ref 3), (1, .ref a)]) (st' := [.int ((Int32.ofInt 2)), .ref 3]) rfl ?_
            have := (by decide : ((Int32.ofInt 2)).toInt = 2)
            refine En_callV rfl rfl rfl rfl rfl rfl rfl rfl (by decide +kernel : TG 3 = 3) (by decide +kernel) rfl (c_54 σ66 h67 ((Int32.ofInt 2)) (geI (by decide : (Int32.ofInt 2).toInt = 2) (by omega)) (leI (by decide : (Int32.ofInt 2).toInt = 2) (by omega)) z70 h71) (by decide) (by decide) (fun v78 σ79 h77 => ?_)
            obtain ⟨h80, h81, z83, h84, rfl, h82⟩ := h77
            have h85 := Fr_trans h73 h81 (by decide +kernel)
            refine En_Ps 1 (pc' := 104) (lv' := [(3, .int z72), (2, .int z22), (0, .ref 3), (1, .ref a)]) (st' := [.ref 3]) rfl ?_
            refine En_getK (j := 5) h84 rfl rfl rfl (by decide +kernel : TG 3 = 3) (by decide +kernel) ?_
            refine En_iNe _ rfl rfl (fun h86 => ?_) (fun hx => by exfalso; omega)
            exact En_ret (v := none) rfl rfl rfl ⟨h80, h85, z83, h84, rfl, (by omega)⟩
          · refine En_Ps 1 (pc' := 86) (lv' := [(3, .int z72), (2, .int z22), (0, .ref 3), (1, .ref a)]) (st' := [.ref a]) rfl ?_
            refine En_getK (j := 4) ((h68 _ _ (inW ha (by decide +kernel))).trans ((h59 _ _ (inW ha (by decide +kernel))).trans ((h49 _ _ (inW ha (by decide +kernel))).trans h26))) rfl rfl rfl ha (by decide +kernel) ?_
            refine En_Ps 1 (pc' := 90) (lv' := [(3, .int z72), (2, .int z22), (0, .ref 3), (1, .ref a)]) (st' := [.int z72, .ref a27]) rfl ?_
            refine En_aald (g' := 28) (u := 0) rfl rfl ha27 (by decide +kernel) h67 (by omega) (lnI (by decide +kernel : LN _ = 4) (by omega)) (FTsgl (by decide +kernel)) (fun a88 h87 ha88 => ?_)
            refine En_getI (j := 3) (l := (-1)) (u := 3) rfl rfl rfl ha88 (by decide +kernel) h67 (by decide +kernel) (fun z90 h89 h91 h92 => ?_)
            refine En_Ps 1 (pc' := 95) (lv' := [(3, .int z72), (2, .int z22), (0, .ref 3), (1, .ref a)]) (st' := [.int ((Int32.ofInt (-1))), .int z90]) rfl ?_
            refine En_icEq _ rfl (by decide : (Int32.ofInt (-1)).toInt = -1) rfl (fun h93 => ?_) (fun h93 => ?_)
            · refine En_Ps 1 (pc' := 104) (lv' := [(3, .int z72), (2, .int z22), (0, .ref 3), (1, .ref a)]) (st' := [.ref 3]) rfl ?_
              refine En_getK (j := 5) h71 rfl rfl rfl (by decide +kernel : TG 3 = 3) (by decide +kernel) ?_
              refine En_iNe _ rfl rfl (fun hx => by exfalso; omega) (fun h94 => ?_)
              refine En_Ps 1 (pc' := 111) (lv' := [(3, .int z72), (2, .int z22), (0, .ref 3), (1, .ref a)]) (st' := [.ref a]) rfl ?_
              refine En_getK (j := 4) ((h68 _ _ (inW ha (by decide +kernel))).trans ((h59 _ _ (inW ha (by decide +kernel))).trans ((h49 _ _ (inW ha (by decide +kernel))).trans h26))) rfl rfl rfl ha (by decide +kernel) ?_
              refine En_Ps 1 (pc' := 115) (lv' := [(3, .int z72), (2, .int z22), (0, .ref 3), (1, .ref a)]) (st' := [.int z22, .ref a27]) rfl ?_
              refine En_aald (g' := 28) (u := 0) rfl rfl ha27 (by decide +kernel) h67 (by omega) (lnI (by decide +kernel : LN _ = 4) (by omega)) (FTsgl (by decide +kernel)) (fun a96 h95 ha96 => ?_)
              refine En_Ps 1 (pc' := 117) (lv' := [(3, .int z72), (2, .int z22), (0, .ref 3), (1, .ref a)]) (st' := [.int z72, .ref a96]) rfl ?_
              refine En_put (j := 3) rfl rfl rfl ha96 (by decide +kernel) rfl (vI (l := (-1)) (u := 3) (by decide +kernel) rfl (by omega) (by omega)) h67 h73 (by decide +kernel) (fun σ97 h98 h99 h100 h101 => ?_)
              refine En_Ps 1 (pc' := 121) (lv' := [(3, .int z72), (2, .int z22), (0, .ref 3), (1, .ref a)]) (st' := [.ref 3]) rfl ?_
              refine En_callV rfl rfl rfl rfl rfl rfl rfl rfl (by decide +kernel : TG 3 = 3) (by decide +kernel) rfl (c_72 σ97 h98) (by decide) (by decide) (fun v103 σ104 h102 => ?_)
              obtain ⟨h105, h106, rfl, h107⟩ := h102
              have h108 := Fr_trans h99 h106 (by decide +kernel)
              exact En_ret (v := none) rfl rfl rfl ⟨h105, h108, z70, ((h106 _ _ (inW (by decide +kernel : TG 3 = 3) (by decide +kernel))).trans ((h101 _ _ (Or.inr (by decide))).trans h71)), rfl, (by omega)⟩
            · refine En_Ps 2 (pc' := 100) (lv' := [(3, .int z72), (2, .int z22), (0, .ref 3), (1, .ref a)]) (st' := [.int ((Int32.ofInt 2)), .ref 3]) rfl ?_
              have := (by decide : ((Int32.ofInt 2)).toInt = 2)
              refine En_callV rfl rfl rfl rfl rfl rfl rfl rfl (by decide +kernel : TG 3 = 3) (by decide +kernel) rfl (c_54 σ66 h67 ((Int32.ofInt 2)) (geI (by decide : (Int32.ofInt 2).toInt = 2) (by omega)) (leI (by decide : (Int32.ofInt 2).toInt = 2) (by omega)) z70 h71) (by decide) (by decide) (fun v110 σ111 h109 => ?_)
              obtain ⟨h112, h113, z115, h116, rfl, h114⟩ := h109
              have h117 := Fr_trans h73 h113 (by decide +kernel)
              refine En_Ps 1 (pc' := 104) (lv' := [(3, .int z72), (2, .int z22), (0, .ref 3), (1, .ref a)]) (st' := [.ref 3]) rfl ?_
              refine En_getK (j := 5) h116 rfl rfl rfl (by decide +kernel : TG 3 = 3) (by decide +kernel) ?_
              refine En_iNe _ rfl rfl (fun h118 => ?_) (fun hx => by exfalso; omega)
              exact En_ret (v := none) rfl rfl rfl ⟨h112, h117, z115, h116, rfl, (by omega)⟩
      · refine En_Ps 2 (pc' := 46) (lv' := [(2, .int z22), (0, .ref 3), (1, .ref a)]) (st' := [.int ((Int32.ofInt 2)), .ref 3]) rfl ?_
        have := (by decide : ((Int32.ofInt 2)).toInt = 2)
        refine En_callV rfl rfl rfl rfl rfl rfl rfl rfl (by decide +kernel : TG 3 = 3) (by decide +kernel) rfl (c_54 σ47 h48 ((Int32.ofInt 2)) (geI (by decide : (Int32.ofInt 2).toInt = 2) (by omega)) (leI (by decide : (Int32.ofInt 2).toInt = 2) (by omega)) z20 ((h49 _ _ (inW (by decide +kernel : TG 3 = 3) (by decide +kernel))).trans h21)) (by decide) (by decide) (fun v120 σ121 h119 => ?_)
        obtain ⟨h122, h123, z125, h126, rfl, h124⟩ := h119
        have h127 := Fr_trans h52 h123 (by decide +kernel)
        refine En_Ps 1 (pc' := 50) (lv' := [(2, .int z22), (0, .ref 3), (1, .ref a)]) (st' := [.ref 3]) rfl ?_
        refine En_getK (j := 5) h126 rfl rfl rfl (by decide +kernel : TG 3 = 3) (by decide +kernel) ?_
        refine En_iEq _ rfl rfl (fun hx => by exfalso; omega) (fun h128 => ?_)
        exact En_ret (v := none) rfl rfl rfl ⟨h122, h127, z125, h126, rfl, (by omega)⟩
/-- DoorSchool$Reader.takePart(I)I -/
abbrev P_74 (σ0 : SG) (a : Int32) (f : Int32) : PO := fun v σ => WT σ ∧ Fr [(3, 1), (3, 2), (3, 3), (3, 4), (3, 5), (3, 6)] σ0 σ ∧ ∃ f1 : Int32, (σ 3)[5]? = some (.int f1) ∧ ∃ ret : Int32, v = some (.int ret) ∧ -ret.toInt - 1 ≤ 0 ∧ ret.toInt - 15 ≤ 0 ∧ -f1.toInt ≤ 0 ∧ f1.toInt - 3 ≤ 0 ∧ -f1.toInt + f.toInt ≤ 0 ∧ f1.toInt - f.toInt - 3 ≤ 0 ∧ f.toInt - f1.toInt ≤ 0 ∧ (f1.toInt ≤ 0 → -ret.toInt ≤ 0 ∧ ret.toInt - 15 ≤ 0)
set_option maxRecDepth 10000 in
set_option maxHeartbeats 4000000 in
theorem c_74 (σ0 : SG) (hσ0 : WT σ0) (a : Int32) (f : Int32) (h_f : (σ0 3)[5]? = some (.int f)) : En 2 43 none mr_74 (P_74 σ0 a f) 0 [(0, .ref 3), (1, .int a)] [] σ0 := by
  obtain ⟨hl_f, hu_f⟩ := WT_int hσ0 (g := 3) (by decide +kernel) (by decide +kernel) (l := 0) (u := 3) (by decide +kernel) h_f
  have hF0 : Fr [(3, 1), (3, 2), (3, 3), (3, 4), (3, 5), (3, 6)] σ0 σ0 := Fr_rfl
  refine En_Ps 3 (pc' := 4) (lv' := [(0, .ref 3), (1, .int a)]) (st' := [.int (((Int8.ofInt 15).toInt32)), .int ((Int32.ofInt 0)), .ref 3]) rfl ?_
  have := (by decide : ((Int32.ofInt 0)).toInt = 0)
  have := (by decide : (((Int8.ofInt 15).toInt32)).toInt = 15)
  refine En_callV rfl rfl rfl rfl rfl rfl rfl rfl (by decide +kernel : TG 3 = 3) (by decide +kernel) rfl (c_58 σ0 hσ0 ((Int32.ofInt 0)) (((Int8.ofInt 15).toInt32)) f h_f) (by decide) (by decide) (fun v2 σ3 h1 => ?_)
  obtain ⟨h4, h5, z7, h8, z9, rfl, h6⟩ := h1
  have h10 := Fr_trans hF0 h5 (by decide +kernel)
  refine En_Ps 2 (pc' := 9) (lv' := [(2, .int z9), (0, .ref 3), (1, .int a)]) (st' := [.ref 3]) rfl ?_
  refine En_getK (j := 5) h8 rfl rfl rfl (by decide +kernel : TG 3 = 3) (by decide +kernel) ?_
  refine En_iNe _ rfl rfl (fun h11 => ?_) (fun h11 => ?_)
  · refine En_Ps 1 (pc' := 29) (lv' := [(2, .int z9), (0, .ref 3), (1, .int a)]) (st' := [.ref 3]) rfl ?_
    refine En_getK (j := 5) h8 rfl rfl rfl (by decide +kernel : TG 3 = 3) (by decide +kernel) ?_
    refine En_iNe _ rfl rfl (fun h12 => ?_) (fun hx => by exfalso; omega)
    refine En_Ps 1 (pc' := 40) (lv' := [(2, .int z9), (0, .ref 3), (1, .int a)]) (st' := [.int z9]) rfl ?_
    exact En_ret (v := some (.int z9)) rfl rfl rfl ⟨h4, h10, z7, h8, z9, rfl, (by omega)⟩
  · refine En_Ps 4 (pc' := 19) (lv' := [(2, .int z9), (0, .ref 3), (1, .int a)]) (st' := [.int ((a ^^^ ((Int32.ofInt (-1))))), .int z9]) rfl ?_
    refine En_nam (fun z13 h14 => ?_)
    refine En_Ps 1 (pc' := 20) (lv' := [(2, .int z9), (0, .ref 3), (1, .int a)]) (st' := [.int ((z9 &&& z13))]) rfl ?_
    refine En_nam (fun z15 h16 => ?_)
    obtain ⟨h17, h18⟩ := andn_rng h16 rfl (by omega) (by omega : _ ≤ (15 : Int))
    refine En_iEq _ rfl rfl (fun h19 => ?_) (fun h19 => ?_)
    · refine En_Ps 1 (pc' := 29) (lv' := [(2, .int z9), (0, .ref 3), (1, .int a)]) (st' := [.ref 3]) rfl ?_
      refine En_getK (j := 5) h8 rfl rfl rfl (by decide +kernel : TG 3 = 3) (by decide +kernel) ?_
      refine En_iNe _ rfl rfl (fun hx => by exfalso; omega) (fun h20 => ?_)
      refine En_Ps 1 (pc' := 36) (lv' := [(2, .int z9), (0, .ref 3), (1, .int a)]) (st' := [.ref 3]) rfl ?_
      refine En_callV rfl rfl rfl rfl rfl rfl rfl rfl (by decide +kernel : TG 3 = 3) (by decide +kernel) rfl (c_72 σ3 h4) (by decide) (by decide) (fun v22 σ23 h21 => ?_)
      obtain ⟨h24, h25, rfl, h26⟩ := h21
      have h27 := Fr_trans h10 h25 (by decide +kernel)
      refine En_Ps 1 (pc' := 40) (lv' := [(2, .int z9), (0, .ref 3), (1, .int a)]) (st' := [.int z9]) rfl ?_
      exact En_ret (v := some (.int z9)) rfl rfl rfl ⟨h24, h27, z7, ((h25 _ _ (inW (by decide +kernel : TG 3 = 3) (by decide +kernel))).trans h8), z9, rfl, (by omega)⟩
    · refine En_Ps 2 (pc' := 25) (lv' := [(2, .int z9), (0, .ref 3), (1, .int a)]) (st' := [.int ((Int32.ofInt 2)), .ref 3]) rfl ?_
      have := (by decide : ((Int32.ofInt 2)).toInt = 2)
      refine En_callV rfl rfl rfl rfl rfl rfl rfl rfl (by decide +kernel : TG 3 = 3) (by decide +kernel) rfl (c_54 σ3 h4 ((Int32.ofInt 2)) (geI (by decide : (Int32.ofInt 2).toInt = 2) (by omega)) (leI (by decide : (Int32.ofInt 2).toInt = 2) (by omega)) z7 h8) (by decide) (by decide) (fun v29 σ30 h28 => ?_)
      obtain ⟨h31, h32, z34, h35, rfl, h33⟩ := h28
      have h36 := Fr_trans h10 h32 (by decide +kernel)
      refine En_Ps 1 (pc' := 29) (lv' := [(2, .int z9), (0, .ref 3), (1, .int a)]) (st' := [.ref 3]) rfl ?_
      refine En_getK (j := 5) h35 rfl rfl rfl (by decide +kernel : TG 3 = 3) (by decide +kernel) ?_
      refine En_iNe _ rfl rfl (fun h37 => ?_) (fun hx => by exfalso; omega)
      refine En_Ps 1 (pc' := 40) (lv' := [(2, .int z9), (0, .ref 3), (1, .int a)]) (st' := [.int z9]) rfl ?_
      exact En_ret (v := some (.int z9)) rfl rfl rfl ⟨h31, h36, z34, h35, z9, rfl, (by omega)⟩
/-- DoorSchool$Reader.readOwner(LDoorSchool$Plan;)V -/
abbrev P_68 (σ0 : SG) (a : Nat) (f : Int32) (sg : Int32) : PO := fun v σ => WT σ ∧ Fr [(3, 1), (3, 2), (3, 3), (3, 4), (3, 5), (3, 6), (18, 6), (18, 7)] σ0 σ ∧ ∃ f1 : Int32, (σ 3)[5]? = some (.int f1) ∧ v = none ∧ -f1.toInt ≤ 0 ∧ f1.toInt - 3 ≤ 0 ∧ -f1.toInt + f.toInt ≤ 0 ∧ f1.toInt - f.toInt - 3 ≤ 0 ∧ -f1.toInt + sg.toInt - 4 ≤ 0 ∧ f1.toInt - sg.toInt - 3 ≤ 0 ∧ f.toInt - f1.toInt ≤ 0
set_option maxRecDepth 10000 in
set_option maxHeartbeats 4000000 in
theorem c_68 (σ0 : SG) (hσ0 : WT σ0) (a : Nat) (ha : TG a = 18) (f : Int32) (h_f : (σ0 3)[5]? = some (.int f)) (sg : Int32) (h_sg : (σ0 a)[1]? = some (.int sg)) (hp0 : -sg.toInt ≤ 0) : En 3 66 none mr_68 (P_68 σ0 a f sg) 0 [(0, .ref 3), (1, .ref a)] [] σ0 := by
  obtain ⟨hl_f, hu_f⟩ := WT_int hσ0 (g := 3) (by decide +kernel) (by decide +kernel) (l := 0) (u := 3) (by decide +kernel) h_f
  obtain ⟨hl_sg, hu_sg⟩ := WT_int hσ0 (g := 18) ha (by decide +kernel) (l := (-1)) (u := 4) (by decide +kernel) h_sg
  have hF0 : Fr [(3, 1), (3, 2), (3, 3), (3, 4), (3, 5), (3, 6), (18, 6), (18, 7)] σ0 σ0 := Fr_rfl
  refine En_Ps 1 (pc' := 1) (lv' := [(0, .ref 3), (1, .ref a)]) (st' := [.ref 3]) rfl ?_
  refine En_callV rfl rfl rfl rfl rfl rfl rfl rfl (by decide +kernel : TG 3 = 3) (by decide +kernel) rfl (c_72 σ0 hσ0) (by decide) (by decide) (fun v2 σ3 h1 => ?_)
  obtain ⟨h4, h5, rfl, h6⟩ := h1
  have h7 := Fr_trans hF0 h5 (by decide +kernel)
  refine En_Ps 3 (pc' := 7) (lv' := [(0, .ref 3), (1, .ref a)]) (st' := [.ref a, .int ((Int32.ofInt 0)), .ref 3]) rfl ?_
  refine En_callV rfl rfl rfl rfl rfl rfl rfl rfl ha (by decide +kernel) rfl (c_51 σ3 h4 a ha sg ((h5 _ _ (inW ha (by decide +kernel))).trans h_sg) (by omega)) (by decide) (by decide) (fun v9 σ10 h8 => ?_)
  obtain ⟨h11, h12, z14, rfl, h13⟩ := h8
  have h15 := Fr_trans h7 h12 (by decide +kernel)
  refine En_Ps 2 (pc' := 12) (lv' := [(0, .ref 3), (1, .ref a)]) (st' := [.int ((z14 - ((Int32.ofInt 1)))), .int ((Int32.ofInt 0)), .ref 3]) rfl ?_
  refine En_top (subI rfl (by decide : (Int32.ofInt 1).toInt = 1) (by omega) (by omega)) (fun z16 h17 => ?_)
  have := (by decide : ((Int32.ofInt 0)).toInt = 0)
  refine En_callV rfl rfl rfl rfl rfl rfl rfl rfl (by decide +kernel : TG 3 = 3) (by decide +kernel) rfl (c_73 σ10 h11 ((Int32.ofInt 0)) z16 f ((h12 _ _ (inW (by decide +kernel : TG 3 = 3) (by decide +kernel))).trans ((h5 _ _ (inW (by decide +kernel : TG 3 = 3) (by decide +kernel))).trans h_f))) (by decide) (by decide) (fun v19 σ20 h18 => ?_)
  obtain ⟨h21, h22, z24, h25, z26, rfl, h23⟩ := h18
  have h27 := Fr_trans h15 h22 (by decide +kernel)
  refine En_Ps 3 (pc' := 18) (lv' := [(2, .int z26), (0, .ref 3), (1, .ref a)]) (st' := [.int z26, .ref 3]) rfl ?_
  refine En_callV rfl rfl rfl rfl rfl rfl rfl rfl (by decide +kernel : TG 3 = 3) (by decide +kernel) rfl (c_74 σ20 h21 z26 z24 h25) (by decide) (by decide) (fun v29 σ30 h28 => ?_)
  obtain ⟨h31, h32, z34, h35, z36, rfl, h33⟩ := h28
  have h37 := Fr_trans h27 h32 (by decide +kernel)
  refine En_Ps 2 (pc' := 23) (lv' := [(3, .int z36), (2, .int z26), (0, .ref 3), (1, .ref a)]) (st' := [.ref 3]) rfl ?_
  refine En_getK (j := 5) h35 rfl rfl rfl (by decide +kernel : TG 3 = 3) (by decide +kernel) ?_
  refine En_iNe _ rfl rfl (fun h38 => ?_) (fun h38 => ?_)
  · exact En_ret (v := none) rfl rfl rfl ⟨h31, h37, z34, h35, rfl, (by omega)⟩
  · refine En_Ps 2 (pc' := 31) (lv' := [(3, .int z36), (2, .int z26), (0, .ref 3), (1, .ref a)]) (st' := [.int z26, .ref a]) rfl ?_
    refine En_put (j := 6) rfl rfl rfl ha (by decide +kernel) rfl (vI (l := 0) (u := 15) (by decide +kernel) rfl (by omega) (by omega)) h31 h37 (by decide +kernel) (fun σ39 h40 h41 h42 h43 => ?_)
    refine En_Ps 2 (pc' := 36) (lv' := [(3, .int z36), (2, .int z26), (0, .ref 3), (1, .ref a)]) (st' := [.int z36, .ref a]) rfl ?_
    refine En_put (j := 7) rfl rfl rfl ha (by decide +kernel) rfl (vI (l := 0) (u := 15) (by decide +kernel) rfl (by omega) (by omega)) h40 h41 (by decide +kernel) (fun σ44 h45 h46 h47 h48 => ?_)
    exact En_ret (v := none) rfl rfl rfl ⟨h45, h46, z34, ((h48 _ _ (Or.inr (by decide))).trans ((h43 _ _ (Or.inr (by decide))).trans h35)), rfl, (by omega)⟩
/-- DoorSchool$Reader.readHouse(LDoorSchool$Plan;)V -/
abbrev P_66 (σ0 : SG) (a : Nat) (f : Int32) (sg : Int32) : PO := fun v σ => WT σ ∧ Fr [(3, 1), (3, 2), (3, 3), (3, 4), (3, 5), (3, 6), (18, 8), (23, 0), (24, 0)] σ0 σ ∧ ∃ f1 : Int32, (σ 3)[5]? = some (.int f1) ∧ v = none ∧ -f1.toInt ≤ 0 ∧ f1.toInt - 3 ≤ 0 ∧ -f1.toInt + f.toInt ≤ 0 ∧ f1.toInt - f.toInt - 3 ≤ 0 ∧ -f1.toInt + sg.toInt - 4 ≤ 0 ∧ f1.toInt - sg.toInt - 3 ≤ 0 ∧ f.toInt - f1.toInt ≤ 0
set_option maxRecDepth 10000 in
set_option maxHeartbeats 4000000 in
theorem c_66 (σ0 : SG) (hσ0 : WT σ0) (a : Nat) (ha : TG a = 18) (f : Int32) (h_f : (σ0 3)[5]? = some (.int f)) (sg : Int32) (h_sg : (σ0 a)[1]? = some (.int sg)) (hp0 : -sg.toInt ≤ 0) : En 3 66 none mr_66 (P_66 σ0 a f sg) 0 [(0, .ref 3), (1, .ref a)] [] σ0 := by
  obtain ⟨hl_f, hu_f⟩ := WT_int hσ0 (g := 3) (by decide +kernel) (by decide +kernel) (l := 0) (u := 3) (by decide +kernel) h_f
  obtain ⟨hl_sg, hu_sg⟩ := WT_int hσ0 (g := 18) ha (by decide +kernel) (l := (-1)) (u := 4) (by decide +kernel) h_sg
  have hF0 : Fr [(3, 1), (3, 2), (3, 3), (3, 4), (3, 5), (3, 6), (18, 8), (23, 0), (24, 0)] σ0 σ0 := Fr_rfl
  refine En_Ps 1 (pc' := 1) (lv' := [(0, .ref 3), (1, .ref a)]) (st' := [.ref a]) rfl ?_
  refine En_getI (j := 8) (l := 0) (u := 4) rfl rfl rfl ha (by decide +kernel) hσ0 (by decide +kernel) (fun z2 h1 h3 h4 => ?_)
  refine En_Ps 1 (pc' := 5) (lv' := [(0, .ref 3), (1, .ref a)]) (st' := [.int ((Int32.ofInt 4)), .int z2]) rfl ?_
  refine En_icLt _ rfl (by decide : (Int32.ofInt 4).toInt = 4) rfl (fun h5 => ?_) (fun h5 => ?_)
  · refine En_Ps 1 (pc' := 15) (lv' := [(0, .ref 3), (1, .ref a)]) (st' := [.ref 3]) rfl ?_
    refine En_callV rfl rfl rfl rfl rfl rfl rfl rfl (by decide +kernel : TG 3 = 3) (by decide +kernel) rfl (c_72 σ0 hσ0) (by decide) (by decide) (fun v7 σ8 h6 => ?_)
    obtain ⟨h9, h10, rfl, h11⟩ := h6
    have h12 := Fr_trans hF0 h10 (by decide +kernel)
    refine En_Ps 3 (pc' := 21) (lv' := [(0, .ref 3), (1, .ref a)]) (st' := [.ref a, .int ((Int32.ofInt 0)), .ref 3]) rfl ?_
    refine En_callV rfl rfl rfl rfl rfl rfl rfl rfl ha (by decide +kernel) rfl (c_51 σ8 h9 a ha sg ((h10 _ _ (inW ha (by decide +kernel))).trans h_sg) (by omega)) (by decide) (by decide) (fun v14 σ15 h13 => ?_)
    obtain ⟨h16, h17, z19, rfl, h18⟩ := h13
    have h20 := Fr_trans h12 h17 (by decide +kernel)
    refine En_Ps 2 (pc' := 26) (lv' := [(0, .ref 3), (1, .ref a)]) (st' := [.int ((z19 - ((Int32.ofInt 1)))), .int ((Int32.ofInt 0)), .ref 3]) rfl ?_
    refine En_top (subI rfl (by decide : (Int32.ofInt 1).toInt = 1) (by omega) (by omega)) (fun z21 h22 => ?_)
    have := (by decide : ((Int32.ofInt 0)).toInt = 0)
    refine En_callV rfl rfl rfl rfl rfl rfl rfl rfl (by decide +kernel : TG 3 = 3) (by decide +kernel) rfl (c_73 σ15 h16 ((Int32.ofInt 0)) z21 f ((h17 _ _ (inW (by decide +kernel : TG 3 = 3) (by decide +kernel))).trans ((h10 _ _ (inW (by decide +kernel : TG 3 = 3) (by decide +kernel))).trans h_f))) (by decide) (by decide) (fun v24 σ25 h23 => ?_)
    obtain ⟨h26, h27, z29, h30, z31, rfl, h28⟩ := h23
    have h32 := Fr_trans h20 h27 (by decide +kernel)
    refine En_Ps 3 (pc' := 32) (lv' := [(2, .int z31), (0, .ref 3), (1, .ref a)]) (st' := [.int z31, .ref 3]) rfl ?_
    refine En_callV rfl rfl rfl rfl rfl rfl rfl rfl (by decide +kernel : TG 3 = 3) (by decide +kernel) rfl (c_74 σ25 h26 z31 z29 h30) (by decide) (by decide) (fun v34 σ35 h33 => ?_)
    obtain ⟨h36, h37, z39, h40, z41, rfl, h38⟩ := h33
    have h42 := Fr_trans h32 h37 (by decide +kernel)
    refine En_Ps 2 (pc' := 37) (lv' := [(3, .int z41), (2, .int z31), (0, .ref 3), (1, .ref a)]) (st' := [.ref 3]) rfl ?_
    refine En_getK (j := 5) h40 rfl rfl rfl (by decide +kernel : TG 3 = 3) (by decide +kernel) ?_
    refine En_iNe _ rfl rfl (fun h43 => ?_) (fun h43 => ?_)
    · exact En_ret (v := none) rfl rfl rfl ⟨h36, h42, z39, h40, rfl, (by omega)⟩
    · refine En_Ps 1 (pc' := 44) (lv' := [(3, .int z41), (2, .int z31), (0, .ref 3), (1, .ref a)]) (st' := [.ref a]) rfl ?_
      refine En_getR (j := 9) (g' := 23) (u := 0) rfl rfl rfl ha (by decide +kernel) h36 (by decide +kernel) (fun a45 h44 ha45 => ?_)
      refine En_Ps 1 (pc' := 48) (lv' := [(3, .int z41), (2, .int z31), (0, .ref 3), (1, .ref a)]) (st' := [.ref a, .ref a45]) rfl ?_
      refine En_getK (j := 8) ((h37 _ _ (inW ha (by decide +kernel))).trans ((h27 _ _ (inW ha (by decide +kernel))).trans ((h17 _ _ (inW ha (by decide +kernel))).trans ((h10 _ _ (inW ha (by decide +kernel))).trans h1)))) rfl rfl rfl ha (by decide +kernel) ?_
      refine En_Ps 1 (pc' := 52) (lv' := [(3, .int z41), (2, .int z31), (0, .ref 3), (1, .ref a)]) (st' := [.int z31, .int z2, .ref a45]) rfl ?_
      refine En_iast (l := 0) (u := 15) rfl rfl ha45 (by decide +kernel) (by omega) (lnI (by decide +kernel : LN _ = 4) (by omega)) (FTsgl (by decide +kernel)) (rngI rfl (by omega) (by omega)) h36 h42 (by decide +kernel) (fun σ46 h47 h48 h49 h50 => ?_)
      refine En_Ps 1 (pc' := 54) (lv' := [(3, .int z41), (2, .int z31), (0, .ref 3), (1, .ref a)]) (st' := [.ref a]) rfl ?_
      refine En_getR (j := 10) (g' := 24) (u := 0) rfl rfl rfl ha (by decide +kernel) h47 (by decide +kernel) (fun a52 h51 ha52 => ?_)
      refine En_Ps 1 (pc' := 58) (lv' := [(3, .int z41), (2, .int z31), (0, .ref 3), (1, .ref a)]) (st' := [.ref a, .ref a52]) rfl ?_
      refine En_getK (j := 8) ((h50 _ _ (Or.inl (neTG ha ha45 (by decide)))).trans ((h37 _ _ (inW ha (by decide +kernel))).trans ((h27 _ _ (inW ha (by decide +kernel))).trans ((h17 _ _ (inW ha (by decide +kernel))).trans ((h10 _ _ (inW ha (by decide +kernel))).trans h1))))) rfl rfl rfl ha (by decide +kernel) ?_
      refine En_Ps 1 (pc' := 62) (lv' := [(3, .int z41), (2, .int z31), (0, .ref 3), (1, .ref a)]) (st' := [.int z41, .int z2, .ref a52]) rfl ?_
      refine En_iast (l := 0) (u := 15) rfl rfl ha52 (by decide +kernel) (by omega) (lnI (by decide +kernel : LN _ = 4) (by omega)) (FTsgl (by decide +kernel)) (rngI rfl (by omega) (by omega)) h47 h48 (by decide +kernel) (fun σ53 h54 h55 h56 h57 => ?_)
      refine En_Ps 2 (pc' := 65) (lv' := [(3, .int z41), (2, .int z31), (0, .ref 3), (1, .ref a)]) (st' := [.ref a, .ref a]) rfl ?_
      refine En_getK (j := 8) ((h57 _ _ (Or.inl (neTG ha ha52 (by decide)))).trans ((h50 _ _ (Or.inl (neTG ha ha45 (by decide)))).trans ((h37 _ _ (inW ha (by decide +kernel))).trans ((h27 _ _ (inW ha (by decide +kernel))).trans ((h17 _ _ (inW ha (by decide +kernel))).trans ((h10 _ _ (inW ha (by decide +kernel))).trans h1)))))) rfl rfl rfl ha (by decide +kernel) ?_
      refine En_Ps 2 (pc' := 70) (lv' := [(3, .int z41), (2, .int z31), (0, .ref 3), (1, .ref a)]) (st' := [.int ((z2 + ((Int32.ofInt 1)))), .ref a]) rfl ?_
      refine En_top (addI rfl (by decide : (Int32.ofInt 1).toInt = 1) (by omega) (by omega)) (fun z58 h59 => ?_)
      refine En_put (j := 8) rfl rfl rfl ha (by decide +kernel) rfl (vI (l := 0) (u := 4) (by decide +kernel) rfl (by omega) (by omega)) h54 h55 (by decide +kernel) (fun σ60 h61 h62 h63 h64 => ?_)
      exact En_ret (v := none) rfl rfl rfl ⟨h61, h62, z39, ((h64 _ _ (Or.inr (by decide))).trans ((h57 _ _ (Or.inl (neTG (by decide +kernel : TG 3 = 3) ha52 (by decide)))).trans ((h50 _ _ (Or.inl (neTG (by decide +kernel : TG 3 = 3) ha45 (by decide)))).trans h40))), rfl, (by omega)⟩
  · refine En_Ps 2 (pc' := 10) (lv' := [(0, .ref 3), (1, .ref a)]) (st' := [.int ((Int32.ofInt 3)), .ref 3]) rfl ?_
    have := (by decide : ((Int32.ofInt 3)).toInt = 3)
    refine En_callV rfl rfl rfl rfl rfl rfl rfl rfl (by decide +kernel : TG 3 = 3) (by decide +kernel) rfl (c_54 σ0 hσ0 ((Int32.ofInt 3)) (geI (by decide : (Int32.ofInt 3).toInt = 3) (by omega)) (leI (by decide : (Int32.ofInt 3).toInt = 3) (by omega)) f h_f) (by decide) (by decide) (fun v66 σ67 h65 => ?_)
    obtain ⟨h68, h69, z71, h72, rfl, h70⟩ := h65
    have h73 := Fr_trans hF0 h69 (by decide +kernel)
    exact En_ret (v := none) rfl rfl rfl ⟨h68, h73, z71, h72, rfl, (by omega)⟩
/-- DoorSchool$Reader.readCourse(LDoorSchool$Plan;)V -/
abbrev P_62 (σ0 : SG) (a : Nat) (f : Int32) (sg : Int32) : PO := fun v σ => WT σ ∧ Fr [(3, 1), (3, 2), (3, 3), (3, 4), (3, 5), (3, 6), (18, 11), (25, 0)] σ0 σ ∧ ∃ f1 : Int32, (σ 3)[5]? = some (.int f1) ∧ v = none ∧ -f1.toInt ≤ 0 ∧ f1.toInt - 3 ≤ 0 ∧ -f1.toInt + f.toInt ≤ 0 ∧ f1.toInt - f.toInt - 3 ≤ 0 ∧ -f1.toInt + sg.toInt - 4 ≤ 0 ∧ f1.toInt - sg.toInt - 3 ≤ 0 ∧ f.toInt - f1.toInt ≤ 0
set_option maxRecDepth 10000 in
set_option maxHeartbeats 4000000 in
theorem c_62 (σ0 : SG) (hσ0 : WT σ0) (a : Nat) (ha : TG a = 18) (f : Int32) (h_f : (σ0 3)[5]? = some (.int f)) (sg : Int32) (h_sg : (σ0 a)[1]? = some (.int sg)) (hp0 : -sg.toInt ≤ 0) : En 5 112 none mr_62 (P_62 σ0 a f sg) 0 [(0, .ref 3), (1, .ref a)] [] σ0 := by
  obtain ⟨hl_f, hu_f⟩ := WT_int hσ0 (g := 3) (by decide +kernel) (by decide +kernel) (l := 0) (u := 3) (by decide +kernel) h_f
  obtain ⟨hl_sg, hu_sg⟩ := WT_int hσ0 (g := 18) ha (by decide +kernel) (l := (-1)) (u := 4) (by decide +kernel) h_sg
  have hF0 : Fr [(3, 1), (3, 2), (3, 3), (3, 4), (3, 5), (3, 6), (18, 11), (25, 0)] σ0 σ0 := Fr_rfl
  refine En_Ps 1 (pc' := 1) (lv' := [(0, .ref 3), (1, .ref a)]) (st' := [.ref a]) rfl ?_
  refine En_getI (j := 11) (l := 0) (u := 6) rfl rfl rfl ha (by decide +kernel) hσ0 (by decide +kernel) (fun z2 h1 h3 h4 => ?_)
  refine En_Ps 1 (pc' := 6) (lv' := [(0, .ref 3), (1, .ref a)]) (st' := [.int (((Int8.ofInt 6).toInt32)), .int z2]) rfl ?_
  refine En_icLt _ rfl (by decide : ((Int8.ofInt 6).toInt32).toInt = 6) rfl (fun h5 => ?_) (fun h5 => ?_)
  · refine En_Ps 1 (pc' := 16) (lv' := [(0, .ref 3), (1, .ref a)]) (st' := [.ref 3]) rfl ?_
    refine En_callV rfl rfl rfl rfl rfl rfl rfl rfl (by decide +kernel : TG 3 = 3) (by decide +kernel) rfl (c_72 σ0 hσ0) (by decide) (by decide) (fun v7 σ8 h6 => ?_)
    obtain ⟨h9, h10, rfl, h11⟩ := h6
    have h12 := Fr_trans hF0 h10 (by decide +kernel)
    refine En_Ps 2 (pc' := 21) (lv' := [(0, .ref 3), (1, .ref a)]) (st' := [.ref 3, .ref 3]) rfl ?_
    refine En_ldcS (i := 15) rfl rfl rfl ?_
    refine En_callV rfl rfl rfl rfl rfl rfl rfl rfl (by decide +kernel : TG 3 = 3) (by decide +kernel) rfl (c_71s15 σ8 h9) (by decide) (by decide) (fun v14 σ15 h13 => ?_)
    obtain ⟨h16, h17, z19, rfl, h18⟩ := h13
    have h20 := Fr_trans h12 h17 (by decide +kernel)
    refine En_callV rfl rfl rfl rfl rfl rfl rfl rfl (by decide +kernel : TG 3 = 3) (by decide +kernel) rfl (c_59 σ15 h16 z19 (geI rfl (by omega)) (leI rfl (by omega)) f ((h17 _ _ (inW (by decide +kernel : TG 3 = 3) (by decide +kernel))).trans ((h10 _ _ (inW (by decide +kernel : TG 3 = 3) (by decide +kernel))).trans h_f))) (by decide) (by decide) (fun v22 σ23 h21 => ?_)
    obtain ⟨h24, h25, z27, h28, rfl, h26⟩ := h21
    have h29 := Fr_trans h20 h25 (by decide +kernel)
    refine En_Ps 3 (pc' := 33) (lv' := [(0, .ref 3), (1, .ref a)]) (st' := [.int (((Int8.ofInt 9).toInt32)), .int ((Int32.ofInt 1)), .ref 3]) rfl ?_
    have := (by decide : ((Int32.ofInt 1)).toInt = 1)
    have := (by decide : (((Int8.ofInt 9).toInt32)).toInt = 9)
    refine En_callV rfl rfl rfl rfl rfl rfl rfl rfl (by decide +kernel : TG 3 = 3) (by decide +kernel) rfl (c_73 σ23 h24 ((Int32.ofInt 1)) (((Int8.ofInt 9).toInt32)) z27 h28) (by decide) (by decide) (fun v31 σ32 h30 => ?_)
    obtain ⟨h33, h34, z36, h37, z38, rfl, h35⟩ := h30
    have h39 := Fr_trans h29 h34 (by decide +kernel)
    refine En_Ps 2 (pc' := 38) (lv' := [(2, .int z38), (0, .ref 3), (1, .ref a)]) (st' := [.ref 3]) rfl ?_
    refine En_getK (j := 5) h37 rfl rfl rfl (by decide +kernel : TG 3 = 3) (by decide +kernel) ?_
    refine En_iNe _ rfl rfl (fun h40 => ?_) (fun h40 => ?_)
    · exact En_ret (v := none) rfl rfl rfl ⟨h33, h39, z36, h37, rfl, (by omega)⟩
    · refine En_Ps 1 (pc' := 45) (lv' := [(2, .int z38), (0, .ref 3), (1, .ref a)]) (st' := [.ref a]) rfl ?_
      refine En_getR (j := 12) (g' := 25) (u := 0) rfl rfl rfl ha (by decide +kernel) h33 (by decide +kernel) (fun a42 h41 ha42 => ?_)
      refine En_Ps 1 (pc' := 49) (lv' := [(2, .int z38), (0, .ref 3), (1, .ref a)]) (st' := [.ref a, .ref a42]) rfl ?_
      refine En_getK (j := 11) ((h34 _ _ (inW ha (by decide +kernel))).trans ((h25 _ _ (inW ha (by decide +kernel))).trans ((h17 _ _ (inW ha (by decide +kernel))).trans ((h10 _ _ (inW ha (by decide +kernel))).trans h1)))) rfl rfl rfl ha (by decide +kernel) ?_
      refine En_Ps 1 (pc' := 53) (lv' := [(2, .int z38), (0, .ref 3), (1, .ref a)]) (st' := [.int z38, .int z2, .ref a42]) rfl ?_
      refine En_iast (l := 0) (u := 9) rfl rfl ha42 (by decide +kernel) (by omega) (lnI (by decide +kernel : LN _ = 6) (by omega)) (FTsgl (by decide +kernel)) (rngI rfl (by omega) (by omega)) h33 h39 (by decide +kernel) (fun σ43 h44 h45 h46 h47 => ?_)
      refine En_Ps 2 (pc' := 56) (lv' := [(2, .int z38), (0, .ref 3), (1, .ref a)]) (st' := [.ref a, .ref a]) rfl ?_
      refine En_getK (j := 11) ((h47 _ _ (Or.inl (neTG ha ha42 (by decide)))).trans ((h34 _ _ (inW ha (by decide +kernel))).trans ((h25 _ _ (inW ha (by decide +kernel))).trans ((h17 _ _ (inW ha (by decide +kernel))).trans ((h10 _ _ (inW ha (by decide +kernel))).trans h1))))) rfl rfl rfl ha (by decide +kernel) ?_
      refine En_Ps 2 (pc' := 61) (lv' := [(2, .int z38), (0, .ref 3), (1, .ref a)]) (st' := [.int ((z2 + ((Int32.ofInt 1)))), .ref a]) rfl ?_
      refine En_top (addI rfl (by decide : (Int32.ofInt 1).toInt = 1) (by omega) (by omega)) (fun z48 h49 => ?_)
      refine En_put (j := 11) rfl rfl rfl ha (by decide +kernel) rfl (vI (l := 0) (u := 6) (by decide +kernel) rfl (by omega) (by omega)) h44 h45 (by decide +kernel) (fun σ50 h51 h52 h53 h54 => ?_)
      exact En_ret (v := none) rfl rfl rfl ⟨h51, h52, z36, ((h54 _ _ (Or.inr (by decide))).trans ((h47 _ _ (Or.inl (neTG (by decide +kernel : TG 3 = 3) ha42 (by decide)))).trans h37)), rfl, (by omega)⟩
  · refine En_Ps 2 (pc' := 11) (lv' := [(0, .ref 3), (1, .ref a)]) (st' := [.int ((Int32.ofInt 3)), .ref 3]) rfl ?_
    have := (by decide : ((Int32.ofInt 3)).toInt = 3)
    refine En_callV rfl rfl rfl rfl rfl rfl rfl rfl (by decide +kernel : TG 3 = 3) (by decide +kernel) rfl (c_54 σ0 hσ0 ((Int32.ofInt 3)) (geI (by decide : (Int32.ofInt 3).toInt = 3) (by omega)) (leI (by decide : (Int32.ofInt 3).toInt = 3) (by omega)) f h_f) (by decide) (by decide) (fun v56 σ57 h55 => ?_)
    obtain ⟨h58, h59, z61, h62, rfl, h60⟩ := h55
    have h63 := Fr_trans hF0 h59 (by decide +kernel)
    exact En_ret (v := none) rfl rfl rfl ⟨h58, h63, z61, h62, rfl, (by omega)⟩
