/-- DoorSchoolModel.is(Ljava/lang/String;)Z -/
abbrev P_251s13 (σ0 : SG) : PO := fun v σ => WT σ ∧ Fr [] σ0 σ ∧ ∃ ret : Int32, v = some (.int ret) ∧ -ret.toInt ≤ 0 ∧ ret.toInt - 1 ≤ 0
set_option maxRecDepth 10000 in
set_option maxHeartbeats 4000000 in
theorem c_251s13 (σ0 : SG) (hσ0 : WT σ0) : En 4 90 none mr_251 (P_251s13 σ0) 0 [(0, .ref 159), (1, .retAddr 27)] [] σ0 := by
  have hF0 : Fr [] σ0 σ0 := Fr_rfl
  refine En_Ps 1 (pc' := 1) (lv' := [(0, .ref 159), (1, .retAddr 27)]) (st' := [.ref 159]) rfl ?_
  obtain ⟨z2, h1, h3, h4⟩ := WT_peekI hσ0 (by decide +kernel : TG 159 = 35) (by decide +kernel : FT 35 12 = (0, 0, 3)) (by decide +kernel)
  refine En_callV rfl rfl rfl rfl rfl rfl rfl rfl (by decide +kernel : TG 159 = 35) (by decide +kernel) rfl (c_237 σ0 hσ0 z2 h1) (by decide) (by decide) (fun v6 σ7 h5 => ?_)
  obtain ⟨h8, h9, z11, rfl, h10⟩ := h5
  have h12 := Fr_trans hF0 h9 (by decide +kernel)
  refine En_iEq _ rfl rfl (fun h13 => ?_) (fun h13 => ?_)
  · refine En_Ps 4 (pc' := 39) (lv' := [(3, .int ((Int32.ofInt 0))), (2, .int ((Int32.ofInt 0))), (0, .ref 159), (1, .retAddr 27)]) (st' := []) rfl ?_
    have key39 : ∀ (n39 : Nat) (σ16 : SG) (y14 : Int32) (y15 : Int32), WT σ16 → Fr [] σ0 σ16 → (σ16 159)[12]? = some (.int z2) → 0 ≤ y14.toInt → y14.toInt ≤ 0 → 0 ≤ y15.toInt → y15.toInt ≤ 0 → z2.toInt - y14.toInt < (n39 : Int) → En 4 90 none mr_251 (P_251s13 σ0) 39 [(0, .ref 159), (1, .retAddr 27), (2, .int y14), (3, .int y15)] [] σ16 := by
      intro n39
      induction n39 with
      | zero =>
        intro σ16 y14 y15 h17 h18 h19 h20 h21 h22 h23 h24
        exfalso; omega
      | succ n39 ih39 =>
        intro σ16 y14 y15 h17 h18 h19 h20 h21 h22 h23 h24
        refine En_Ps 2 (pc' := 41) (lv' := [(0, .ref 159), (1, .retAddr 27), (2, .int y14), (3, .int y15)]) (st' := [.retAddr 27, .int y15]) rfl ?_
        refine En_slen 13 5 rfl rfl (by decide) rfl ?_
        refine En_icGe _ rfl (by decide : (Int32.ofNat 5).toInt = 5) rfl (fun hx => by exfalso; omega) (fun h25 => ?_)
        refine En_Ps 1 (pc' := 48) (lv' := [(0, .ref 159), (1, .retAddr 27), (2, .int y14), (3, .int y15)]) (st' := [.int y14]) rfl ?_
        refine En_iEq _ rfl rfl (fun h26 => ?_) (fun hx => by exfalso; omega)
        refine En_Ps 1 (pc' := 83) (lv' := [(0, .ref 159), (1, .retAddr 27), (2, .int y14), (3, .int y15)]) (st' := [.int y14]) rfl ?_
        exact En_ret (v := some (.int y14)) rfl rfl (retZ rfl rfl (by omega) (by omega)) ⟨h17, h18, y14, rfl, (by omega)⟩
    have := (by decide : (Int32.ofInt 0).toInt = 0)
    have := (by decide : (Int32.ofInt 0).toInt = 0)
    refine En_lv (lv := [(0, .ref 159), (1, .retAddr 27), (2, .int ((Int32.ofInt 0))), (3, .int ((Int32.ofInt 0)))]) ⟨rfl, rfl, rfl, rfl, trivial⟩ ?_
    exact key39 (Int.toNat (z2.toInt) + 1) σ7 ((Int32.ofInt 0)) ((Int32.ofInt 0)) h8 h12 ((h9 _ _ (inW (by decide +kernel : TG 159 = 35) (by decide +kernel))).trans h1) (by omega) (by omega) (by omega) (by omega) (by omega)
  · refine En_Ps 1 (pc' := 8) (lv' := [(0, .ref 159), (1, .retAddr 27)]) (st' := [.ref 159]) rfl ?_
    refine En_getI (j := 10) (l := 0) (u := 4) rfl rfl rfl (by decide +kernel : TG 159 = 35) (by decide +kernel) h8 (by decide +kernel) (fun z28 h27 h29 h30 => ?_)
    refine En_Ps 1 (pc' := 12) (lv' := [(0, .ref 159), (1, .retAddr 27)]) (st' := [.int ((Int32.ofInt 1)), .int z28]) rfl ?_
    refine En_icNe _ rfl (by decide : (Int32.ofInt 1).toInt = 1) rfl (fun h31 => ?_) (fun h31 => ?_)
    · refine En_Ps 4 (pc' := 39) (lv' := [(3, .int ((Int32.ofInt 0))), (2, .int ((Int32.ofInt 0))), (0, .ref 159), (1, .retAddr 27)]) (st' := []) rfl ?_
      have key39 : ∀ (n39 : Nat) (σ34 : SG) (y32 : Int32) (y33 : Int32), WT σ34 → Fr [] σ0 σ34 → (σ34 159)[12]? = some (.int z2) → (σ34 159)[10]? = some (.int z28) → 0 ≤ y32.toInt → y32.toInt ≤ 0 → 0 ≤ y33.toInt → y33.toInt ≤ 0 → z2.toInt - y32.toInt < (n39 : Int) → En 4 90 none mr_251 (P_251s13 σ0) 39 [(0, .ref 159), (1, .retAddr 27), (2, .int y32), (3, .int y33)] [] σ34 := by
        intro n39
        induction n39 with
        | zero =>
          intro σ34 y32 y33 h35 h36 h37 h38 h39 h40 h41 h42 h43
          exfalso; omega
        | succ n39 ih39 =>
          intro σ34 y32 y33 h35 h36 h37 h38 h39 h40 h41 h42 h43
          refine En_Ps 2 (pc' := 41) (lv' := [(0, .ref 159), (1, .retAddr 27), (2, .int y32), (3, .int y33)]) (st' := [.retAddr 27, .int y33]) rfl ?_
          refine En_slen 13 5 rfl rfl (by decide) rfl ?_
          refine En_icGe _ rfl (by decide : (Int32.ofNat 5).toInt = 5) rfl (fun hx => by exfalso; omega) (fun h44 => ?_)
          refine En_Ps 1 (pc' := 48) (lv' := [(0, .ref 159), (1, .retAddr 27), (2, .int y32), (3, .int y33)]) (st' := [.int y32]) rfl ?_
          refine En_iEq _ rfl rfl (fun h45 => ?_) (fun hx => by exfalso; omega)
          refine En_Ps 1 (pc' := 83) (lv' := [(0, .ref 159), (1, .retAddr 27), (2, .int y32), (3, .int y33)]) (st' := [.int y32]) rfl ?_
          exact En_ret (v := some (.int y32)) rfl rfl (retZ rfl rfl (by omega) (by omega)) ⟨h35, h36, y32, rfl, (by omega)⟩
      have := (by decide : (Int32.ofInt 0).toInt = 0)
      have := (by decide : (Int32.ofInt 0).toInt = 0)
      refine En_lv (lv := [(0, .ref 159), (1, .retAddr 27), (2, .int ((Int32.ofInt 0))), (3, .int ((Int32.ofInt 0)))]) ⟨rfl, rfl, rfl, rfl, trivial⟩ ?_
      exact key39 (Int.toNat (z2.toInt) + 1) σ7 ((Int32.ofInt 0)) ((Int32.ofInt 0)) h8 h12 ((h9 _ _ (inW (by decide +kernel : TG 159 = 35) (by decide +kernel))).trans h1) h27 (by omega) (by omega) (by omega) (by omega) (by omega)
    · refine En_Ps 1 (pc' := 16) (lv' := [(0, .ref 159), (1, .retAddr 27)]) (st' := [.ref 159]) rfl ?_
      refine En_getI (j := 8) (l := 0) (u := 1600) rfl rfl rfl (by decide +kernel : TG 159 = 35) (by decide +kernel) h8 (by decide +kernel) (fun z47 h46 h48 h49 => ?_)
      refine En_Ps 1 (pc' := 20) (lv' := [(0, .ref 159), (1, .retAddr 27)]) (st' := [.ref 159, .int z47]) rfl ?_
      refine En_getI (j := 9) (l := 0) (u := 1600) rfl rfl rfl (by decide +kernel : TG 159 = 35) (by decide +kernel) h8 (by decide +kernel) (fun z51 h50 h52 h53 => ?_)
      refine En_Ps 1 (pc' := 24) (lv' := [(0, .ref 159), (1, .retAddr 27)]) (st' := [.int ((z47 - z51))]) rfl ?_
      refine En_top (subI rfl rfl (by omega) (by omega)) (fun z54 h55 => ?_)
      refine En_Ps 1 (pc' := 25) (lv' := [(0, .ref 159), (1, .retAddr 27)]) (st' := [.retAddr 27, .int z54]) rfl ?_
      refine En_slen 13 5 rfl rfl (by decide) rfl ?_
      refine En_icNe _ rfl (by decide : (Int32.ofNat 5).toInt = 5) rfl (fun h56 => ?_) (fun h56 => ?_)
      · refine En_Ps 4 (pc' := 39) (lv' := [(3, .int ((Int32.ofInt 0))), (2, .int ((Int32.ofInt 0))), (0, .ref 159), (1, .retAddr 27)]) (st' := []) rfl ?_
        have key39 : ∀ (n39 : Nat) (σ59 : SG) (y57 : Int32) (y58 : Int32), WT σ59 → Fr [] σ0 σ59 → (σ59 159)[12]? = some (.int z2) → (σ59 159)[10]? = some (.int z28) → (σ59 159)[8]? = some (.int z47) → (σ59 159)[9]? = some (.int z51) → 0 ≤ y57.toInt → y57.toInt ≤ 0 → 0 ≤ y58.toInt → y58.toInt ≤ 0 → z2.toInt - y57.toInt < (n39 : Int) → En 4 90 none mr_251 (P_251s13 σ0) 39 [(0, .ref 159), (1, .retAddr 27), (2, .int y57), (3, .int y58)] [] σ59 := by
          intro n39
          induction n39 with
          | zero =>
            intro σ59 y57 y58 h60 h61 h62 h63 h64 h65 h66 h67 h68 h69 h70
            exfalso; omega
          | succ n39 ih39 =>
            intro σ59 y57 y58 h60 h61 h62 h63 h64 h65 h66 h67 h68 h69 h70
            refine En_Ps 2 (pc' := 41) (lv' := [(0, .ref 159), (1, .retAddr 27), (2, .int y57), (3, .int y58)]) (st' := [.retAddr 27, .int y58]) rfl ?_
            refine En_slen 13 5 rfl rfl (by decide) rfl ?_
            refine En_icGe _ rfl (by decide : (Int32.ofNat 5).toInt = 5) rfl (fun hx => by exfalso; omega) (fun h71 => ?_)
            refine En_Ps 1 (pc' := 48) (lv' := [(0, .ref 159), (1, .retAddr 27), (2, .int y57), (3, .int y58)]) (st' := [.int y57]) rfl ?_
            refine En_iEq _ rfl rfl (fun h72 => ?_) (fun hx => by exfalso; omega)
            refine En_Ps 1 (pc' := 83) (lv' := [(0, .ref 159), (1, .retAddr 27), (2, .int y57), (3, .int y58)]) (st' := [.int y57]) rfl ?_
            exact En_ret (v := some (.int y57)) rfl rfl (retZ rfl rfl (by omega) (by omega)) ⟨h60, h61, y57, rfl, (by omega)⟩
        have := (by decide : (Int32.ofInt 0).toInt = 0)
        have := (by decide : (Int32.ofInt 0).toInt = 0)
        refine En_lv (lv := [(0, .ref 159), (1, .retAddr 27), (2, .int ((Int32.ofInt 0))), (3, .int ((Int32.ofInt 0)))]) ⟨rfl, rfl, rfl, rfl, trivial⟩ ?_
        exact key39 (Int.toNat (z2.toInt) + 1) σ7 ((Int32.ofInt 0)) ((Int32.ofInt 0)) h8 h12 ((h9 _ _ (inW (by decide +kernel : TG 159 = 35) (by decide +kernel))).trans h1) h27 h46 h50 (by omega) (by omega) (by omega) (by omega) (by omega)
      · refine En_Ps 5 (pc' := 39) (lv' := [(3, .int ((Int32.ofInt 0))), (2, .int ((Int32.ofInt 1))), (0, .ref 159), (1, .retAddr 27)]) (st' := []) rfl ?_
        have key39 : ∀ (n39 : Nat) (σ75 : SG) (y73 : Int32) (y74 : Int32), WT σ75 → Fr [] σ0 σ75 → (σ75 159)[12]? = some (.int z2) → (σ75 159)[10]? = some (.int z28) → (σ75 159)[8]? = some (.int z47) → (σ75 159)[9]? = some (.int z51) → 0 ≤ y73.toInt → y73.toInt ≤ 1 → 0 ≤ y74.toInt → y74.toInt ≤ 5 → z47.toInt - y74.toInt < (n39 : Int) → En 4 90 none mr_251 (P_251s13 σ0) 39 [(0, .ref 159), (1, .retAddr 27), (2, .int y73), (3, .int y74)] [] σ75 := by
          intro n39
          induction n39 with
          | zero =>
            intro σ75 y73 y74 h76 h77 h78 h79 h80 h81 h82 h83 h84 h85 h86
            exfalso; omega
          | succ n39 ih39 =>
            intro σ75 y73 y74 h76 h77 h78 h79 h80 h81 h82 h83 h84 h85 h86
            refine En_Ps 2 (pc' := 41) (lv' := [(0, .ref 159), (1, .retAddr 27), (2, .int y73), (3, .int y74)]) (st' := [.retAddr 27, .int y74]) rfl ?_
            refine En_slen 13 5 rfl rfl (by decide) rfl ?_
            refine En_icGe _ rfl (by decide : (Int32.ofNat 5).toInt = 5) rfl (fun h87 => ?_) (fun h87 => ?_)
            · refine En_Ps 1 (pc' := 83) (lv' := [(0, .ref 159), (1, .retAddr 27), (2, .int y73), (3, .int y74)]) (st' := [.int y73]) rfl ?_
              exact En_ret (v := some (.int y73)) rfl rfl (retZ rfl rfl (by omega) (by omega)) ⟨h76, h77, y73, rfl, (by omega)⟩
            · refine En_Ps 1 (pc' := 48) (lv' := [(0, .ref 159), (1, .retAddr 27), (2, .int y73), (3, .int y74)]) (st' := [.int y73]) rfl ?_
              refine En_iEq _ rfl rfl (fun h88 => ?_) (fun h88 => ?_)
              · refine En_Ps 1 (pc' := 83) (lv' := [(0, .ref 159), (1, .retAddr 27), (2, .int y73), (3, .int y74)]) (st' := [.int y73]) rfl ?_
                exact En_ret (v := some (.int y73)) rfl rfl (retZ rfl rfl (by omega) (by omega)) ⟨h76, h77, y73, rfl, (by omega)⟩
              · refine En_Ps 1 (pc' := 52) (lv' := [(0, .ref 159), (1, .retAddr 27), (2, .int y73), (3, .int y74)]) (st' := [.ref 159]) rfl ?_
                refine En_getU (j := 4) (u := 163) (g' := 39) (q := 0) rfl rfl rfl (by decide +kernel : TG 159 = 35) (by decide +kernel) h76 (by decide +kernel) (by decide +kernel) (fun h89 => ?_)
                refine En_Ps 1 (pc' := 56) (lv' := [(0, .ref 159), (1, .retAddr 27), (2, .int y73), (3, .int y74)]) (st' := [.ref 159, .ref 163]) rfl ?_
                refine En_getK (j := 9) h81 rfl rfl rfl (by decide +kernel : TG 159 = 35) (by decide +kernel) ?_
                refine En_Ps 2 (pc' := 61) (lv' := [(0, .ref 159), (1, .retAddr 27), (2, .int y73), (3, .int y74)]) (st' := [.int ((z51 + y74)), .ref 163]) rfl ?_
                refine En_top (addI rfl rfl (by omega) (by omega)) (fun z91 h92 => ?_)
                refine En_bald (l := (-128)) (u := 127) rfl rfl (by decide +kernel : TG 163 = 39) (by decide +kernel) h76 (by omega) (lnI (by decide +kernel : LN _ = 1600) (by omega)) (FTsgl (by decide +kernel)) (fun z94 h93 h95 h96 => ?_)
                refine En_Ps 2 (pc' := 64) (lv' := [(0, .ref 159), (1, .retAddr 27), (2, .int y73), (3, .int y74)]) (st' := [.int y74, .retAddr 27, .int z94]) rfl ?_
                refine En_schar 13 5 rfl rfl rfl (by decide) (by omega) (by omega) rfl (fun z97 h98 h99 => ?_)
                refine En_icNe _ rfl rfl rfl (fun h100 => ?_) (fun h100 => ?_)
                · refine En_Ps 3 (pc' := 79) (lv' := [(3, .int ((y74 + Int32.ofInt 1))), (2, .int ((Int32.ofInt 0))), (0, .ref 159), (1, .retAddr 27)]) (st' := []) rfl ?_
                  refine En_lv1 (addI rfl (by decide : (Int32.ofInt 1).toInt = 1) (by omega) (by omega)) (fun z101 h102 => ?_)
                  refine En_Ps 1 (pc' := 39) (lv' := [(3, .int z101), (2, .int ((Int32.ofInt 0))), (0, .ref 159), (1, .retAddr 27)]) (st' := []) rfl ?_
                  have := (by decide : (Int32.ofInt 0).toInt = 0)
                  refine En_lv (lv := [(0, .ref 159), (1, .retAddr 27), (2, .int ((Int32.ofInt 0))), (3, .int z101)]) ⟨rfl, rfl, rfl, rfl, trivial⟩ ?_
                  exact ih39 σ75 ((Int32.ofInt 0)) z101 h76 h77 h78 h79 h80 h81 (by omega) (by omega) (by omega) (by omega) (by omega)
                · refine En_Ps 4 (pc' := 79) (lv' := [(3, .int ((y74 + Int32.ofInt 1))), (2, .int ((Int32.ofInt 1))), (0, .ref 159), (1, .retAddr 27)]) (st' := []) rfl ?_
                  refine En_lv1 (addI rfl (by decide : (Int32.ofInt 1).toInt = 1) (by omega) (by omega)) (fun z103 h104 => ?_)
                  refine En_Ps 1 (pc' := 39) (lv' := [(3, .int z103), (2, .int ((Int32.ofInt 1))), (0, .ref 159), (1, .retAddr 27)]) (st' := []) rfl ?_
                  have := (by decide : (Int32.ofInt 1).toInt = 1)
                  refine En_lv (lv := [(0, .ref 159), (1, .retAddr 27), (2, .int ((Int32.ofInt 1))), (3, .int z103)]) ⟨rfl, rfl, rfl, rfl, trivial⟩ ?_
                  exact ih39 σ75 ((Int32.ofInt 1)) z103 h76 h77 h78 h79 h80 h81 (by omega) (by omega) (by omega) (by omega) (by omega)
        have := (by decide : (Int32.ofInt 1).toInt = 1)
        have := (by decide : (Int32.ofInt 0).toInt = 0)
        refine En_lv (lv := [(0, .ref 159), (1, .retAddr 27), (2, .int ((Int32.ofInt 1))), (3, .int ((Int32.ofInt 0)))]) ⟨rfl, rfl, rfl, rfl, trivial⟩ ?_
        exact key39 (Int.toNat (z47.toInt) + 1) σ7 ((Int32.ofInt 1)) ((Int32.ofInt 0)) h8 h12 ((h9 _ _ (inW (by decide +kernel : TG 159 = 35) (by decide +kernel))).trans h1) h27 h46 h50 (by omega) (by omega) (by omega) (by omega) (by omega)
/-- DoorSchoolModel.is(Ljava/lang/String;)Z -/
abbrev P_251s14 (σ0 : SG) : PO := fun v σ => WT σ ∧ Fr [] σ0 σ ∧ ∃ ret : Int32, v = some (.int ret) ∧ -ret.toInt ≤ 0 ∧ ret.toInt - 1 ≤ 0
set_option maxRecDepth 10000 in
set_option maxHeartbeats 4000000 in
theorem c_251s14 (σ0 : SG) (hσ0 : WT σ0) : En 4 90 none mr_251 (P_251s14 σ0) 0 [(0, .ref 159), (1, .retAddr 29)] [] σ0 := by
  have hF0 : Fr [] σ0 σ0 := Fr_rfl
  refine En_Ps 1 (pc' := 1) (lv' := [(0, .ref 159), (1, .retAddr 29)]) (st' := [.ref 159]) rfl ?_
  obtain ⟨z2, h1, h3, h4⟩ := WT_peekI hσ0 (by decide +kernel : TG 159 = 35) (by decide +kernel : FT 35 12 = (0, 0, 3)) (by decide +kernel)
  refine En_callV rfl rfl rfl rfl rfl rfl rfl rfl (by decide +kernel : TG 159 = 35) (by decide +kernel) rfl (c_237 σ0 hσ0 z2 h1) (by decide) (by decide) (fun v6 σ7 h5 => ?_)
  obtain ⟨h8, h9, z11, rfl, h10⟩ := h5
  have h12 := Fr_trans hF0 h9 (by decide +kernel)
  refine En_iEq _ rfl rfl (fun h13 => ?_) (fun h13 => ?_)
  · refine En_Ps 4 (pc' := 39) (lv' := [(3, .int ((Int32.ofInt 0))), (2, .int ((Int32.ofInt 0))), (0, .ref 159), (1, .retAddr 29)]) (st' := []) rfl ?_
    have key39 : ∀ (n39 : Nat) (σ16 : SG) (y14 : Int32) (y15 : Int32), WT σ16 → Fr [] σ0 σ16 → (σ16 159)[12]? = some (.int z2) → 0 ≤ y14.toInt → y14.toInt ≤ 0 → 0 ≤ y15.toInt → y15.toInt ≤ 0 → z2.toInt - y14.toInt < (n39 : Int) → En 4 90 none mr_251 (P_251s14 σ0) 39 [(0, .ref 159), (1, .retAddr 29), (2, .int y14), (3, .int y15)] [] σ16 := by
      intro n39
      induction n39 with
      | zero =>
        intro σ16 y14 y15 h17 h18 h19 h20 h21 h22 h23 h24
        exfalso; omega
      | succ n39 ih39 =>
        intro σ16 y14 y15 h17 h18 h19 h20 h21 h22 h23 h24
        refine En_Ps 2 (pc' := 41) (lv' := [(0, .ref 159), (1, .retAddr 29), (2, .int y14), (3, .int y15)]) (st' := [.retAddr 29, .int y15]) rfl ?_
        refine En_slen 14 5 rfl rfl (by decide) rfl ?_
        refine En_icGe _ rfl (by decide : (Int32.ofNat 5).toInt = 5) rfl (fun hx => by exfalso; omega) (fun h25 => ?_)
        refine En_Ps 1 (pc' := 48) (lv' := [(0, .ref 159), (1, .retAddr 29), (2, .int y14), (3, .int y15)]) (st' := [.int y14]) rfl ?_
        refine En_iEq _ rfl rfl (fun h26 => ?_) (fun hx => by exfalso; omega)
        refine En_Ps 1 (pc' := 83) (lv' := [(0, .ref 159), (1, .retAddr 29), (2, .int y14), (3, .int y15)]) (st' := [.int y14]) rfl ?_
        exact En_ret (v := some (.int y14)) rfl rfl (retZ rfl rfl (by omega) (by omega)) ⟨h17, h18, y14, rfl, (by omega)⟩
    have := (by decide : (Int32.ofInt 0).toInt = 0)
    have := (by decide : (Int32.ofInt 0).toInt = 0)
    refine En_lv (lv := [(0, .ref 159), (1, .retAddr 29), (2, .int ((Int32.ofInt 0))), (3, .int ((Int32.ofInt 0)))]) ⟨rfl, rfl, rfl, rfl, trivial⟩ ?_
    exact key39 (Int.toNat (z2.toInt) + 1) σ7 ((Int32.ofInt 0)) ((Int32.ofInt 0)) h8 h12 ((h9 _ _ (inW (by decide +kernel : TG 159 = 35) (by decide +kernel))).trans h1) (by omega) (by omega) (by omega) (by omega) (by omega)
  · refine En_Ps 1 (pc' := 8) (lv' := [(0, .ref 159), (1, .retAddr 29)]) (st' := [.ref 159]) rfl ?_
    refine En_getI (j := 10) (l := 0) (u := 4) rfl rfl rfl (by decide +kernel : TG 159 = 35) (by decide +kernel) h8 (by decide +kernel) (fun z28 h27 h29 h30 => ?_)
    refine En_Ps 1 (pc' := 12) (lv' := [(0, .ref 159), (1, .retAddr 29)]) (st' := [.int ((Int32.ofInt 1)), .int z28]) rfl ?_
    refine En_icNe _ rfl (by decide : (Int32.ofInt 1).toInt = 1) rfl (fun h31 => ?_) (fun h31 => ?_)
    · refine En_Ps 4 (pc' := 39) (lv' := [(3, .int ((Int32.ofInt 0))), (2, .int ((Int32.ofInt 0))), (0, .ref 159), (1, .retAddr 29)]) (st' := []) rfl ?_
      have key39 : ∀ (n39 : Nat) (σ34 : SG) (y32 : Int32) (y33 : Int32), WT σ34 → Fr [] σ0 σ34 → (σ34 159)[12]? = some (.int z2) → (σ34 159)[10]? = some (.int z28) → 0 ≤ y32.toInt → y32.toInt ≤ 0 → 0 ≤ y33.toInt → y33.toInt ≤ 0 → z2.toInt - y32.toInt < (n39 : Int) → En 4 90 none mr_251 (P_251s14 σ0) 39 [(0, .ref 159), (1, .retAddr 29), (2, .int y32), (3, .int y33)] [] σ34 := by
        intro n39
        induction n39 with
        | zero =>
          intro σ34 y32 y33 h35 h36 h37 h38 h39 h40 h41 h42 h43
          exfalso; omega
        | succ n39 ih39 =>
          intro σ34 y32 y33 h35 h36 h37 h38 h39 h40 h41 h42 h43
          refine En_Ps 2 (pc' := 41) (lv' := [(0, .ref 159), (1, .retAddr 29), (2, .int y32), (3, .int y33)]) (st' := [.retAddr 29, .int y33]) rfl ?_
          refine En_slen 14 5 rfl rfl (by decide) rfl ?_
          refine En_icGe _ rfl (by decide : (Int32.ofNat 5).toInt = 5) rfl (fun hx => by exfalso; omega) (fun h44 => ?_)
          refine En_Ps 1 (pc' := 48) (lv' := [(0, .ref 159), (1, .retAddr 29), (2, .int y32), (3, .int y33)]) (st' := [.int y32]) rfl ?_
          refine En_iEq _ rfl rfl (fun h45 => ?_) (fun hx => by exfalso; omega)
          refine En_Ps 1 (pc' := 83) (lv' := [(0, .ref 159), (1, .retAddr 29), (2, .int y32), (3, .int y33)]) (st' := [.int y32]) rfl ?_
          exact En_ret (v := some (.int y32)) rfl rfl (retZ rfl rfl (by omega) (by omega)) ⟨h35, h36, y32, rfl, (by omega)⟩
      have := (by decide : (Int32.ofInt 0).toInt = 0)
      have := (by decide : (Int32.ofInt 0).toInt = 0)
      refine En_lv (lv := [(0, .ref 159), (1, .retAddr 29), (2, .int ((Int32.ofInt 0))), (3, .int ((Int32.ofInt 0)))]) ⟨rfl, rfl, rfl, rfl, trivial⟩ ?_
      exact key39 (Int.toNat (z2.toInt) + 1) σ7 ((Int32.ofInt 0)) ((Int32.ofInt 0)) h8 h12 ((h9 _ _ (inW (by decide +kernel : TG 159 = 35) (by decide +kernel))).trans h1) h27 (by omega) (by omega) (by omega) (by omega) (by omega)
    · refine En_Ps 1 (pc' := 16) (lv' := [(0, .ref 159), (1, .retAddr 29)]) (st' := [.ref 159]) rfl ?_
      refine En_getI (j := 8) (l := 0) (u := 1600) rfl rfl rfl (by decide +kernel : TG 159 = 35) (by decide +kernel) h8 (by decide +kernel) (fun z47 h46 h48 h49 => ?_)
      refine En_Ps 1 (pc' := 20) (lv' := [(0, .ref 159), (1, .retAddr 29)]) (st' := [.ref 159, .int z47]) rfl ?_
      refine En_getI (j := 9) (l := 0) (u := 1600) rfl rfl rfl (by decide +kernel : TG 159 = 35) (by decide +kernel) h8 (by decide +kernel) (fun z51 h50 h52 h53 => ?_)
      refine En_Ps 1 (pc' := 24) (lv' := [(0, .ref 159), (1, .retAddr 29)]) (st' := [.int ((z47 - z51))]) rfl ?_
      refine En_top (subI rfl rfl (by omega) (by omega)) (fun z54 h55 => ?_)
      refine En_Ps 1 (pc' := 25) (lv' := [(0, .ref 159), (1, .retAddr 29)]) (st' := [.retAddr 29, .int z54]) rfl ?_
      refine En_slen 14 5 rfl rfl (by decide) rfl ?_
      refine En_icNe _ rfl (by decide : (Int32.ofNat 5).toInt = 5) rfl (fun h56 => ?_) (fun h56 => ?_)
      · refine En_Ps 4 (pc' := 39) (lv' := [(3, .int ((Int32.ofInt 0))), (2, .int ((Int32.ofInt 0))), (0, .ref 159), (1, .retAddr 29)]) (st' := []) rfl ?_
        have key39 : ∀ (n39 : Nat) (σ59 : SG) (y57 : Int32) (y58 : Int32), WT σ59 → Fr [] σ0 σ59 → (σ59 159)[12]? = some (.int z2) → (σ59 159)[10]? = some (.int z28) → (σ59 159)[8]? = some (.int z47) → (σ59 159)[9]? = some (.int z51) → 0 ≤ y57.toInt → y57.toInt ≤ 0 → 0 ≤ y58.toInt → y58.toInt ≤ 0 → z2.toInt - y57.toInt < (n39 : Int) → En 4 90 none mr_251 (P_251s14 σ0) 39 [(0, .ref 159), (1, .retAddr 29), (2, .int y57), (3, .int y58)] [] σ59 := by
          intro n39
          induction n39 with
          | zero =>
            intro σ59 y57 y58 h60 h61 h62 h63 h64 h65 h66 h67 h68 h69 h70
            exfalso; omega
          | succ n39 ih39 =>
            intro σ59 y57 y58 h60 h61 h62 h63 h64 h65 h66 h67 h68 h69 h70
            refine En_Ps 2 (pc' := 41) (lv' := [(0, .ref 159), (1, .retAddr 29), (2, .int y57), (3, .int y58)]) (st' := [.retAddr 29, .int y58]) rfl ?_
            refine En_slen 14 5 rfl rfl (by decide) rfl ?_
            refine En_icGe _ rfl (by decide : (Int32.ofNat 5).toInt = 5) rfl (fun hx => by exfalso; omega) (fun h71 => ?_)
            refine En_Ps 1 (pc' := 48) (lv' := [(0, .ref 159), (1, .retAddr 29), (2, .int y57), (3, .int y58)]) (st' := [.int y57]) rfl ?_
            refine En_iEq _ rfl rfl (fun h72 => ?_) (fun hx => by exfalso; omega)
            refine En_Ps 1 (pc' := 83) (lv' := [(0, .ref 159), (1, .retAddr 29), (2, .int y57), (3, .int y58)]) (st' := [.int y57]) rfl ?_
            exact En_ret (v := some (.int y57)) rfl rfl (retZ rfl rfl (by omega) (by omega)) ⟨h60, h61, y57, rfl, (by omega)⟩
        have := (by decide : (Int32.ofInt 0).toInt = 0)
        have := (by decide : (Int32.ofInt 0).toInt = 0)
        refine En_lv (lv := [(0, .ref 159), (1, .retAddr 29), (2, .int ((Int32.ofInt 0))), (3, .int ((Int32.ofInt 0)))]) ⟨rfl, rfl, rfl, rfl, trivial⟩ ?_
        exact key39 (Int.toNat (z2.toInt) + 1) σ7 ((Int32.ofInt 0)) ((Int32.ofInt 0)) h8 h12 ((h9 _ _ (inW (by decide +kernel : TG 159 = 35) (by decide +kernel))).trans h1) h27 h46 h50 (by omega) (by omega) (by omega) (by omega) (by omega)
      · refine En_Ps 5 (pc' := 39) (lv' := [(3, .int ((Int32.ofInt 0))), (2, .int ((Int32.ofInt 1))), (0, .ref 159), (1, .retAddr 29)]) (st' := []) rfl ?_
        have key39 : ∀ (n39 : Nat) (σ75 : SG) (y73 : Int32) (y74 : Int32), WT σ75 → Fr [] σ0 σ75 → (σ75 159)[12]? = some (.int z2) → (σ75 159)[10]? = some (.int z28) → (σ75 159)[8]? = some (.int z47) → (σ75 159)[9]? = some (.int z51) → 0 ≤ y73.toInt → y73.toInt ≤ 1 → 0 ≤ y74.toInt → y74.toInt ≤ 5 → z47.toInt - y74.toInt < (n39 : Int) → En 4 90 none mr_251 (P_251s14 σ0) 39 [(0, .ref 159), (1, .retAddr 29), (2, .int y73), (3, .int y74)] [] σ75 := by
          intro n39
          induction n39 with
          | zero =>
            intro σ75 y73 y74 h76 h77 h78 h79 h80 h81 h82 h83 h84 h85 h86
            exfalso; omega
          | succ n39 ih39 =>
            intro σ75 y73 y74 h76 h77 h78 h79 h80 h81 h82 h83 h84 h85 h86
            refine En_Ps 2 (pc' := 41) (lv' := [(0, .ref 159), (1, .retAddr 29), (2, .int y73), (3, .int y74)]) (st' := [.retAddr 29, .int y74]) rfl ?_
            refine En_slen 14 5 rfl rfl (by decide) rfl ?_
            refine En_icGe _ rfl (by decide : (Int32.ofNat 5).toInt = 5) rfl (fun h87 => ?_) (fun h87 => ?_)
            · refine En_Ps 1 (pc' := 83) (lv' := [(0, .ref 159), (1, .retAddr 29), (2, .int y73), (3, .int y74)]) (st' := [.int y73]) rfl ?_
              exact En_ret (v := some (.int y73)) rfl rfl (retZ rfl rfl (by omega) (by omega)) ⟨h76, h77, y73, rfl, (by omega)⟩
            · refine En_Ps 1 (pc' := 48) (lv' := [(0, .ref 159), (1, .retAddr 29), (2, .int y73), (3, .int y74)]) (st' := [.int y73]) rfl ?_
              refine En_iEq _ rfl rfl (fun h88 => ?_) (fun h88 => ?_)
              · refine En_Ps 1 (pc' := 83) (lv' := [(0, .ref 159), (1, .retAddr 29), (2, .int y73), (3, .int y74)]) (st' := [.int y73]) rfl ?_
                exact En_ret (v := some (.int y73)) rfl rfl (retZ rfl rfl (by omega) (by omega)) ⟨h76, h77, y73, rfl, (by omega)⟩
              · refine En_Ps 1 (pc' := 52) (lv' := [(0, .ref 159), (1, .retAddr 29), (2, .int y73), (3, .int y74)]) (st' := [.ref 159]) rfl ?_
                refine En_getU (j := 4) (u := 163) (g' := 39) (q := 0) rfl rfl rfl (by decide +kernel : TG 159 = 35) (by decide +kernel) h76 (by decide +kernel) (by decide +kernel) (fun h89 => ?_)
                refine En_Ps 1 (pc' := 56) (lv' := [(0, .ref 159), (1, .retAddr 29), (2, .int y73), (3, .int y74)]) (st' := [.ref 159, .ref 163]) rfl ?_
                refine En_getK (j := 9) h81 rfl rfl rfl (by decide +kernel : TG 159 = 35) (by decide +kernel) ?_
                refine En_Ps 2 (pc' := 61) (lv' := [(0, .ref 159), (1, .retAddr 29), (2, .int y73), (3, .int y74)]) (st' := [.int ((z51 + y74)), .ref 163]) rfl ?_
                refine En_top (addI rfl rfl (by omega) (by omega)) (fun z91 h92 => ?_)
                refine En_bald (l := (-128)) (u := 127) rfl rfl (by decide +kernel : TG 163 = 39) (by decide +kernel) h76 (by omega) (lnI (by decide +kernel : LN _ = 1600) (by omega)) (FTsgl (by decide +kernel)) (fun z94 h93 h95 h96 => ?_)
                refine En_Ps 2 (pc' := 64) (lv' := [(0, .ref 159), (1, .retAddr 29), (2, .int y73), (3, .int y74)]) (st' := [.int y74, .retAddr 29, .int z94]) rfl ?_
                refine En_schar 14 5 rfl rfl rfl (by decide) (by omega) (by omega) rfl (fun z97 h98 h99 => ?_)
                refine En_icNe _ rfl rfl rfl (fun h100 => ?_) (fun h100 => ?_)
                · refine En_Ps 3 (pc' := 79) (lv' := [(3, .int ((y74 + Int32.ofInt 1))), (2, .int ((Int32.ofInt 0))), (0, .ref 159), (1, .retAddr 29)]) (st' := []) rfl ?_
                  refine En_lv1 (addI rfl (by decide : (Int32.ofInt 1).toInt = 1) (by omega) (by omega)) (fun z101 h102 => ?_)
                  refine En_Ps 1 (pc' := 39) (lv' := [(3, .int z101), (2, .int ((Int32.ofInt 0))), (0, .ref 159), (1, .retAddr 29)]) (st' := []) rfl ?_
                  have := (by decide : (Int32.ofInt 0).toInt = 0)
                  refine En_lv (lv := [(0, .ref 159), (1, .retAddr 29), (2, .int ((Int32.ofInt 0))), (3, .int z101)]) ⟨rfl, rfl, rfl, rfl, trivial⟩ ?_
                  exact ih39 σ75 ((Int32.ofInt 0)) z101 h76 h77 h78 h79 h80 h81 (by omega) (by omega) (by omega) (by omega) (by omega)
                · refine En_Ps 4 (pc' := 79) (lv' := [(3, .int ((y74 + Int32.ofInt 1))), (2, .int ((Int32.ofInt 1))), (0, .ref 159), (1, .retAddr 29)]) (st' := []) rfl ?_
                  refine En_lv1 (addI rfl (by decide : (Int32.ofInt 1).toInt = 1) (by omega) (by omega)) (fun z103 h104 => ?_)
                  refine En_Ps 1 (pc' := 39) (lv' := [(3, .int z103), (2, .int ((Int32.ofInt 1))), (0, .ref 159), (1, .retAddr 29)]) (st' := []) rfl ?_
                  have := (by decide : (Int32.ofInt 1).toInt = 1)
                  refine En_lv (lv := [(0, .ref 159), (1, .retAddr 29), (2, .int ((Int32.ofInt 1))), (3, .int z103)]) ⟨rfl, rfl, rfl, rfl, trivial⟩ ?_
                  exact ih39 σ75 ((Int32.ofInt 1)) z103 h76 h77 h78 h79 h80 h81 (by omega) (by omega) (by omega) (by omega) (by omega)
        have := (by decide : (Int32.ofInt 1).toInt = 1)
        have := (by decide : (Int32.ofInt 0).toInt = 0)
        refine En_lv (lv := [(0, .ref 159), (1, .retAddr 29), (2, .int ((Int32.ofInt 1))), (3, .int ((Int32.ofInt 0)))]) ⟨rfl, rfl, rfl, rfl, trivial⟩ ?_
        exact key39 (Int.toNat (z47.toInt) + 1) σ7 ((Int32.ofInt 1)) ((Int32.ofInt 0)) h8 h12 ((h9 _ _ (inW (by decide +kernel : TG 159 = 35) (by decide +kernel))).trans h1) h27 h46 h50 (by omega) (by omega) (by omega) (by omega) (by omega)
/-- DoorSchoolModel.is(Ljava/lang/String;)Z -/
abbrev P_251s15 (σ0 : SG) : PO := fun v σ => WT σ ∧ Fr [] σ0 σ ∧ ∃ ret : Int32, v = some (.int ret) ∧ -ret.toInt ≤ 0 ∧ ret.toInt - 1 ≤ 0
set_option maxRecDepth 10000 in
set_option maxHeartbeats 4000000 in
theorem c_251s15 (σ0 : SG) (hσ0 : WT σ0) : En 4 90 none mr_251 (P_251s15 σ0) 0 [(0, .ref 159), (1, .retAddr 31)] [] σ0 := by
  have hF0 : Fr [] σ0 σ0 := Fr_rfl
  refine En_Ps 1 (pc' := 1) (lv' := [(0, .ref 159), (1, .retAddr 31)]) (st' := [.ref 159]) rfl ?_
  obtain ⟨z2, h1, h3, h4⟩ := WT_peekI hσ0 (by decide +kernel : TG 159 = 35) (by decide +kernel : FT 35 12 = (0, 0, 3)) (by decide +kernel)
  refine En_callV rfl rfl rfl rfl rfl rfl rfl rfl (by decide +kernel : TG 159 = 35) (by decide +kernel) rfl (c_237 σ0 hσ0 z2 h1) (by decide) (by decide) (fun v6 σ7 h5 => ?_)
  obtain ⟨h8, h9, z11, rfl, h10⟩ := h5
  have h12 := Fr_trans hF0 h9 (by decide +kernel)
  refine En_iEq _ rfl rfl (fun h13 => ?_) (fun h13 => ?_)
  · refine En_Ps 4 (pc' := 39) (lv' := [(3, .int ((Int32.ofInt 0))), (2, .int ((Int32.ofInt 0))), (0, .ref 159), (1, .retAddr 31)]) (st' := []) rfl ?_
    have key39 : ∀ (n39 : Nat) (σ16 : SG) (y14 : Int32) (y15 : Int32), WT σ16 → Fr [] σ0 σ16 → (σ16 159)[12]? = some (.int z2) → 0 ≤ y14.toInt → y14.toInt ≤ 0 → 0 ≤ y15.toInt → y15.toInt ≤ 0 → z2.toInt - y14.toInt < (n39 : Int) → En 4 90 none mr_251 (P_251s15 σ0) 39 [(0, .ref 159), (1, .retAddr 31), (2, .int y14), (3, .int y15)] [] σ16 := by
      intro n39
      induction n39 with
      | zero =>
        intro σ16 y14 y15 h17 h18 h19 h20 h21 h22 h23 h24
        exfalso; omega
      | succ n39 ih39 =>
        intro σ16 y14 y15 h17 h18 h19 h20 h21 h22 h23 h24
        refine En_Ps 2 (pc' := 41) (lv' := [(0, .ref 159), (1, .retAddr 31), (2, .int y14), (3, .int y15)]) (st' := [.retAddr 31, .int y15]) rfl ?_
        refine En_slen 15 5 rfl rfl (by decide) rfl ?_
        refine En_icGe _ rfl (by decide : (Int32.ofNat 5).toInt = 5) rfl (fun hx => by exfalso; omega) (fun h25 => ?_)
        refine En_Ps 1 (pc' := 48) (lv' := [(0, .ref 159), (1, .retAddr 31), (2, .int y14), (3, .int y15)]) (st' := [.int y14]) rfl ?_
        refine En_iEq _ rfl rfl (fun h26 => ?_) (fun hx => by exfalso; omega)
        refine En_Ps 1 (pc' := 83) (lv' := [(0, .ref 159), (1, .retAddr 31), (2, .int y14), (3, .int y15)]) (st' := [.int y14]) rfl ?_
        exact En_ret (v := some (.int y14)) rfl rfl (retZ rfl rfl (by omega) (by omega)) ⟨h17, h18, y14, rfl, (by omega)⟩
    have := (by decide : (Int32.ofInt 0).toInt = 0)
    have := (by decide : (Int32.ofInt 0).toInt = 0)
    refine En_lv (lv := [(0, .ref 159), (1, .retAddr 31), (2, .int ((Int32.ofInt 0))), (3, .int ((Int32.ofInt 0)))]) ⟨rfl, rfl, rfl, rfl, trivial⟩ ?_
    exact key39 (Int.toNat (z2.toInt) + 1) σ7 ((Int32.ofInt 0)) ((Int32.ofInt 0)) h8 h12 ((h9 _ _ (inW (by decide +kernel : TG 159 = 35) (by decide +kernel))).trans h1) (by omega) (by omega) (by omega) (by omega) (by omega)
  · refine En_Ps 1 (pc' := 8) (lv' := [(0, .ref 159), (1, .retAddr 31)]) (st' := [.ref 159]) rfl ?_
    refine En_getI (j := 10) (l := 0) (u := 4) rfl rfl rfl (by decide +kernel : TG 159 = 35) (by decide +kernel) h8 (by decide +kernel) (fun z28 h27 h29 h30 => ?_)
    refine En_Ps 1 (pc' := 12) (lv' := [(0, .ref 159), (1, .retAddr 31)]) (st' := [.int ((Int32.ofInt 1)), .int z28]) rfl ?_
    refine En_icNe _ rfl (by decide : (Int32.ofInt 1).toInt = 1) rfl (fun h31 => ?_) (fun h31 => ?_)
    · refine En_Ps 4 (pc' := 39) (lv' := [(3, .int ((Int32.ofInt 0))), (2, .int ((Int32.ofInt 0))), (0, .ref 159), (1, .retAddr 31)]) (st' := []) rfl ?_
      have key39 : ∀ (n39 : Nat) (σ34 : SG) (y32 : Int32) (y33 : Int32), WT σ34 → Fr [] σ0 σ34 → (σ34 159)[12]? = some (.int z2) → (σ34 159)[10]? = some (.int z28) → 0 ≤ y32.toInt → y32.toInt ≤ 0 → 0 ≤ y33.toInt → y33.toInt ≤ 0 → z2.toInt - y32.toInt < (n39 : Int) → En 4 90 none mr_251 (P_251s15 σ0) 39 [(0, .ref 159), (1, .retAddr 31), (2, .int y32), (3, .int y33)] [] σ34 := by
        intro n39
        induction n39 with
        | zero =>
          intro σ34 y32 y33 h35 h36 h37 h38 h39 h40 h41 h42 h43
          exfalso; omega
        | succ n39 ih39 =>
          intro σ34 y32 y33 h35 h36 h37 h38 h39 h40 h41 h42 h43
          refine En_Ps 2 (pc' := 41) (lv' := [(0, .ref 159), (1, .retAddr 31), (2, .int y32), (3, .int y33)]) (st' := [.retAddr 31, .int y33]) rfl ?_
          refine En_slen 15 5 rfl rfl (by decide) rfl ?_
          refine En_icGe _ rfl (by decide : (Int32.ofNat 5).toInt = 5) rfl (fun hx => by exfalso; omega) (fun h44 => ?_)
          refine En_Ps 1 (pc' := 48) (lv' := [(0, .ref 159), (1, .retAddr 31), (2, .int y32), (3, .int y33)]) (st' := [.int y32]) rfl ?_
          refine En_iEq _ rfl rfl (fun h45 => ?_) (fun hx => by exfalso; omega)
          refine En_Ps 1 (pc' := 83) (lv' := [(0, .ref 159), (1, .retAddr 31), (2, .int y32), (3, .int y33)]) (st' := [.int y32]) rfl ?_
          exact En_ret (v := some (.int y32)) rfl rfl (retZ rfl rfl (by omega) (by omega)) ⟨h35, h36, y32, rfl, (by omega)⟩
      have := (by decide : (Int32.ofInt 0).toInt = 0)
      have := (by decide : (Int32.ofInt 0).toInt = 0)
      refine En_lv (lv := [(0, .ref 159), (1, .retAddr 31), (2, .int ((Int32.ofInt 0))), (3, .int ((Int32.ofInt 0)))]) ⟨rfl, rfl, rfl, rfl, trivial⟩ ?_
      exact key39 (Int.toNat (z2.toInt) + 1) σ7 ((Int32.ofInt 0)) ((Int32.ofInt 0)) h8 h12 ((h9 _ _ (inW (by decide +kernel : TG 159 = 35) (by decide +kernel))).trans h1) h27 (by omega) (by omega) (by omega) (by omega) (by omega)
    · refine En_Ps 1 (pc' := 16) (lv' := [(0, .ref 159), (1, .retAddr 31)]) (st' := [.ref 159]) rfl ?_
      refine En_getI (j := 8) (l := 0) (u := 1600) rfl rfl rfl (by decide +kernel : TG 159 = 35) (by decide +kernel) h8 (by decide +kernel) (fun z47 h46 h48 h49 => ?_)
      refine En_Ps 1 (pc' := 20) (lv' := [(0, .ref 159), (1, .retAddr 31)]) (st' := [.ref 159, .int z47]) rfl ?_
      refine En_getI (j := 9) (l := 0) (u := 1600) rfl rfl rfl (by decide +kernel : TG 159 = 35) (by decide +kernel) h8 (by decide +kernel) (fun z51 h50 h52 h53 => ?_)
      refine En_Ps 1 (pc' := 24) (lv' := [(0, .ref 159), (1, .retAddr 31)]) (st' := [.int ((z47 - z51))]) rfl ?_
      refine En_top (subI rfl rfl (by omega) (by omega)) (fun z54 h55 => ?_)
      refine En_Ps 1 (pc' := 25) (lv' := [(0, .ref 159), (1, .retAddr 31)]) (st' := [.retAddr 31, .int z54]) rfl ?_
      refine En_slen 15 5 rfl rfl (by decide) rfl ?_
      refine En_icNe _ rfl (by decide : (Int32.ofNat 5).toInt = 5) rfl (fun h56 => ?_) (fun h56 => ?_)
      · refine En_Ps 4 (pc' := 39) (lv' := [(3, .int ((Int32.ofInt 0))), (2, .int ((Int32.ofInt 0))), (0, .ref 159), (1, .retAddr 31)]) (st' := []) rfl ?_
        have key39 : ∀ (n39 : Nat) (σ59 : SG) (y57 : Int32) (y58 : Int32), WT σ59 → Fr [] σ0 σ59 → (σ59 159)[12]? = some (.int z2) → (σ59 159)[10]? = some (.int z28) → (σ59 159)[8]? = some (.int z47) → (σ59 159)[9]? = some (.int z51) → 0 ≤ y57.toInt → y57.toInt ≤ 0 → 0 ≤ y58.toInt → y58.toInt ≤ 0 → z2.toInt - y57.toInt < (n39 : Int) → En 4 90 none mr_251 (P_251s15 σ0) 39 [(0, .ref 159), (1, .retAddr 31), (2, .int y57), (3, .int y58)] [] σ59 := by
          intro n39
          induction n39 with
          | zero =>
            intro σ59 y57 y58 h60 h61 h62 h63 h64 h65 h66 h67 h68 h69 h70
            exfalso; omega
          | succ n39 ih39 =>
            intro σ59 y57 y58 h60 h61 h62 h63 h64 h65 h66 h67 h68 h69 h70
            refine En_Ps 2 (pc' := 41) (lv' := [(0, .ref 159), (1, .retAddr 31), (2, .int y57), (3, .int y58)]) (st' := [.retAddr 31, .int y58]) rfl ?_
            refine En_slen 15 5 rfl rfl (by decide) rfl ?_
            refine En_icGe _ rfl (by decide : (Int32.ofNat 5).toInt = 5) rfl (fun hx => by exfalso; omega) (fun h71 => ?_)
            refine En_Ps 1 (pc' := 48) (lv' := [(0, .ref 159), (1, .retAddr 31), (2, .int y57), (3, .int y58)]) (st' := [.int y57]) rfl ?_
            refine En_iEq _ rfl rfl (fun h72 => ?_) (fun hx => by exfalso; omega)
            refine En_Ps 1 (pc' := 83) (lv' := [(0, .ref 159), (1, .retAddr 31), (2, .int y57), (3, .int y58)]) (st' := [.int y57]) rfl ?_
            exact En_ret (v := some (.int y57)) rfl rfl (retZ rfl rfl (by omega) (by omega)) ⟨h60, h61, y57, rfl, (by omega)⟩
        have := (by decide : (Int32.ofInt 0).toInt = 0)
        have := (by decide : (Int32.ofInt 0).toInt = 0)
        refine En_lv (lv := [(0, .ref 159), (1, .retAddr 31), (2, .int ((Int32.ofInt 0))), (3, .int ((Int32.ofInt 0)))]) ⟨rfl, rfl, rfl, rfl, trivial⟩ ?_
        exact key39 (Int.toNat (z2.toInt) + 1) σ7 ((Int32.ofInt 0)) ((Int32.ofInt 0)) h8 h12 ((h9 _ _ (inW (by decide +kernel : TG 159 = 35) (by decide +kernel))).trans h1) h27 h46 h50 (by omega) (by omega) (by omega) (by omega) (by omega)
      · refine En_Ps 5 (pc' := 39) (lv' := [(3, .int ((Int32.ofInt 0))), (2, .int ((Int32.ofInt 1))), (0, .ref 159), (1, .retAddr 31)]) (st' := []) rfl ?_
        have key39 : ∀ (n39 : Nat) (σ75 : SG) (y73 : Int32) (y74 : Int32), WT σ75 → Fr [] σ0 σ75 → (σ75 159)[12]? = some (.int z2) → (σ75 159)[10]? = some (.int z28) → (σ75 159)[8]? = some (.int z47) → (σ75 159)[9]? = some (.int z51) → 0 ≤ y73.toInt → y73.toInt ≤ 1 → 0 ≤ y74.toInt → y74.toInt ≤ 5 → z47.toInt - y74.toInt < (n39 : Int) → En 4 90 none mr_251 (P_251s15 σ0) 39 [(0, .ref 159), (1, .retAddr 31), (2, .int y73), (3, .int y74)] [] σ75 := by
          intro n39
          induction n39 with
          | zero =>
            intro σ75 y73 y74 h76 h77 h78 h79 h80 h81 h82 h83 h84 h85 h86
            exfalso; omega
          | succ n39 ih39 =>
            intro σ75 y73 y74 h76 h77 h78 h79 h80 h81 h82 h83 h84 h85 h86
            refine En_Ps 2 (pc' := 41) (lv' := [(0, .ref 159), (1, .retAddr 31), (2, .int y73), (3, .int y74)]) (st' := [.retAddr 31, .int y74]) rfl ?_
            refine En_slen 15 5 rfl rfl (by decide) rfl ?_
            refine En_icGe _ rfl (by decide : (Int32.ofNat 5).toInt = 5) rfl (fun h87 => ?_) (fun h87 => ?_)
            · refine En_Ps 1 (pc' := 83) (lv' := [(0, .ref 159), (1, .retAddr 31), (2, .int y73), (3, .int y74)]) (st' := [.int y73]) rfl ?_
              exact En_ret (v := some (.int y73)) rfl rfl (retZ rfl rfl (by omega) (by omega)) ⟨h76, h77, y73, rfl, (by omega)⟩
            · refine En_Ps 1 (pc' := 48) (lv' := [(0, .ref 159), (1, .retAddr 31), (2, .int y73), (3, .int y74)]) (st' := [.int y73]) rfl ?_
              refine En_iEq _ rfl rfl (fun h88 => ?_) (fun h88 => ?_)
              · refine En_Ps 1 (pc' := 83) (lv' := [(0, .ref 159), (1, .retAddr 31), (2, .int y73), (3, .int y74)]) (st' := [.int y73]) rfl ?_
                exact En_ret (v := some (.int y73)) rfl rfl (retZ rfl rfl (by omega) (by omega)) ⟨h76, h77, y73, rfl, (by omega)⟩
              · refine En_Ps 1 (pc' := 52) (lv' := [(0, .ref 159), (1, .retAddr 31), (2, .int y73), (3, .int y74)]) (st' := [.ref 159]) rfl ?_
                refine En_getU (j := 4) (u := 163) (g' := 39) (q := 0) rfl rfl rfl (by decide +kernel : TG 159 = 35) (by decide +kernel) h76 (by decide +kernel) (by decide +kernel) (fun h89 => ?_)
                refine En_Ps 1 (pc' := 56) (lv' := [(0, .ref 159), (1, .retAddr 31), (2, .int y73), (3, .int y74)]) (st' := [.ref 159, .ref 163]) rfl ?_
                refine En_getK (j := 9) h81 rfl rfl rfl (by decide +kernel : TG 159 = 35) (by decide +kernel) ?_
                refine En_Ps 2 (pc' := 61) (lv' := [(0, .ref 159), (1, .retAddr 31), (2, .int y73), (3, .int y74)]) (st' := [.int ((z51 + y74)), .ref 163]) rfl ?_
                refine En_top (addI rfl rfl (by omega) (by omega)) (fun z91 h92 => ?_)
                refine En_bald (l := (-128)) (u := 127) rfl rfl (by decide +kernel : TG 163 = 39) (by decide +kernel) h76 (by omega) (lnI (by decide +kernel : LN _ = 1600) (by omega)) (FTsgl (by decide +kernel)) (fun z94 h93 h95 h96 => ?_)
                refine En_Ps 2 (pc' := 64) (lv' := [(0, .ref 159), (1, .retAddr 31), (2, .int y73), (3, .int y74)]) (st' := [.int y74, .retAddr 31, .int z94]) rfl ?_
                refine En_schar 15 5 rfl rfl rfl (by decide) (by omega) (by omega) rfl (fun z97 h98 h99 => ?_)
                refine En_icNe _ rfl rfl rfl (fun h100 => ?_) (fun h100 => ?_)
                · refine En_Ps 3 (pc' := 79) (lv' := [(3, .int ((y74 + Int32.ofInt 1))), (2, .int ((Int32.ofInt 0))), (0, .ref 159), (1, .retAddr 31)]) (st' := []) rfl ?_
                  refine En_lv1 (addI rfl (by decide : (Int32.ofInt 1).toInt = 1) (by omega) (by omega)) (fun z101 h102 => ?_)
                  refine En_Ps 1 (pc' := 39) (lv' := [(3, .int z101), (2, .int ((Int32.ofInt 0))), (0, .ref 159), (1, .retAddr 31)]) (st' := []) rfl ?_
                  have := (by decide : (Int32.ofInt 0).toInt = 0)
                  refine En_lv (lv := [(0, .ref 159), (1, .retAddr 31), (2, .int ((Int32.ofInt 0))), (3, .int z101)]) ⟨rfl, rfl, rfl, rfl, trivial⟩ ?_
                  exact ih39 σ75 ((Int32.ofInt 0)) z101 h76 h77 h78 h79 h80 h81 (by omega) (by omega) (by omega) (by omega) (by omega)
                · refine En_Ps 4 (pc' := 79) (lv' := [(3, .int ((y74 + Int32.ofInt 1))), (2, .int ((Int32.ofInt 1))), (0, .ref 159), (1, .retAddr 31)]) (st' := []) rfl ?_
                  refine En_lv1 (addI rfl (by decide : (Int32.ofInt 1).toInt = 1) (by omega) (by omega)) (fun z103 h104 => ?_)
                  refine En_Ps 1 (pc' := 39) (lv' := [(3, .int z103), (2, .int ((Int32.ofInt 1))), (0, .ref 159), (1, .retAddr 31)]) (st' := []) rfl ?_
                  have := (by decide : (Int32.ofInt 1).toInt = 1)
                  refine En_lv (lv := [(0, .ref 159), (1, .retAddr 31), (2, .int ((Int32.ofInt 1))), (3, .int z103)]) ⟨rfl, rfl, rfl, rfl, trivial⟩ ?_
                  exact ih39 σ75 ((Int32.ofInt 1)) z103 h76 h77 h78 h79 h80 h81 (by omega) (by omega) (by omega) (by omega) (by omega)
        have := (by decide : (Int32.ofInt 1).toInt = 1)
        have := (by decide : (Int32.ofInt 0).toInt = 0)
        refine En_lv (lv := [(0, .ref 159), (1, .retAddr 31), (2, .int ((Int32.ofInt 1))), (3, .int ((Int32.ofInt 0)))]) ⟨rfl, rfl, rfl, rfl, trivial⟩ ?_
        exact key39 (Int.toNat (z47.toInt) + 1) σ7 ((Int32.ofInt 1)) ((Int32.ofInt 0)) h8 h12 ((h9 _ _ (inW (by decide +kernel : TG 159 = 35) (by decide +kernel))).trans h1) h27 h46 h50 (by omega) (by omega) (by omega) (by omega) (by omega)
/-- DoorSchoolModel.is(Ljava/lang/String;)Z -/
abbrev P_251s16 (σ0 : SG) : PO := fun v σ => WT σ ∧ Fr [] σ0 σ ∧ ∃ ret : Int32, v = some (.int ret) ∧ -ret.toInt ≤ 0 ∧ ret.toInt - 1 ≤ 0
set_option maxRecDepth 10000 in
set_option maxHeartbeats 4000000 in
theorem c_251s16 (σ0 : SG) (hσ0 : WT σ0) : En 4 90 none mr_251 (P_251s16 σ0) 0 [(0, .ref 159), (1, .retAddr 33)] [] σ0 := by
  have hF0 : Fr [] σ0 σ0 := Fr_rfl
  refine En_Ps 1 (pc' := 1) (lv' := [(0, .ref 159), (1, .retAddr 33)]) (st' := [.ref 159]) rfl ?_
  obtain ⟨z2, h1, h3, h4⟩ := WT_peekI hσ0 (by decide +kernel : TG 159 = 35) (by decide +kernel : FT 35 12 = (0, 0, 3)) (by decide +kernel)
  refine En_callV rfl rfl rfl rfl rfl rfl rfl rfl (by decide +kernel : TG 159 = 35) (by decide +kernel) rfl (c_237 σ0 hσ0 z2 h1) (by decide) (by decide) (fun v6 σ7 h5 => ?_)
  obtain ⟨h8, h9, z11, rfl, h10⟩ := h5
  have h12 := Fr_trans hF0 h9 (by decide +kernel)
  refine En_iEq _ rfl rfl (fun h13 => ?_) (fun h13 => ?_)
  · refine En_Ps 4 (pc' := 39) (lv' := [(3, .int ((Int32.ofInt 0))), (2, .int ((Int32.ofInt 0))), (0, .ref 159), (1, .retAddr 33)]) (st' := []) rfl ?_
    have key39 : ∀ (n39 : Nat) (σ16 : SG) (y14 : Int32) (y15 : Int32), WT σ16 → Fr [] σ0 σ16 → (σ16 159)[12]? = some (.int z2) → 0 ≤ y14.toInt → y14.toInt ≤ 0 → 0 ≤ y15.toInt → y15.toInt ≤ 0 → z2.toInt - y14.toInt < (n39 : Int) → En 4 90 none mr_251 (P_251s16 σ0) 39 [(0, .ref 159), (1, .retAddr 33), (2, .int y14), (3, .int y15)] [] σ16 := by
      intro n39
      induction n39 with
      | zero =>
        intro σ16 y14 y15 h17 h18 h19 h20 h21 h22 h23 h24
        exfalso; omega
      | succ n39 ih39 =>
        intro σ16 y14 y15 h17 h18 h19 h20 h21 h22 h23 h24
        refine En_Ps 2 (pc' := 41) (lv' := [(0, .ref 159), (1, .retAddr 33), (2, .int y14), (3, .int y15)]) (st' := [.retAddr 33, .int y15]) rfl ?_
        refine En_slen 16 8 rfl rfl (by decide) rfl ?_
        refine En_icGe _ rfl (by decide : (Int32.ofNat 8).toInt = 8) rfl (fun hx => by exfalso; omega) (fun h25 => ?_)
        refine En_Ps 1 (pc' := 48) (lv' := [(0, .ref 159), (1, .retAddr 33), (2, .int y14), (3, .int y15)]) (st' := [.int y14]) rfl ?_
        refine En_iEq _ rfl rfl (fun h26 => ?_) (fun hx => by exfalso; omega)
        refine En_Ps 1 (pc' := 83) (lv' := [(0, .ref 159), (1, .retAddr 33), (2, .int y14), (3, .int y15)]) (st' := [.int y14]) rfl ?_
        exact En_ret (v := some (.int y14)) rfl rfl (retZ rfl rfl (by omega) (by omega)) ⟨h17, h18, y14, rfl, (by omega)⟩
    have := (by decide : (Int32.ofInt 0).toInt = 0)
    have := (by decide : (Int32.ofInt 0).toInt = 0)
    refine En_lv (lv := [(0, .ref 159), (1, .retAddr 33), (2, .int ((Int32.ofInt 0))), (3, .int ((Int32.ofInt 0)))]) ⟨rfl, rfl, rfl, rfl, trivial⟩ ?_
    exact key39 (Int.toNat (z2.toInt) + 1) σ7 ((Int32.ofInt 0)) ((Int32.ofInt 0)) h8 h12 ((h9 _ _ (inW (by decide +kernel : TG 159 = 35) (by decide +kernel))).trans h1) (by omega) (by omega) (by omega) (by omega) (by omega)
  · refine En_Ps 1 (pc' := 8) (lv' := [(0, .ref 159), (1, .retAddr 33)]) (st' := [.ref 159]) rfl ?_
    refine En_getI (j := 10) (l := 0) (u := 4) rfl rfl rfl (by decide +kernel : TG 159 = 35) (by decide +kernel) h8 (by decide +kernel) (fun z28 h27 h29 h30 => ?_)
    refine En_Ps 1 (pc' := 12) (lv' := [(0, .ref 159), (1, .retAddr 33)]) (st' := [.int ((Int32.ofInt 1)), .int z28]) rfl ?_
    refine En_icNe _ rfl (by decide : (Int32.ofInt 1).toInt = 1) rfl (fun h31 => ?_) (fun h31 => ?_)
    · refine En_Ps 4 (pc' := 39) (lv' := [(3, .int ((Int32.ofInt 0))), (2, .int ((Int32.ofInt 0))), (0, .ref 159), (1, .retAddr 33)]) (st' := []) rfl ?_
      have key39 : ∀ (n39 : Nat) (σ34 : SG) (y32 : Int32) (y33 : Int32), WT σ34 → Fr [] σ0 σ34 → (σ34 159)[12]? = some (.int z2) → (σ34 159)[10]? = some (.int z28) → 0 ≤ y32.toInt → y32.toInt ≤ 0 → 0 ≤ y33.toInt → y33.toInt ≤ 0 → z2.toInt - y32.toInt < (n39 : Int) → En 4 90 none mr_251 (P_251s16 σ0) 39 [(0, .ref 159), (1, .retAddr 33), (2, .int y32), (3, .int y33)] [] σ34 := by
        intro n39
        induction n39 with
        | zero =>
          intro σ34 y32 y33 h35 h36 h37 h38 h39 h40 h41 h42 h43
          exfalso; omega
        | succ n39 ih39 =>
          intro σ34 y32 y33 h35 h36 h37 h38 h39 h40 h41 h42 h43
          refine En_Ps 2 (pc' := 41) (lv' := [(0, .ref 159), (1, .retAddr 33), (2, .int y32), (3, .int y33)]) (st' := [.retAddr 33, .int y33]) rfl ?_
          refine En_slen 16 8 rfl rfl (by decide) rfl ?_
          refine En_icGe _ rfl (by decide : (Int32.ofNat 8).toInt = 8) rfl (fun hx => by exfalso; omega) (fun h44 => ?_)
          refine En_Ps 1 (pc' := 48) (lv' := [(0, .ref 159), (1, .retAddr 33), (2, .int y32), (3, .int y33)]) (st' := [.int y32]) rfl ?_
          refine En_iEq _ rfl rfl (fun h45 => ?_) (fun hx => by exfalso; omega)
          refine En_Ps 1 (pc' := 83) (lv' := [(0, .ref 159), (1, .retAddr 33), (2, .int y32), (3, .int y33)]) (st' := [.int y32]) rfl ?_
          exact En_ret (v := some (.int y32)) rfl rfl (retZ rfl rfl (by omega) (by omega)) ⟨h35, h36, y32, rfl, (by omega)⟩
      have := (by decide : (Int32.ofInt 0).toInt = 0)
      have := (by decide : (Int32.ofInt 0).toInt = 0)
      refine En_lv (lv := [(0, .ref 159), (1, .retAddr 33), (2, .int ((Int32.ofInt 0))), (3, .int ((Int32.ofInt 0)))]) ⟨rfl, rfl, rfl, rfl, trivial⟩ ?_
      exact key39 (Int.toNat (z2.toInt) + 1) σ7 ((Int32.ofInt 0)) ((Int32.ofInt 0)) h8 h12 ((h9 _ _ (inW (by decide +kernel : TG 159 = 35) (by decide +kernel))).trans h1) h27 (by omega) (by omega) (by omega) (by omega) (by omega)
    · refine En_Ps 1 (pc' := 16) (lv' := [(0, .ref 159), (1, .retAddr 33)]) (st' := [.ref 159]) rfl ?_
      refine En_getI (j := 8) (l := 0) (u := 1600) rfl rfl rfl (by decide +kernel : TG 159 = 35) (by decide +kernel) h8 (by decide +kernel) (fun z47 h46 h48 h49 => ?_)
      refine En_Ps 1 (pc' := 20) (lv' := [(0, .ref 159), (1, .retAddr 33)]) (st' := [.ref 159, .int z47]) rfl ?_
      refine En_getI (j := 9) (l := 0) (u := 1600) rfl rfl rfl (by decide +kernel : TG 159 = 35) (by decide +kernel) h8 (by decide +kernel) (fun z51 h50 h52 h53 => ?_)
      refine En_Ps 1 (pc' := 24) (lv' := [(0, .ref 159), (1, .retAddr 33)]) (st' := [.int ((z47 - z51))]) rfl ?_
      refine En_top (subI rfl rfl (by omega) (by omega)) (fun z54 h55 => ?_)
      refine En_Ps 1 (pc' := 25) (lv' := [(0, .ref 159), (1, .retAddr 33)]) (st' := [.retAddr 33, .int z54]) rfl ?_
      refine En_slen 16 8 rfl rfl (by decide) rfl ?_
      refine En_icNe _ rfl (by decide : (Int32.ofNat 8).toInt = 8) rfl (fun h56 => ?_) (fun h56 => ?_)
      · refine En_Ps 4 (pc' := 39) (lv' := [(3, .int ((Int32.ofInt 0))), (2, .int ((Int32.ofInt 0))), (0, .ref 159), (1, .retAddr 33)]) (st' := []) rfl ?_
        have key39 : ∀ (n39 : Nat) (σ59 : SG) (y57 : Int32) (y58 : Int32), WT σ59 → Fr [] σ0 σ59 → (σ59 159)[12]? = some (.int z2) → (σ59 159)[10]? = some (.int z28) → (σ59 159)[8]? = some (.int z47) → (σ59 159)[9]? = some (.int z51) → 0 ≤ y57.toInt → y57.toInt ≤ 0 → 0 ≤ y58.toInt → y58.toInt ≤ 0 → z2.toInt - y57.toInt < (n39 : Int) → En 4 90 none mr_251 (P_251s16 σ0) 39 [(0, .ref 159), (1, .retAddr 33), (2, .int y57), (3, .int y58)] [] σ59 := by
          intro n39
          induction n39 with
          | zero =>
            intro σ59 y57 y58 h60 h61 h62 h63 h64 h65 h66 h67 h68 h69 h70
            exfalso; omega
          | succ n39 ih39 =>
            intro σ59 y57 y58 h60 h61 h62 h63 h64 h65 h66 h67 h68 h69 h70
            refine En_Ps 2 (pc' := 41) (lv' := [(0, .ref 159), (1, .retAddr 33), (2, .int y57), (3, .int y58)]) (st' := [.retAddr 33, .int y58]) rfl ?_
            refine En_slen 16 8 rfl rfl (by decide) rfl ?_
            refine En_icGe _ rfl (by decide : (Int32.ofNat 8).toInt = 8) rfl (fun hx => by exfalso; omega) (fun h71 => ?_)
            refine En_Ps 1 (pc' := 48) (lv' := [(0, .ref 159), (1, .retAddr 33), (2, .int y57), (3, .int y58)]) (st' := [.int y57]) rfl ?_
            refine En_iEq _ rfl rfl (fun h72 => ?_) (fun hx => by exfalso; omega)
            refine En_Ps 1 (pc' := 83) (lv' := [(0, .ref 159), (1, .retAddr 33), (2, .int y57), (3, .int y58)]) (st' := [.int y57]) rfl ?_
            exact En_ret (v := some (.int y57)) rfl rfl (retZ rfl rfl (by omega) (by omega)) ⟨h60, h61, y57, rfl, (by omega)⟩
        have := (by decide : (Int32.ofInt 0).toInt = 0)
        have := (by decide : (Int32.ofInt 0).toInt = 0)
        refine En_lv (lv := [(0, .ref 159), (1, .retAddr 33), (2, .int ((Int32.ofInt 0))), (3, .int ((Int32.ofInt 0)))]) ⟨rfl, rfl, rfl, rfl, trivial⟩ ?_
        exact key39 (Int.toNat (z2.toInt) + 1) σ7 ((Int32.ofInt 0)) ((Int32.ofInt 0)) h8 h12 ((h9 _ _ (inW (by decide +kernel : TG 159 = 35) (by decide +kernel))).trans h1) h27 h46 h50 (by omega) (by omega) (by omega) (by omega) (by omega)
      · refine En_Ps 5 (pc' := 39) (lv' := [(3, .int ((Int32.ofInt 0))), (2, .int ((Int32.ofInt 1))), (0, .ref 159), (1, .retAddr 33)]) (st' := []) rfl ?_
        have key39 : ∀ (n39 : Nat) (σ75 : SG) (y73 : Int32) (y74 : Int32), WT σ75 → Fr [] σ0 σ75 → (σ75 159)[12]? = some (.int z2) → (σ75 159)[10]? = some (.int z28) → (σ75 159)[8]? = some (.int z47) → (σ75 159)[9]? = some (.int z51) → 0 ≤ y73.toInt → y73.toInt ≤ 1 → 0 ≤ y74.toInt → y74.toInt ≤ 8 → z47.toInt - y74.toInt < (n39 : Int) → En 4 90 none mr_251 (P_251s16 σ0) 39 [(0, .ref 159), (1, .retAddr 33), (2, .int y73), (3, .int y74)] [] σ75 := by
          intro n39
          induction n39 with
          | zero =>
            intro σ75 y73 y74 h76 h77 h78 h79 h80 h81 h82 h83 h84 h85 h86
            exfalso; omega
          | succ n39 ih39 =>
            intro σ75 y73 y74 h76 h77 h78 h79 h80 h81 h82 h83 h84 h85 h86
            refine En_Ps 2 (pc' := 41) (lv' := [(0, .ref 159), (1, .retAddr 33), (2, .int y73), (3, .int y74)]) (st' := [.retAddr 33, .int y74]) rfl ?_
            refine En_slen 16 8 rfl rfl (by decide) rfl ?_
            refine En_icGe _ rfl (by decide : (Int32.ofNat 8).toInt = 8) rfl (fun h87 => ?_) (fun h87 => ?_)
            · refine En_Ps 1 (pc' := 83) (lv' := [(0, .ref 159), (1, .retAddr 33), (2, .int y73), (3, .int y74)]) (st' := [.int y73]) rfl ?_
              exact En_ret (v := some (.int y73)) rfl rfl (retZ rfl rfl (by omega) (by omega)) ⟨h76, h77, y73, rfl, (by omega)⟩
            · refine En_Ps 1 (pc' := 48) (lv' := [(0, .ref 159), (1, .retAddr 33), (2, .int y73), (3, .int y74)]) (st' := [.int y73]) rfl ?_
              refine En_iEq _ rfl rfl (fun h88 => ?_) (fun h88 => ?_)
              · refine En_Ps 1 (pc' := 83) (lv' := [(0, .ref 159), (1, .retAddr 33), (2, .int y73), (3, .int y74)]) (st' := [.int y73]) rfl ?_
                exact En_ret (v := some (.int y73)) rfl rfl (retZ rfl rfl (by omega) (by omega)) ⟨h76, h77, y73, rfl, (by omega)⟩
              · refine En_Ps 1 (pc' := 52) (lv' := [(0, .ref 159), (1, .retAddr 33), (2, .int y73), (3, .int y74)]) (st' := [.ref 159]) rfl ?_
                refine En_getU (j := 4) (u := 163) (g' := 39) (q := 0) rfl rfl rfl (by decide +kernel : TG 159 = 35) (by decide +kernel) h76 (by decide +kernel) (by decide +kernel) (fun h89 => ?_)
                refine En_Ps 1 (pc' := 56) (lv' := [(0, .ref 159), (1, .retAddr 33), (2, .int y73), (3, .int y74)]) (st' := [.ref 159, .ref 163]) rfl ?_
                refine En_getK (j := 9) h81 rfl rfl rfl (by decide +kernel : TG 159 = 35) (by decide +kernel) ?_
                refine En_Ps 2 (pc' := 61) (lv' := [(0, .ref 159), (1, .retAddr 33), (2, .int y73), (3, .int y74)]) (st' := [.int ((z51 + y74)), .ref 163]) rfl ?_
                refine En_top (addI rfl rfl (by omega) (by omega)) (fun z91 h92 => ?_)
                refine En_bald (l := (-128)) (u := 127) rfl rfl (by decide +kernel : TG 163 = 39) (by decide +kernel) h76 (by omega) (lnI (by decide +kernel : LN _ = 1600) (by omega)) (FTsgl (by decide +kernel)) (fun z94 h93 h95 h96 => ?_)
                refine En_Ps 2 (pc' := 64) (lv' := [(0, .ref 159), (1, .retAddr 33), (2, .int y73), (3, .int y74)]) (st' := [.int y74, .retAddr 33, .int z94]) rfl ?_
                refine En_schar 16 8 rfl rfl rfl (by decide) (by omega) (by omega) rfl (fun z97 h98 h99 => ?_)
                refine En_icNe _ rfl rfl rfl (fun h100 => ?_) (fun h100 => ?_)
                · refine En_Ps 3 (pc' := 79) (lv' := [(3, .int ((y74 + Int32.ofInt 1))), (2, .int ((Int32.ofInt 0))), (0, .ref 159), (1, .retAddr 33)]) (st' := []) rfl ?_
                  refine En_lv1 (addI rfl (by decide : (Int32.ofInt 1).toInt = 1) (by omega) (by omega)) (fun z101 h102 => ?_)
                  refine En_Ps 1 (pc' := 39) (lv' := [(3, .int z101), (2, .int ((Int32.ofInt 0))), (0, .ref 159), (1, .retAddr 33)]) (st' := []) rfl ?_
                  have := (by decide : (Int32.ofInt 0).toInt = 0)
                  refine En_lv (lv := [(0, .ref 159), (1, .retAddr 33), (2, .int ((Int32.ofInt 0))), (3, .int z101)]) ⟨rfl, rfl, rfl, rfl, trivial⟩ ?_
                  exact ih39 σ75 ((Int32.ofInt 0)) z101 h76 h77 h78 h79 h80 h81 (by omega) (by omega) (by omega) (by omega) (by omega)
                · refine En_Ps 4 (pc' := 79) (lv' := [(3, .int ((y74 + Int32.ofInt 1))), (2, .int ((Int32.ofInt 1))), (0, .ref 159), (1, .retAddr 33)]) (st' := []) rfl ?_
                  refine En_lv1 (addI rfl (by decide : (Int32.ofInt 1).toInt = 1) (by omega) (by omega)) (fun z103 h104 => ?_)
                  refine En_Ps 1 (pc' := 39) (lv' := [(3, .int z103), (2, .int ((Int32.ofInt 1))), (0, .ref 159), (1, .retAddr 33)]) (st' := []) rfl ?_
                  have := (by decide : (Int32.ofInt 1).toInt = 1)
                  refine En_lv (lv := [(0, .ref 159), (1, .retAddr 33), (2, .int ((Int32.ofInt 1))), (3, .int z103)]) ⟨rfl, rfl, rfl, rfl, trivial⟩ ?_
                  exact ih39 σ75 ((Int32.ofInt 1)) z103 h76 h77 h78 h79 h80 h81 (by omega) (by omega) (by omega) (by omega) (by omega)
        have := (by decide : (Int32.ofInt 1).toInt = 1)
        have := (by decide : (Int32.ofInt 0).toInt = 0)
        refine En_lv (lv := [(0, .ref 159), (1, .retAddr 33), (2, .int ((Int32.ofInt 1))), (3, .int ((Int32.ofInt 0)))]) ⟨rfl, rfl, rfl, rfl, trivial⟩ ?_
        exact key39 (Int.toNat (z47.toInt) + 1) σ7 ((Int32.ofInt 1)) ((Int32.ofInt 0)) h8 h12 ((h9 _ _ (inW (by decide +kernel : TG 159 = 35) (by decide +kernel))).trans h1) h27 h46 h50 (by omega) (by omega) (by omega) (by omega) (by omega)
/-- DoorSchoolModel.is(Ljava/lang/String;)Z -/
abbrev P_251s17 (σ0 : SG) : PO := fun v σ => WT σ ∧ Fr [] σ0 σ ∧ ∃ ret : Int32, v = some (.int ret) ∧ -ret.toInt ≤ 0 ∧ ret.toInt - 1 ≤ 0
set_option maxRecDepth 10000 in
set_option maxHeartbeats 4000000 in
theorem c_251s17 (σ0 : SG) (hσ0 : WT σ0) : En 4 90 none mr_251 (P_251s17 σ0) 0 [(0, .ref 159), (1, .retAddr 35)] [] σ0 := by
  have hF0 : Fr [] σ0 σ0 := Fr_rfl
  refine En_Ps 1 (pc' := 1) (lv' := [(0, .ref 159), (1, .retAddr 35)]) (st' := [.ref 159]) rfl ?_
  obtain ⟨z2, h1, h3, h4⟩ := WT_peekI hσ0 (by decide +kernel : TG 159 = 35) (by decide +kernel : FT 35 12 = (0, 0, 3)) (by decide +kernel)
  refine En_callV rfl rfl rfl rfl rfl rfl rfl rfl (by decide +kernel : TG 159 = 35) (by decide +kernel) rfl (c_237 σ0 hσ0 z2 h1) (by decide) (by decide) (fun v6 σ7 h5 => ?_)
  obtain ⟨h8, h9, z11, rfl, h10⟩ := h5
  have h12 := Fr_trans hF0 h9 (by decide +kernel)
  refine En_iEq _ rfl rfl (fun h13 => ?_) (fun h13 => ?_)
  · refine En_Ps 4 (pc' := 39) (lv' := [(3, .int ((Int32.ofInt 0))), (2, .int ((Int32.ofInt 0))), (0, .ref 159), (1, .retAddr 35)]) (st' := []) rfl ?_
    have key39 : ∀ (n39 : Nat) (σ16 : SG) (y14 : Int32) (y15 : Int32), WT σ16 → Fr [] σ0 σ16 → (σ16 159)[12]? = some (.int z2) → 0 ≤ y14.toInt → y14.toInt ≤ 0 → 0 ≤ y15.toInt → y15.toInt ≤ 0 → z2.toInt - y14.toInt < (n39 : Int) → En 4 90 none mr_251 (P_251s17 σ0) 39 [(0, .ref 159), (1, .retAddr 35), (2, .int y14), (3, .int y15)] [] σ16 := by
      intro n39
      induction n39 with
      | zero =>
        intro σ16 y14 y15 h17 h18 h19 h20 h21 h22 h23 h24
        exfalso; omega
      | succ n39 ih39 =>
        intro σ16 y14 y15 h17 h18 h19 h20 h21 h22 h23 h24
        refine En_Ps 2 (pc' := 41) (lv' := [(0, .ref 159), (1, .retAddr 35), (2, .int y14), (3, .int y15)]) (st' := [.retAddr 35, .int y15]) rfl ?_
        refine En_slen 17 4 rfl rfl (by decide) rfl ?_
        refine En_icGe _ rfl (by decide : (Int32.ofNat 4).toInt = 4) rfl (fun hx => by exfalso; omega) (fun h25 => ?_)
        refine En_Ps 1 (pc' := 48) (lv' := [(0, .ref 159), (1, .retAddr 35), (2, .int y14), (3, .int y15)]) (st' := [.int y14]) rfl ?_
        refine En_iEq _ rfl rfl (fun h26 => ?_) (fun hx => by exfalso; omega)
        refine En_Ps 1 (pc' := 83) (lv' := [(0, .ref 159), (1, .retAddr 35), (2, .int y14), (3, .int y15)]) (st' := [.int y14]) rfl ?_
        exact En_ret (v := some (.int y14)) rfl rfl (retZ rfl rfl (by omega) (by omega)) ⟨h17, h18, y14, rfl, (by omega)⟩
    have := (by decide : (Int32.ofInt 0).toInt = 0)
    have := (by decide : (Int32.ofInt 0).toInt = 0)
    refine En_lv (lv := [(0, .ref 159), (1, .retAddr 35), (2, .int ((Int32.ofInt 0))), (3, .int ((Int32.ofInt 0)))]) ⟨rfl, rfl, rfl, rfl, trivial⟩ ?_
    exact key39 (Int.toNat (z2.toInt) + 1) σ7 ((Int32.ofInt 0)) ((Int32.ofInt 0)) h8 h12 ((h9 _ _ (inW (by decide +kernel : TG 159 = 35) (by decide +kernel))).trans h1) (by omega) (by omega) (by omega) (by omega) (by omega)
  · refine En_Ps 1 (pc' := 8) (lv' := [(0, .ref 159), (1, .retAddr 35)]) (st' := [.ref 159]) rfl ?_
    refine En_getI (j := 10) (l := 0) (u := 4) rfl rfl rfl (by decide +kernel : TG 159 = 35) (by decide +kernel) h8 (by decide +kernel) (fun z28 h27 h29 h30 => ?_)
    refine En_Ps 1 (pc' := 12) (lv' := [(0, .ref 159), (1, .retAddr 35)]) (st' := [.int ((Int32.ofInt 1)), .int z28]) rfl ?_
    refine En_icNe _ rfl (by decide : (Int32.ofInt 1).toInt = 1) rfl (fun h31 => ?_) (fun h31 => ?_)
    · refine En_Ps 4 (pc' := 39) (lv' := [(3, .int ((Int32.ofInt 0))), (2, .int ((Int32.ofInt 0))), (0, .ref 159), (1, .retAddr 35)]) (st' := []) rfl ?_
      have key39 : ∀ (n39 : Nat) (σ34 : SG) (y32 : Int32) (y33 : Int32), WT σ34 → Fr [] σ0 σ34 → (σ34 159)[12]? = some (.int z2) → (σ34 159)[10]? = some (.int z28) → 0 ≤ y32.toInt → y32.toInt ≤ 0 → 0 ≤ y33.toInt → y33.toInt ≤ 0 → z2.toInt - y32.toInt < (n39 : Int) → En 4 90 none mr_251 (P_251s17 σ0) 39 [(0, .ref 159), (1, .retAddr 35), (2, .int y32), (3, .int y33)] [] σ34 := by
        intro n39
        induction n39 with
        | zero =>
          intro σ34 y32 y33 h35 h36 h37 h38 h39 h40 h41 h42 h43
          exfalso; omega
        | succ n39 ih39 =>
          intro σ34 y32 y33 h35 h36 h37 h38 h39 h40 h41 h42 h43
          refine En_Ps 2 (pc' := 41) (lv' := [(0, .ref 159), (1, .retAddr 35), (2, .int y32), (3, .int y33)]) (st' := [.retAddr 35, .int y33]) rfl ?_
          refine En_slen 17 4 rfl rfl (by decide) rfl ?_
          refine En_icGe _ rfl (by decide : (Int32.ofNat 4).toInt = 4) rfl (fun hx => by exfalso; omega) (fun h44 => ?_)
          refine En_Ps 1 (pc' := 48) (lv' := [(0, .ref 159), (1, .retAddr 35), (2, .int y32), (3, .int y33)]) (st' := [.int y32]) rfl ?_
          refine En_iEq _ rfl rfl (fun h45 => ?_) (fun hx => by exfalso; omega)
          refine En_Ps 1 (pc' := 83) (lv' := [(0, .ref 159), (1, .retAddr 35), (2, .int y32), (3, .int y33)]) (st' := [.int y32]) rfl ?_
          exact En_ret (v := some (.int y32)) rfl rfl (retZ rfl rfl (by omega) (by omega)) ⟨h35, h36, y32, rfl, (by omega)⟩
      have := (by decide : (Int32.ofInt 0).toInt = 0)
      have := (by decide : (Int32.ofInt 0).toInt = 0)
      refine En_lv (lv := [(0, .ref 159), (1, .retAddr 35), (2, .int ((Int32.ofInt 0))), (3, .int ((Int32.ofInt 0)))]) ⟨rfl, rfl, rfl, rfl, trivial⟩ ?_
      exact key39 (Int.toNat (z2.toInt) + 1) σ7 ((Int32.ofInt 0)) ((Int32.ofInt 0)) h8 h12 ((h9 _ _ (inW (by decide +kernel : TG 159 = 35) (by decide +kernel))).trans h1) h27 (by omega) (by omega) (by omega) (by omega) (by omega)
    · refine En_Ps 1 (pc' := 16) (lv' := [(0, .ref 159), (1, .retAddr 35)]) (st' := [.ref 159]) rfl ?_
      refine En_getI (j := 8) (l := 0) (u := 1600) rfl rfl rfl (by decide +kernel : TG 159 = 35) (by decide +kernel) h8 (by decide +kernel) (fun z47 h46 h48 h49 => ?_)
      refine En_Ps 1 (pc' := 20) (lv' := [(0, .ref 159), (1, .retAddr 35)]) (st' := [.ref 159, .int z47]) rfl ?_
      refine En_getI (j := 9) (l := 0) (u := 1600) rfl rfl rfl (by decide +kernel : TG 159 = 35) (by decide +kernel) h8 (by decide +kernel) (fun z51 h50 h52 h53 => ?_)
      refine En_Ps 1 (pc' := 24) (lv' := [(0, .ref 159), (1, .retAddr 35)]) (st' := [.int ((z47 - z51))]) rfl ?_
      refine En_top (subI rfl rfl (by omega) (by omega)) (fun z54 h55 => ?_)
      refine En_Ps 1 (pc' := 25) (lv' := [(0, .ref 159), (1, .retAddr 35)]) (st' := [.retAddr 35, .int z54]) rfl ?_
      refine En_slen 17 4 rfl rfl (by decide) rfl ?_
      refine En_icNe _ rfl (by decide : (Int32.ofNat 4).toInt = 4) rfl (fun h56 => ?_) (fun h56 => ?_)
      · refine En_Ps 4 (pc' := 39) (lv' := [(3, .int ((Int32.ofInt 0))), (2, .int ((Int32.ofInt 0))), (0, .ref 159), (1, .retAddr 35)]) (st' := []) rfl ?_
        have key39 : ∀ (n39 : Nat) (σ59 : SG) (y57 : Int32) (y58 : Int32), WT σ59 → Fr [] σ0 σ59 → (σ59 159)[12]? = some (.int z2) → (σ59 159)[10]? = some (.int z28) → (σ59 159)[8]? = some (.int z47) → (σ59 159)[9]? = some (.int z51) → 0 ≤ y57.toInt → y57.toInt ≤ 0 → 0 ≤ y58.toInt → y58.toInt ≤ 0 → z2.toInt - y57.toInt < (n39 : Int) → En 4 90 none mr_251 (P_251s17 σ0) 39 [(0, .ref 159), (1, .retAddr 35), (2, .int y57), (3, .int y58)] [] σ59 := by
          intro n39
          induction n39 with
          | zero =>
            intro σ59 y57 y58 h60 h61 h62 h63 h64 h65 h66 h67 h68 h69 h70
            exfalso; omega
          | succ n39 ih39 =>
            intro σ59 y57 y58 h60 h61 h62 h63 h64 h65 h66 h67 h68 h69 h70
            refine En_Ps 2 (pc' := 41) (lv' := [(0, .ref 159), (1, .retAddr 35), (2, .int y57), (3, .int y58)]) (st' := [.retAddr 35, .int y58]) rfl ?_
            refine En_slen 17 4 rfl rfl (by decide) rfl ?_
            refine En_icGe _ rfl (by decide : (Int32.ofNat 4).toInt = 4) rfl (fun hx => by exfalso; omega) (fun h71 => ?_)
            refine En_Ps 1 (pc' := 48) (lv' := [(0, .ref 159), (1, .retAddr 35), (2, .int y57), (3, .int y58)]) (st' := [.int y57]) rfl ?_
            refine En_iEq _ rfl rfl (fun h72 => ?_) (fun hx => by exfalso; omega)
            refine En_Ps 1 (pc' := 83) (lv' := [(0, .ref 159), (1, .retAddr 35), (2, .int y57), (3, .int y58)]) (st' := [.int y57]) rfl ?_
            exact En_ret (v := some (.int y57)) rfl rfl (retZ rfl rfl (by omega) (by omega)) ⟨h60, h61, y57, rfl, (by omega)⟩
        have := (by decide : (Int32.ofInt 0).toInt = 0)
        have := (by decide : (Int32.ofInt 0).toInt = 0)
        refine En_lv (lv := [(0, .ref 159), (1, .retAddr 35), (2, .int ((Int32.ofInt 0))), (3, .int ((Int32.ofInt 0)))]) ⟨rfl, rfl, rfl, rfl, trivial⟩ ?_
        exact key39 (Int.toNat (z2.toInt) + 1) σ7 ((Int32.ofInt 0)) ((Int32.ofInt 0)) h8 h12 ((h9 _ _ (inW (by decide +kernel : TG 159 = 35) (by decide +kernel))).trans h1) h27 h46 h50 (by omega) (by omega) (by omega) (by omega) (by omega)
      · refine En_Ps 5 (pc' := 39) (lv' := [(3, .int ((Int32.ofInt 0))), (2, .int ((Int32.ofInt 1))), (0, .ref 159), (1, .retAddr 35)]) (st' := []) rfl ?_
        have key39 : ∀ (n39 : Nat) (σ75 : SG) (y73 : Int32) (y74 : Int32), WT σ75 → Fr [] σ0 σ75 → (σ75 159)[12]? = some (.int z2) → (σ75 159)[10]? = some (.int z28) → (σ75 159)[8]? = some (.int z47) → (σ75 159)[9]? = some (.int z51) → 0 ≤ y73.toInt → y73.toInt ≤ 1 → 0 ≤ y74.toInt → y74.toInt ≤ 4 → z47.toInt - y74.toInt < (n39 : Int) → En 4 90 none mr_251 (P_251s17 σ0) 39 [(0, .ref 159), (1, .retAddr 35), (2, .int y73), (3, .int y74)] [] σ75 := by
          intro n39
          induction n39 with
          | zero =>
            intro σ75 y73 y74 h76 h77 h78 h79 h80 h81 h82 h83 h84 h85 h86
            exfalso; omega
          | succ n39 ih39 =>
            intro σ75 y73 y74 h76 h77 h78 h79 h80 h81 h82 h83 h84 h85 h86
            refine En_Ps 2 (pc' := 41) (lv' := [(0, .ref 159), (1, .retAddr 35), (2, .int y73), (3, .int y74)]) (st' := [.retAddr 35, .int y74]) rfl ?_
            refine En_slen 17 4 rfl rfl (by decide) rfl ?_
            refine En_icGe _ rfl (by decide : (Int32.ofNat 4).toInt = 4) rfl (fun h87 => ?_) (fun h87 => ?_)
            · refine En_Ps 1 (pc' := 83) (lv' := [(0, .ref 159), (1, .retAddr 35), (2, .int y73), (3, .int y74)]) (st' := [.int y73]) rfl ?_
              exact En_ret (v := some (.int y73)) rfl rfl (retZ rfl rfl (by omega) (by omega)) ⟨h76, h77, y73, rfl, (by omega)⟩
            · refine En_Ps 1 (pc' := 48) (lv' := [(0, .ref 159), (1, .retAddr 35), (2, .int y73), (3, .int y74)]) (st' := [.int y73]) rfl ?_
              refine En_iEq _ rfl rfl (fun h88 => ?_) (fun h88 => ?_)
              · refine En_Ps 1 (pc' := 83) (lv' := [(0, .ref 159), (1, .retAddr 35), (2, .int y73), (3, .int y74)]) (st' := [.int y73]) rfl ?_
                exact En_ret (v := some (.int y73)) rfl rfl (retZ rfl rfl (by omega) (by omega)) ⟨h76, h77, y73, rfl, (by omega)⟩
              · refine En_Ps 1 (pc' := 52) (lv' := [(0, .ref 159), (1, .retAddr 35), (2, .int y73), (3, .int y74)]) (st' := [.ref 159]) rfl ?_
                refine En_getU (j := 4) (u := 163) (g' := 39) (q := 0) rfl rfl rfl (by decide +kernel : TG 159 = 35) (by decide +kernel) h76 (by decide +kernel) (by decide +kernel) (fun h89 => ?_)
                refine En_Ps 1 (pc' := 56) (lv' := [(0, .ref 159), (1, .retAddr 35), (2, .int y73), (3, .int y74)]) (st' := [.ref 159, .ref 163]) rfl ?_
                refine En_getK (j := 9) h81 rfl rfl rfl (by decide +kernel : TG 159 = 35) (by decide +kernel) ?_
                refine En_Ps 2 (pc' := 61) (lv' := [(0, .ref 159), (1, .retAddr 35), (2, .int y73), (3, .int y74)]) (st' := [.int ((z51 + y74)), .ref 163]) rfl ?_
                refine En_top (addI rfl rfl (by omega) (by omega)) (fun z91 h92 => ?_)
                refine En_bald (l := (-128)) (u := 127) rfl rfl (by decide +kernel : TG 163 = 39) (by decide +kernel) h76 (by omega) (lnI (by decide +kernel : LN _ = 1600) (by omega)) (FTsgl (by decide +kernel)) (fun z94 h93 h95 h96 => ?_)
                refine En_Ps 2 (pc' := 64) (lv' := [(0, .ref 159), (1, .retAddr 35), (2, .int y73), (3, .int y74)]) (st' := [.int y74, .retAddr 35, .int z94]) rfl ?_
                refine En_schar 17 4 rfl rfl rfl (by decide) (by omega) (by omega) rfl (fun z97 h98 h99 => ?_)
                refine En_icNe _ rfl rfl rfl (fun h100 => ?_) (fun h100 => ?_)
                · refine En_Ps 3 (pc' := 79) (lv' := [(3, .int ((y74 + Int32.ofInt 1))), (2, .int ((Int32.ofInt 0))), (0, .ref 159), (1, .retAddr 35)]) (st' := []) rfl ?_
                  refine En_lv1 (addI rfl (by decide : (Int32.ofInt 1).toInt = 1) (by omega) (by omega)) (fun z101 h102 => ?_)
                  refine En_Ps 1 (pc' := 39) (lv' := [(3, .int z101), (2, .int ((Int32.ofInt 0))), (0, .ref 159), (1, .retAddr 35)]) (st' := []) rfl ?_
                  have := (by decide : (Int32.ofInt 0).toInt = 0)
                  refine En_lv (lv := [(0, .ref 159), (1, .retAddr 35), (2, .int ((Int32.ofInt 0))), (3, .int z101)]) ⟨rfl, rfl, rfl, rfl, trivial⟩ ?_
                  exact ih39 σ75 ((Int32.ofInt 0)) z101 h76 h77 h78 h79 h80 h81 (by omega) (by omega) (by omega) (by omega) (by omega)
                · refine En_Ps 4 (pc' := 79) (lv' := [(3, .int ((y74 + Int32.ofInt 1))), (2, .int ((Int32.ofInt 1))), (0, .ref 159), (1, .retAddr 35)]) (st' := []) rfl ?_
                  refine En_lv1 (addI rfl (by decide : (Int32.ofInt 1).toInt = 1) (by omega) (by omega)) (fun z103 h104 => ?_)
                  refine En_Ps 1 (pc' := 39) (lv' := [(3, .int z103), (2, .int ((Int32.ofInt 1))), (0, .ref 159), (1, .retAddr 35)]) (st' := []) rfl ?_
                  have := (by decide : (Int32.ofInt 1).toInt = 1)
                  refine En_lv (lv := [(0, .ref 159), (1, .retAddr 35), (2, .int ((Int32.ofInt 1))), (3, .int z103)]) ⟨rfl, rfl, rfl, rfl, trivial⟩ ?_
                  exact ih39 σ75 ((Int32.ofInt 1)) z103 h76 h77 h78 h79 h80 h81 (by omega) (by omega) (by omega) (by omega) (by omega)
        have := (by decide : (Int32.ofInt 1).toInt = 1)
        have := (by decide : (Int32.ofInt 0).toInt = 0)
        refine En_lv (lv := [(0, .ref 159), (1, .retAddr 35), (2, .int ((Int32.ofInt 1))), (3, .int ((Int32.ofInt 0)))]) ⟨rfl, rfl, rfl, rfl, trivial⟩ ?_
        exact key39 (Int.toNat (z47.toInt) + 1) σ7 ((Int32.ofInt 1)) ((Int32.ofInt 0)) h8 h12 ((h9 _ _ (inW (by decide +kernel : TG 159 = 35) (by decide +kernel))).trans h1) h27 h46 h50 (by omega) (by omega) (by omega) (by omega) (by omega)
/-- DoorSchoolModel.takes(Ljava/lang/String;)Z -/
abbrev P_318s0 (σ0 : SG) (f : Int32) : PO := fun v σ => WT σ ∧ Fr [(35, 8), (35, 9), (35, 10), (35, 11)] σ0 σ ∧ ∃ f1 : Int32, (σ 159)[8]? = some (.int f1) ∧ ∃ ret : Int32, v = some (.int ret) ∧ -ret.toInt ≤ 0 ∧ ret.toInt - 1 ≤ 0 ∧ -f1.toInt ≤ 0 ∧ f1.toInt - 1600 ≤ 0 ∧ -f1.toInt + f.toInt ≤ 0 ∧ f1.toInt - f.toInt - 1600 ≤ 0 ∧ f.toInt - f1.toInt ≤ 0
set_option maxRecDepth 10000 in
set_option maxHeartbeats 4000000 in
theorem c_318s0 (σ0 : SG) (hσ0 : WT σ0) (f : Int32) (h_f : (σ0 159)[8]? = some (.int f)) : En 5 113 none mr_318 (P_318s0 σ0 f) 0 [(0, .ref 159), (1, .retAddr 1)] [] σ0 := by
  obtain ⟨hl_f, hu_f⟩ := WT_int hσ0 (g := 35) (by decide +kernel) (by decide +kernel) (l := 0) (u := 1600) (by decide +kernel) h_f
  have hF0 : Fr [(35, 8), (35, 9), (35, 10), (35, 11)] σ0 σ0 := Fr_rfl
  refine En_Ps 2 (pc' := 2) (lv' := [(0, .ref 159), (1, .retAddr 1)]) (st' := [.retAddr 1, .ref 159]) rfl ?_
  refine En_callV rfl rfl rfl rfl rfl rfl rfl rfl (by decide +kernel : TG 159 = 35) (by decide +kernel) rfl (c_251s0 σ0 hσ0) (by decide) (by decide) (fun v2 σ3 h1 => ?_)
  obtain ⟨h4, h5, z7, rfl, h6⟩ := h1
  have h8 := Fr_trans hF0 h5 (by decide +kernel)
  refine En_Ps 2 (pc' := 7) (lv' := [(2, .int z7), (0, .ref 159), (1, .retAddr 1)]) (st' := [.int z7]) rfl ?_
  refine En_iEq _ rfl rfl (fun h9 => ?_) (fun h9 => ?_)
  · refine En_Ps 1 (pc' := 15) (lv' := [(2, .int z7), (0, .ref 159), (1, .retAddr 1)]) (st' := [.int z7]) rfl ?_
    exact En_ret (v := some (.int z7)) rfl rfl (retZ rfl rfl (by omega) (by omega)) ⟨h4, h8, f, ((h5 _ _ (inW (by decide +kernel : TG 159 = 35) (by decide +kernel))).trans h_f), z7, rfl, (by omega)⟩
  · refine En_Ps 1 (pc' := 11) (lv' := [(2, .int z7), (0, .ref 159), (1, .retAddr 1)]) (st' := [.ref 159]) rfl ?_
    refine En_callV rfl rfl rfl rfl rfl rfl rfl rfl (by decide +kernel : TG 159 = 35) (by decide +kernel) rfl (c_189 σ3 h4 f ((h5 _ _ (inW (by decide +kernel : TG 159 = 35) (by decide +kernel))).trans h_f)) (by decide) (by decide) (fun v11 σ12 h10 => ?_)
    obtain ⟨h13, h14, z16, h17, z18, h19, rfl, h15⟩ := h10
    have h20 := Fr_trans h8 h14 (by decide +kernel)
    refine En_Ps 1 (pc' := 15) (lv' := [(2, .int z7), (0, .ref 159), (1, .retAddr 1)]) (st' := [.int z7]) rfl ?_
    exact En_ret (v := some (.int z7)) rfl rfl (retZ rfl rfl (by omega) (by omega)) ⟨h13, h20, z16, h17, z7, rfl, (by omega)⟩
/-- DoorSchoolModel.takes(Ljava/lang/String;)Z -/
abbrev P_318s1 (σ0 : SG) (f : Int32) : PO := fun v σ => WT σ ∧ Fr [(35, 8), (35, 9), (35, 10), (35, 11)] σ0 σ ∧ ∃ f1 : Int32, (σ 159)[8]? = some (.int f1) ∧ ∃ ret : Int32, v = some (.int ret) ∧ -ret.toInt ≤ 0 ∧ ret.toInt - 1 ≤ 0 ∧ -f1.toInt ≤ 0 ∧ f1.toInt - 1600 ≤ 0 ∧ -f1.toInt + f.toInt ≤ 0 ∧ f1.toInt - f.toInt - 1600 ≤ 0 ∧ f.toInt - f1.toInt ≤ 0
set_option maxRecDepth 10000 in
set_option maxHeartbeats 4000000 in
theorem c_318s1 (σ0 : SG) (hσ0 : WT σ0) (f : Int32) (h_f : (σ0 159)[8]? = some (.int f)) : En 5 113 none mr_318 (P_318s1 σ0 f) 0 [(0, .ref 159), (1, .retAddr 3)] [] σ0 := by
  obtain ⟨hl_f, hu_f⟩ := WT_int hσ0 (g := 35) (by decide +kernel) (by decide +kernel) (l := 0) (u := 1600) (by decide +kernel) h_f
  have hF0 : Fr [(35, 8), (35, 9), (35, 10), (35, 11)] σ0 σ0 := Fr_rfl
  refine En_Ps 2 (pc' := 2) (lv' := [(0, .ref 159), (1, .retAddr 3)]) (st' := [.retAddr 3, .ref 159]) rfl ?_
  refine En_callV rfl rfl rfl rfl rfl rfl rfl rfl (by decide +kernel : TG 159 = 35) (by decide +kernel) rfl (c_251s1 σ0 hσ0) (by decide) (by decide) (fun v2 σ3 h1 => ?_)
  obtain ⟨h4, h5, z7, rfl, h6⟩ := h1
  have h8 := Fr_trans hF0 h5 (by decide +kernel)
  refine En_Ps 2 (pc' := 7) (lv' := [(2, .int z7), (0, .ref 159), (1, .retAddr 3)]) (st' := [.int z7]) rfl ?_
  refine En_iEq _ rfl rfl (fun h9 => ?_) (fun h9 => ?_)
  · refine En_Ps 1 (pc' := 15) (lv' := [(2, .int z7), (0, .ref 159), (1, .retAddr 3)]) (st' := [.int z7]) rfl ?_
    exact En_ret (v := some (.int z7)) rfl rfl (retZ rfl rfl (by omega) (by omega)) ⟨h4, h8, f, ((h5 _ _ (inW (by decide +kernel : TG 159 = 35) (by decide +kernel))).trans h_f), z7, rfl, (by omega)⟩
  · refine En_Ps 1 (pc' := 11) (lv' := [(2, .int z7), (0, .ref 159), (1, .retAddr 3)]) (st' := [.ref 159]) rfl ?_
    refine En_callV rfl rfl rfl rfl rfl rfl rfl rfl (by decide +kernel : TG 159 = 35) (by decide +kernel) rfl (c_189 σ3 h4 f ((h5 _ _ (inW (by decide +kernel : TG 159 = 35) (by decide +kernel))).trans h_f)) (by decide) (by decide) (fun v11 σ12 h10 => ?_)
    obtain ⟨h13, h14, z16, h17, z18, h19, rfl, h15⟩ := h10
    have h20 := Fr_trans h8 h14 (by decide +kernel)
    refine En_Ps 1 (pc' := 15) (lv' := [(2, .int z7), (0, .ref 159), (1, .retAddr 3)]) (st' := [.int z7]) rfl ?_
    exact En_ret (v := some (.int z7)) rfl rfl (retZ rfl rfl (by omega) (by omega)) ⟨h13, h20, z16, h17, z7, rfl, (by omega)⟩
/-- DoorSchoolModel.takes(Ljava/lang/String;)Z -/
abbrev P_318s2 (σ0 : SG) (f : Int32) : PO := fun v σ => WT σ ∧ Fr [(35, 8), (35, 9), (35, 10), (35, 11)] σ0 σ ∧ ∃ f1 : Int32, (σ 159)[8]? = some (.int f1) ∧ ∃ ret : Int32, v = some (.int ret) ∧ -ret.toInt ≤ 0 ∧ ret.toInt - 1 ≤ 0 ∧ -f1.toInt ≤ 0 ∧ f1.toInt - 1600 ≤ 0 ∧ -f1.toInt + f.toInt ≤ 0 ∧ f1.toInt - f.toInt - 1600 ≤ 0 ∧ f.toInt - f1.toInt ≤ 0
set_option maxRecDepth 10000 in
set_option maxHeartbeats 4000000 in
theorem c_318s2 (σ0 : SG) (hσ0 : WT σ0) (f : Int32) (h_f : (σ0 159)[8]? = some (.int f)) : En 5 113 none mr_318 (P_318s2 σ0 f) 0 [(0, .ref 159), (1, .retAddr 5)] [] σ0 := by
  obtain ⟨hl_f, hu_f⟩ := WT_int hσ0 (g := 35) (by decide +kernel) (by decide +kernel) (l := 0) (u := 1600) (by decide +kernel) h_f
  have hF0 : Fr [(35, 8), (35, 9), (35, 10), (35, 11)] σ0 σ0 := Fr_rfl
  refine En_Ps 2 (pc' := 2) (lv' := [(0, .ref 159), (1, .retAddr 5)]) (st' := [.retAddr 5, .ref 159]) rfl ?_
  refine En_callV rfl rfl rfl rfl rfl rfl rfl rfl (by decide +kernel : TG 159 = 35) (by decide +kernel) rfl (c_251s2 σ0 hσ0) (by decide) (by decide) (fun v2 σ3 h1 => ?_)
  obtain ⟨h4, h5, z7, rfl, h6⟩ := h1
  have h8 := Fr_trans hF0 h5 (by decide +kernel)
  refine En_Ps 2 (pc' := 7) (lv' := [(2, .int z7), (0, .ref 159), (1, .retAddr 5)]) (st' := [.int z7]) rfl ?_
  refine En_iEq _ rfl rfl (fun h9 => ?_) (fun h9 => ?_)
  · refine En_Ps 1 (pc' := 15) (lv' := [(2, .int z7), (0, .ref 159), (1, .retAddr 5)]) (st' := [.int z7]) rfl ?_
    exact En_ret (v := some (.int z7)) rfl rfl (retZ rfl rfl (by omega) (by omega)) ⟨h4, h8, f, ((h5 _ _ (inW (by decide +kernel : TG 159 = 35) (by decide +kernel))).trans h_f), z7, rfl, (by omega)⟩
  · refine En_Ps 1 (pc' := 11) (lv' := [(2, .int z7), (0, .ref 159), (1, .retAddr 5)]) (st' := [.ref 159]) rfl ?_
    refine En_callV rfl rfl rfl rfl rfl rfl rfl rfl (by decide +kernel : TG 159 = 35) (by decide +kernel) rfl (c_189 σ3 h4 f ((h5 _ _ (inW (by decide +kernel : TG 159 = 35) (by decide +kernel))).trans h_f)) (by decide) (by decide) (fun v11 σ12 h10 => ?_)
    obtain ⟨h13, h14, z16, h17, z18, h19, rfl, h15⟩ := h10
    have h20 := Fr_trans h8 h14 (by decide +kernel)
    refine En_Ps 1 (pc' := 15) (lv' := [(2, .int z7), (0, .ref 159), (1, .retAddr 5)]) (st' := [.int z7]) rfl ?_
    exact En_ret (v := some (.int z7)) rfl rfl (retZ rfl rfl (by omega) (by omega)) ⟨h13, h20, z16, h17, z7, rfl, (by omega)⟩
/-- DoorSchoolModel.takes(Ljava/lang/String;)Z -/
abbrev P_318s3 (σ0 : SG) (f : Int32) : PO := fun v σ => WT σ ∧ Fr [(35, 8), (35, 9), (35, 10), (35, 11)] σ0 σ ∧ ∃ f1 : Int32, (σ 159)[8]? = some (.int f1) ∧ ∃ ret : Int32, v = some (.int ret) ∧ -ret.toInt ≤ 0 ∧ ret.toInt - 1 ≤ 0 ∧ -f1.toInt ≤ 0 ∧ f1.toInt - 1600 ≤ 0 ∧ -f1.toInt + f.toInt ≤ 0 ∧ f1.toInt - f.toInt - 1600 ≤ 0 ∧ f.toInt - f1.toInt ≤ 0
set_option maxRecDepth 10000 in
set_option maxHeartbeats 4000000 in
theorem c_318s3 (σ0 : SG) (hσ0 : WT σ0) (f : Int32) (h_f : (σ0 159)[8]? = some (.int f)) : En 5 113 none mr_318 (P_318s3 σ0 f) 0 [(0, .ref 159), (1, .retAddr 7)] [] σ0 := by
  obtain ⟨hl_f, hu_f⟩ := WT_int hσ0 (g := 35) (by decide +kernel) (by decide +kernel) (l := 0) (u := 1600) (by decide +kernel) h_f
  have hF0 : Fr [(35, 8), (35, 9), (35, 10), (35, 11)] σ0 σ0 := Fr_rfl
  refine En_Ps 2 (pc' := 2) (lv' := [(0, .ref 159), (1, .retAddr 7)]) (st' := [.retAddr 7, .ref 159]) rfl ?_
  refine En_callV rfl rfl rfl rfl rfl rfl rfl rfl (by decide +kernel : TG 159 = 35) (by decide +kernel) rfl (c_251s3 σ0 hσ0) (by decide) (by decide) (fun v2 σ3 h1 => ?_)
  obtain ⟨h4, h5, z7, rfl, h6⟩ := h1
  have h8 := Fr_trans hF0 h5 (by decide +kernel)
  refine En_Ps 2 (pc' := 7) (lv' := [(2, .int z7), (0, .ref 159), (1, .retAddr 7)]) (st' := [.int z7]) rfl ?_
  refine En_iEq _ rfl rfl (fun h9 => ?_) (fun h9 => ?_)
  · refine En_Ps 1 (pc' := 15) (lv' := [(2, .int z7), (0, .ref 159), (1, .retAddr 7)]) (st' := [.int z7]) rfl ?_
    exact En_ret (v := some (.int z7)) rfl rfl (retZ rfl rfl (by omega) (by omega)) ⟨h4, h8, f, ((h5 _ _ (inW (by decide +kernel : TG 159 = 35) (by decide +kernel))).trans h_f), z7, rfl, (by omega)⟩
  · refine En_Ps 1 (pc' := 11) (lv' := [(2, .int z7), (0, .ref 159), (1, .retAddr 7)]) (st' := [.ref 159]) rfl ?_
    refine En_callV rfl rfl rfl rfl rfl rfl rfl rfl (by decide +kernel : TG 159 = 35) (by decide +kernel) rfl (c_189 σ3 h4 f ((h5 _ _ (inW (by decide +kernel : TG 159 = 35) (by decide +kernel))).trans h_f)) (by decide) (by decide) (fun v11 σ12 h10 => ?_)
    obtain ⟨h13, h14, z16, h17, z18, h19, rfl, h15⟩ := h10
    have h20 := Fr_trans h8 h14 (by decide +kernel)
    refine En_Ps 1 (pc' := 15) (lv' := [(2, .int z7), (0, .ref 159), (1, .retAddr 7)]) (st' := [.int z7]) rfl ?_
    exact En_ret (v := some (.int z7)) rfl rfl (retZ rfl rfl (by omega) (by omega)) ⟨h13, h20, z16, h17, z7, rfl, (by omega)⟩
/-- DoorSchoolModel.takes(Ljava/lang/String;)Z -/
abbrev P_318s4 (σ0 : SG) (f : Int32) : PO := fun v σ => WT σ ∧ Fr [(35, 8), (35, 9), (35, 10), (35, 11)] σ0 σ ∧ ∃ f1 : Int32, (σ 159)[8]? = some (.int f1) ∧ ∃ ret : Int32, v = some (.int ret) ∧ -ret.toInt ≤ 0 ∧ ret.toInt - 1 ≤ 0 ∧ -f1.toInt ≤ 0 ∧ f1.toInt - 1600 ≤ 0 ∧ -f1.toInt + f.toInt ≤ 0 ∧ f1.toInt - f.toInt - 1600 ≤ 0 ∧ f.toInt - f1.toInt ≤ 0
set_option maxRecDepth 10000 in
set_option maxHeartbeats 4000000 in
theorem c_318s4 (σ0 : SG) (hσ0 : WT σ0) (f : Int32) (h_f : (σ0 159)[8]? = some (.int f)) : En 5 113 none mr_318 (P_318s4 σ0 f) 0 [(0, .ref 159), (1, .retAddr 9)] [] σ0 := by
  obtain ⟨hl_f, hu_f⟩ := WT_int hσ0 (g := 35) (by decide +kernel) (by decide +kernel) (l := 0) (u := 1600) (by decide +kernel) h_f
  have hF0 : Fr [(35, 8), (35, 9), (35, 10), (35, 11)] σ0 σ0 := Fr_rfl
  refine En_Ps 2 (pc' := 2) (lv' := [(0, .ref 159), (1, .retAddr 9)]) (st' := [.retAddr 9, .ref 159]) rfl ?_
  refine En_callV rfl rfl rfl rfl rfl rfl rfl rfl (by decide +kernel : TG 159 = 35) (by decide +kernel) rfl (c_251s4 σ0 hσ0) (by decide) (by decide) (fun v2 σ3 h1 => ?_)
  obtain ⟨h4, h5, z7, rfl, h6⟩ := h1
  have h8 := Fr_trans hF0 h5 (by decide +kernel)
  refine En_Ps 2 (pc' := 7) (lv' := [(2, .int z7), (0, .ref 159), (1, .retAddr 9)]) (st' := [.int z7]) rfl ?_
  refine En_iEq _ rfl rfl (fun h9 => ?_) (fun h9 => ?_)
  · refine En_Ps 1 (pc' := 15) (lv' := [(2, .int z7), (0, .ref 159), (1, .retAddr 9)]) (st' := [.int z7]) rfl ?_
    exact En_ret (v := some (.int z7)) rfl rfl (retZ rfl rfl (by omega) (by omega)) ⟨h4, h8, f, ((h5 _ _ (inW (by decide +kernel : TG 159 = 35) (by decide +kernel))).trans h_f), z7, rfl, (by omega)⟩
  · refine En_Ps 1 (pc' := 11) (lv' := [(2, .int z7), (0, .ref 159), (1, .retAddr 9)]) (st' := [.ref 159]) rfl ?_
    refine En_callV rfl rfl rfl rfl rfl rfl rfl rfl (by decide +kernel : TG 159 = 35) (by decide +kernel) rfl (c_189 σ3 h4 f ((h5 _ _ (inW (by decide +kernel : TG 159 = 35) (by decide +kernel))).trans h_f)) (by decide) (by decide) (fun v11 σ12 h10 => ?_)
    obtain ⟨h13, h14, z16, h17, z18, h19, rfl, h15⟩ := h10
    have h20 := Fr_trans h8 h14 (by decide +kernel)
    refine En_Ps 1 (pc' := 15) (lv' := [(2, .int z7), (0, .ref 159), (1, .retAddr 9)]) (st' := [.int z7]) rfl ?_
    exact En_ret (v := some (.int z7)) rfl rfl (retZ rfl rfl (by omega) (by omega)) ⟨h13, h20, z16, h17, z7, rfl, (by omega)⟩
/-- DoorSchoolModel.takes(Ljava/lang/String;)Z -/
abbrev P_318s5 (σ0 : SG) (f : Int32) : PO := fun v σ => WT σ ∧ Fr [(35, 8), (35, 9), (35, 10), (35, 11)] σ0 σ ∧ ∃ f1 : Int32, (σ 159)[8]? = some (.int f1) ∧ ∃ ret : Int32, v = some (.int ret) ∧ -ret.toInt ≤ 0 ∧ ret.toInt - 1 ≤ 0 ∧ -f1.toInt ≤ 0 ∧ f1.toInt - 1600 ≤ 0 ∧ -f1.toInt + f.toInt ≤ 0 ∧ f1.toInt - f.toInt - 1600 ≤ 0 ∧ f.toInt - f1.toInt ≤ 0
set_option maxRecDepth 10000 in
set_option maxHeartbeats 4000000 in
theorem c_318s5 (σ0 : SG) (hσ0 : WT σ0) (f : Int32) (h_f : (σ0 159)[8]? = some (.int f)) : En 5 113 none mr_318 (P_318s5 σ0 f) 0 [(0, .ref 159), (1, .retAddr 11)] [] σ0 := by
  obtain ⟨hl_f, hu_f⟩ := WT_int hσ0 (g := 35) (by decide +kernel) (by decide +kernel) (l := 0) (u := 1600) (by decide +kernel) h_f
  have hF0 : Fr [(35, 8), (35, 9), (35, 10), (35, 11)] σ0 σ0 := Fr_rfl
  refine En_Ps 2 (pc' := 2) (lv' := [(0, .ref 159), (1, .retAddr 11)]) (st' := [.retAddr 11, .ref 159]) rfl ?_
  refine En_callV rfl rfl rfl rfl rfl rfl rfl rfl (by decide +kernel : TG 159 = 35) (by decide +kernel) rfl (c_251s5 σ0 hσ0) (by decide) (by decide) (fun v2 σ3 h1 => ?_)
  obtain ⟨h4, h5, z7, rfl, h6⟩ := h1
  have h8 := Fr_trans hF0 h5 (by decide +kernel)
  refine En_Ps 2 (pc' := 7) (lv' := [(2, .int z7), (0, .ref 159), (1, .retAddr 11)]) (st' := [.int z7]) rfl ?_
  refine En_iEq _ rfl rfl (fun h9 => ?_) (fun h9 => ?_)
  · refine En_Ps 1 (pc' := 15) (lv' := [(2, .int z7), (0, .ref 159), (1, .retAddr 11)]) (st' := [.int z7]) rfl ?_
    exact En_ret (v := some (.int z7)) rfl rfl (retZ rfl rfl (by omega) (by omega)) ⟨h4, h8, f, ((h5 _ _ (inW (by decide +kernel : TG 159 = 35) (by decide +kernel))).trans h_f), z7, rfl, (by omega)⟩
  · refine En_Ps 1 (pc' := 11) (lv' := [(2, .int z7), (0, .ref 159), (1, .retAddr 11)]) (st' := [.ref 159]) rfl ?_
    refine En_callV rfl rfl rfl rfl rfl rfl rfl rfl (by decide +kernel : TG 159 = 35) (by decide +kernel) rfl (c_189 σ3 h4 f ((h5 _ _ (inW (by decide +kernel : TG 159 = 35) (by decide +kernel))).trans h_f)) (by decide) (by decide) (fun v11 σ12 h10 => ?_)
    obtain ⟨h13, h14, z16, h17, z18, h19, rfl, h15⟩ := h10
    have h20 := Fr_trans h8 h14 (by decide +kernel)
    refine En_Ps 1 (pc' := 15) (lv' := [(2, .int z7), (0, .ref 159), (1, .retAddr 11)]) (st' := [.int z7]) rfl ?_
    exact En_ret (v := some (.int z7)) rfl rfl (retZ rfl rfl (by omega) (by omega)) ⟨h13, h20, z16, h17, z7, rfl, (by omega)⟩
/-- DoorSchoolModel.takes(Ljava/lang/String;)Z -/
abbrev P_318s6 (σ0 : SG) (f : Int32) : PO := fun v σ => WT σ ∧ Fr [(35, 8), (35, 9), (35, 10), (35, 11)] σ0 σ ∧ ∃ f1 : Int32, (σ 159)[8]? = some (.int f1) ∧ ∃ ret : Int32, v = some (.int ret) ∧ -ret.toInt ≤ 0 ∧ ret.toInt - 1 ≤ 0 ∧ -f1.toInt ≤ 0 ∧ f1.toInt - 1600 ≤ 0 ∧ -f1.toInt + f.toInt ≤ 0 ∧ f1.toInt - f.toInt - 1600 ≤ 0 ∧ f.toInt - f1.toInt ≤ 0
set_option maxRecDepth 10000 in
set_option maxHeartbeats 4000000 in
theorem c_318s6 (σ0 : SG) (hσ0 : WT σ0) (f : Int32) (h_f : (σ0 159)[8]? = some (.int f)) : En 5 113 none mr_318 (P_318s6 σ0 f) 0 [(0, .ref 159), (1, .retAddr 13)] [] σ0 := by
  obtain ⟨hl_f, hu_f⟩ := WT_int hσ0 (g := 35) (by decide +kernel) (by decide +kernel) (l := 0) (u := 1600) (by decide +kernel) h_f
  have hF0 : Fr [(35, 8), (35, 9), (35, 10), (35, 11)] σ0 σ0 := Fr_rfl
  refine En_Ps 2 (pc' := 2) (lv' := [(0, .ref 159), (1, .retAddr 13)]) (st' := [.retAddr 13, .ref 159]) rfl ?_
  refine En_callV rfl rfl rfl rfl rfl rfl rfl rfl (by decide +kernel : TG 159 = 35) (by decide +kernel) rfl (c_251s6 σ0 hσ0) (by decide) (by decide) (fun v2 σ3 h1 => ?_)
  obtain ⟨h4, h5, z7, rfl, h6⟩ := h1
  have h8 := Fr_trans hF0 h5 (by decide +kernel)
  refine En_Ps 2 (pc' := 7) (lv' := [(2, .int z7), (0, .ref 159), (1, .retAddr 13)]) (st' := [.int z7]) rfl ?_
  refine En_iEq _ rfl rfl (fun h9 => ?_) (fun h9 => ?_)
  · refine En_Ps 1 (pc' := 15) (lv' := [(2, .int z7), (0, .ref 159), (1, .retAddr 13)]) (st' := [.int z7]) rfl ?_
    exact En_ret (v := some (.int z7)) rfl rfl (retZ rfl rfl (by omega) (by omega)) ⟨h4, h8, f, ((h5 _ _ (inW (by decide +kernel : TG 159 = 35) (by decide +kernel))).trans h_f), z7, rfl, (by omega)⟩
  · refine En_Ps 1 (pc' := 11) (lv' := [(2, .int z7), (0, .ref 159), (1, .retAddr 13)]) (st' := [.ref 159]) rfl ?_
    refine En_callV rfl rfl rfl rfl rfl rfl rfl rfl (by decide +kernel : TG 159 = 35) (by decide +kernel) rfl (c_189 σ3 h4 f ((h5 _ _ (inW (by decide +kernel : TG 159 = 35) (by decide +kernel))).trans h_f)) (by decide) (by decide) (fun v11 σ12 h10 => ?_)
    obtain ⟨h13, h14, z16, h17, z18, h19, rfl, h15⟩ := h10
    have h20 := Fr_trans h8 h14 (by decide +kernel)
    refine En_Ps 1 (pc' := 15) (lv' := [(2, .int z7), (0, .ref 159), (1, .retAddr 13)]) (st' := [.int z7]) rfl ?_
    exact En_ret (v := some (.int z7)) rfl rfl (retZ rfl rfl (by omega) (by omega)) ⟨h13, h20, z16, h17, z7, rfl, (by omega)⟩
/-- DoorSchoolModel.takes(Ljava/lang/String;)Z -/
abbrev P_318s7 (σ0 : SG) (f : Int32) : PO := fun v σ => WT σ ∧ Fr [(35, 8), (35, 9), (35, 10), (35, 11)] σ0 σ ∧ ∃ f1 : Int32, (σ 159)[8]? = some (.int f1) ∧ ∃ ret : Int32, v = some (.int ret) ∧ -ret.toInt ≤ 0 ∧ ret.toInt - 1 ≤ 0 ∧ -f1.toInt ≤ 0 ∧ f1.toInt - 1600 ≤ 0 ∧ -f1.toInt + f.toInt ≤ 0 ∧ f1.toInt - f.toInt - 1600 ≤ 0 ∧ f.toInt - f1.toInt ≤ 0
set_option maxRecDepth 10000 in
set_option maxHeartbeats 4000000 in
theorem c_318s7 (σ0 : SG) (hσ0 : WT σ0) (f : Int32) (h_f : (σ0 159)[8]? = some (.int f)) : En 5 113 none mr_318 (P_318s7 σ0 f) 0 [(0, .ref 159), (1, .retAddr 15)] [] σ0 := by
  obtain ⟨hl_f, hu_f⟩ := WT_int hσ0 (g := 35) (by decide +kernel) (by decide +kernel) (l := 0) (u := 1600) (by decide +kernel) h_f
  have hF0 : Fr [(35, 8), (35, 9), (35, 10), (35, 11)] σ0 σ0 := Fr_rfl
  refine En_Ps 2 (pc' := 2) (lv' := [(0, .ref 159), (1, .retAddr 15)]) (st' := [.retAddr 15, .ref 159]) rfl ?_
  refine En_callV rfl rfl rfl rfl rfl rfl rfl rfl (by decide +kernel : TG 159 = 35) (by decide +kernel) rfl (c_251s7 σ0 hσ0) (by decide) (by decide) (fun v2 σ3 h1 => ?_)
  obtain ⟨h4, h5, z7, rfl, h6⟩ := h1
  have h8 := Fr_trans hF0 h5 (by decide +kernel)
  refine En_Ps 2 (pc' := 7) (lv' := [(2, .int z7), (0, .ref 159), (1, .retAddr 15)]) (st' := [.int z7]) rfl ?_
  refine En_iEq _ rfl rfl (fun h9 => ?_) (fun h9 => ?_)
  · refine En_Ps 1 (pc' := 15) (lv' := [(2, .int z7), (0, .ref 159), (1, .retAddr 15)]) (st' := [.int z7]) rfl ?_
    exact En_ret (v := some (.int z7)) rfl rfl (retZ rfl rfl (by omega) (by omega)) ⟨h4, h8, f, ((h5 _ _ (inW (by decide +kernel : TG 159 = 35) (by decide +kernel))).trans h_f), z7, rfl, (by omega)⟩
  · refine En_Ps 1 (pc' := 11) (lv' := [(2, .int z7), (0, .ref 159), (1, .retAddr 15)]) (st' := [.ref 159]) rfl ?_
    refine En_callV rfl rfl rfl rfl rfl rfl rfl rfl (by decide +kernel : TG 159 = 35) (by decide +kernel) rfl (c_189 σ3 h4 f ((h5 _ _ (inW (by decide +kernel : TG 159 = 35) (by decide +kernel))).trans h_f)) (by decide) (by decide) (fun v11 σ12 h10 => ?_)
    obtain ⟨h13, h14, z16, h17, z18, h19, rfl, h15⟩ := h10
    have h20 := Fr_trans h8 h14 (by decide +kernel)
    refine En_Ps 1 (pc' := 15) (lv' := [(2, .int z7), (0, .ref 159), (1, .retAddr 15)]) (st' := [.int z7]) rfl ?_
    exact En_ret (v := some (.int z7)) rfl rfl (retZ rfl rfl (by omega) (by omega)) ⟨h13, h20, z16, h17, z7, rfl, (by omega)⟩
/-- DoorSchoolModel.takes(Ljava/lang/String;)Z -/
abbrev P_318s8 (σ0 : SG) (f : Int32) : PO := fun v σ => WT σ ∧ Fr [(35, 8), (35, 9), (35, 10), (35, 11)] σ0 σ ∧ ∃ f1 : Int32, (σ 159)[8]? = some (.int f1) ∧ ∃ ret : Int32, v = some (.int ret) ∧ -ret.toInt ≤ 0 ∧ ret.toInt - 1 ≤ 0 ∧ -f1.toInt ≤ 0 ∧ f1.toInt - 1600 ≤ 0 ∧ -f1.toInt + f.toInt ≤ 0 ∧ f1.toInt - f.toInt - 1600 ≤ 0 ∧ f.toInt - f1.toInt ≤ 0
set_option maxRecDepth 10000 in
set_option maxHeartbeats 4000000 in
theorem c_318s8 (σ0 : SG) (hσ0 : WT σ0) (f : Int32) (h_f : (σ0 159)[8]? = some (.int f)) : En 5 113 none mr_318 (P_318s8 σ0 f) 0 [(0, .ref 159), (1, .retAddr 17)] [] σ0 := by
  obtain ⟨hl_f, hu_f⟩ := WT_int hσ0 (g := 35) (by decide +kernel) (by decide +kernel) (l := 0) (u := 1600) (by decide +kernel) h_f
  have hF0 : Fr [(35, 8), (35, 9), (35, 10), (35, 11)] σ0 σ0 := Fr_rfl
  refine En_Ps 2 (pc' := 2) (lv' := [(0, .ref 159), (1, .retAddr 17)]) (st' := [.retAddr 17, .ref 159]) rfl ?_
  refine En_callV rfl rfl rfl rfl rfl rfl rfl rfl (by decide +kernel : TG 159 = 35) (by decide +kernel) rfl (c_251s8 σ0 hσ0) (by decide) (by decide) (fun v2 σ3 h1 => ?_)
  obtain ⟨h4, h5, z7, rfl, h6⟩ := h1
  have h8 := Fr_trans hF0 h5 (by decide +kernel)
  refine En_Ps 2 (pc' := 7) (lv' := [(2, .int z7), (0, .ref 159), (1, .retAddr 17)]) (st' := [.int z7]) rfl ?_
  refine En_iEq _ rfl rfl (fun h9 => ?_) (fun h9 => ?_)
  · refine En_Ps 1 (pc' := 15) (lv' := [(2, .int z7), (0, .ref 159), (1, .retAddr 17)]) (st' := [.int z7]) rfl ?_
    exact En_ret (v := some (.int z7)) rfl rfl (retZ rfl rfl (by omega) (by omega)) ⟨h4, h8, f, ((h5 _ _ (inW (by decide +kernel : TG 159 = 35) (by decide +kernel))).trans h_f), z7, rfl, (by omega)⟩
  · refine En_Ps 1 (pc' := 11) (lv' := [(2, .int z7), (0, .ref 159), (1, .retAddr 17)]) (st' := [.ref 159]) rfl ?_
    refine En_callV rfl rfl rfl rfl rfl rfl rfl rfl (by decide +kernel : TG 159 = 35) (by decide +kernel) rfl (c_189 σ3 h4 f ((h5 _ _ (inW (by decide +kernel : TG 159 = 35) (by decide +kernel))).trans h_f)) (by decide) (by decide) (fun v11 σ12 h10 => ?_)
    obtain ⟨h13, h14, z16, h17, z18, h19, rfl, h15⟩ := h10
    have h20 := Fr_trans h8 h14 (by decide +kernel)
    refine En_Ps 1 (pc' := 15) (lv' := [(2, .int z7), (0, .ref 159), (1, .retAddr 17)]) (st' := [.int z7]) rfl ?_
    exact En_ret (v := some (.int z7)) rfl rfl (retZ rfl rfl (by omega) (by omega)) ⟨h13, h20, z16, h17, z7, rfl, (by omega)⟩
/-- DoorSchoolModel.takes(Ljava/lang/String;)Z -/
abbrev P_318s9 (σ0 : SG) (f : Int32) : PO := fun v σ => WT σ ∧ Fr [(35, 8), (35, 9), (35, 10), (35, 11)] σ0 σ ∧ ∃ f1 : Int32, (σ 159)[8]? = some (.int f1) ∧ ∃ ret : Int32, v = some (.int ret) ∧ -ret.toInt ≤ 0 ∧ ret.toInt - 1 ≤ 0 ∧ -f1.toInt ≤ 0 ∧ f1.toInt - 1600 ≤ 0 ∧ -f1.toInt + f.toInt ≤ 0 ∧ f1.toInt - f.toInt - 1600 ≤ 0 ∧ f.toInt - f1.toInt ≤ 0
set_option maxRecDepth 10000 in
set_option maxHeartbeats 4000000 in
theorem c_318s9 (σ0 : SG) (hσ0 : WT σ0) (f : Int32) (h_f : (σ0 159)[8]? = some (.int f)) : En 5 113 none mr_318 (P_318s9 σ0 f) 0 [(0, .ref 159), (1, .retAddr 19)] [] σ0 := by
  obtain ⟨hl_f, hu_f⟩ := WT_int hσ0 (g := 35) (by decide +kernel) (by decide +kernel) (l := 0) (u := 1600) (by decide +kernel) h_f
  have hF0 : Fr [(35, 8), (35, 9), (35, 10), (35, 11)] σ0 σ0 := Fr_rfl
  refine En_Ps 2 (pc' := 2) (lv' := [(0, .ref 159), (1, .retAddr 19)]) (st' := [.retAddr 19, .ref 159]) rfl ?_
  refine En_callV rfl rfl rfl rfl rfl rfl rfl rfl (by decide +kernel : TG 159 = 35) (by decide +kernel) rfl (c_251s9 σ0 hσ0) (by decide) (by decide) (fun v2 σ3 h1 => ?_)
  obtain ⟨h4, h5, z7, rfl, h6⟩ := h1
  have h8 := Fr_trans hF0 h5 (by decide +kernel)
  refine En_Ps 2 (pc' := 7) (lv' := [(2, .int z7), (0, .ref 159), (1, .retAddr 19)]) (st' := [.int z7]) rfl ?_
  refine En_iEq _ rfl rfl (fun h9 => ?_) (fun h9 => ?_)
  · refine En_Ps 1 (pc' := 15) (lv' := [(2, .int z7), (0, .ref 159), (1, .retAddr 19)]) (st' := [.int z7]) rfl ?_
    exact En_ret (v := some (.int z7)) rfl rfl (retZ rfl rfl (by omega) (by omega)) ⟨h4, h8, f, ((h5 _ _ (inW (by decide +kernel : TG 159 = 35) (by decide +kernel))).trans h_f), z7, rfl, (by omega)⟩
  · refine En_Ps 1 (pc' := 11) (lv' := [(2, .int z7), (0, .ref 159), (1, .retAddr 19)]) (st' := [.ref 159]) rfl ?_
    refine En_callV rfl rfl rfl rfl rfl rfl rfl rfl (by decide +kernel : TG 159 = 35) (by decide +kernel) rfl (c_189 σ3 h4 f ((h5 _ _ (inW (by decide +kernel : TG 159 = 35) (by decide +kernel))).trans h_f)) (by decide) (by decide) (fun v11 σ12 h10 => ?_)
    obtain ⟨h13, h14, z16, h17, z18, h19, rfl, h15⟩ := h10
    have h20 := Fr_trans h8 h14 (by decide +kernel)
    refine En_Ps 1 (pc' := 15) (lv' := [(2, .int z7), (0, .ref 159), (1, .retAddr 19)]) (st' := [.int z7]) rfl ?_
    exact En_ret (v := some (.int z7)) rfl rfl (retZ rfl rfl (by omega) (by omega)) ⟨h13, h20, z16, h17, z7, rfl, (by omega)⟩
/-- DoorSchoolModel.takes(Ljava/lang/String;)Z -/
abbrev P_318s10 (σ0 : SG) (f : Int32) : PO := fun v σ => WT σ ∧ Fr [(35, 8), (35, 9), (35, 10), (35, 11)] σ0 σ ∧ ∃ f1 : Int32, (σ 159)[8]? = some (.int f1) ∧ ∃ ret : Int32, v = some (.int ret) ∧ -ret.toInt ≤ 0 ∧ ret.toInt - 1 ≤ 0 ∧ -f1.toInt ≤ 0 ∧ f1.toInt - 1600 ≤ 0 ∧ -f1.toInt + f.toInt ≤ 0 ∧ f1.toInt - f.toInt - 1600 ≤ 0 ∧ f.toInt - f1.toInt ≤ 0
set_option maxRecDepth 10000 in
set_option maxHeartbeats 4000000 in
theorem c_318s10 (σ0 : SG) (hσ0 : WT σ0) (f : Int32) (h_f : (σ0 159)[8]? = some (.int f)) : En 5 113 none mr_318 (P_318s10 σ0 f) 0 [(0, .ref 159), (1, .retAddr 21)] [] σ0 := by
  obtain ⟨hl_f, hu_f⟩ := WT_int hσ0 (g := 35) (by decide +kernel) (by decide +kernel) (l := 0) (u := 1600) (by decide +kernel) h_f
  have hF0 : Fr [(35, 8), (35, 9), (35, 10), (35, 11)] σ0 σ0 := Fr_rfl
  refine En_Ps 2 (pc' := 2) (lv' := [(0, .ref 159), (1, .retAddr 21)]) (st' := [.retAddr 21, .ref 159]) rfl ?_
  refine En_callV rfl rfl rfl rfl rfl rfl rfl rfl (by decide +kernel : TG 159 = 35) (by decide +kernel) rfl (c_251s10 σ0 hσ0) (by decide) (by decide) (fun v2 σ3 h1 => ?_)
  obtain ⟨h4, h5, z7, rfl, h6⟩ := h1
  have h8 := Fr_trans hF0 h5 (by decide +kernel)
  refine En_Ps 2 (pc' := 7) (lv' := [(2, .int z7), (0, .ref 159), (1, .retAddr 21)]) (st' := [.int z7]) rfl ?_
  refine En_iEq _ rfl rfl (fun h9 => ?_) (fun h9 => ?_)
  · refine En_Ps 1 (pc' := 15) (lv' := [(2, .int z7), (0, .ref 159), (1, .retAddr 21)]) (st' := [.int z7]) rfl ?_
    exact En_ret (v := some (.int z7)) rfl rfl (retZ rfl rfl (by omega) (by omega)) ⟨h4, h8, f, ((h5 _ _ (inW (by decide +kernel : TG 159 = 35) (by decide +kernel))).trans h_f), z7, rfl, (by omega)⟩
  · refine En_Ps 1 (pc' := 11) (lv' := [(2, .int z7), (0, .ref 159), (1, .retAddr 21)]) (st' := [.ref 159]) rfl ?_
    refine En_callV rfl rfl rfl rfl rfl rfl rfl rfl (by decide +kernel : TG 159 = 35) (by decide +kernel) rfl (c_189 σ3 h4 f ((h5 _ _ (inW (by decide +kernel : TG 159 = 35) (by decide +kernel))).trans h_f)) (by decide) (by decide) (fun v11 σ12 h10 => ?_)
    obtain ⟨h13, h14, z16, h17, z18, h19, rfl, h15⟩ := h10
    have h20 := Fr_trans h8 h14 (by decide +kernel)
    refine En_Ps 1 (pc' := 15) (lv' := [(2, .int z7), (0, .ref 159), (1, .retAddr 21)]) (st' := [.int z7]) rfl ?_
    exact En_ret (v := some (.int z7)) rfl rfl (retZ rfl rfl (by omega) (by omega)) ⟨h13, h20, z16, h17, z7, rfl, (by omega)⟩
/-- DoorSchoolModel.takes(Ljava/lang/String;)Z -/
abbrev P_318s11 (σ0 : SG) (f : Int32) : PO := fun v σ => WT σ ∧ Fr [(35, 8), (35, 9), (35, 10), (35, 11)] σ0 σ ∧ ∃ f1 : Int32, (σ 159)[8]? = some (.int f1) ∧ ∃ ret : Int32, v = some (.int ret) ∧ -ret.toInt ≤ 0 ∧ ret.toInt - 1 ≤ 0 ∧ -f1.toInt ≤ 0 ∧ f1.toInt - 1600 ≤ 0 ∧ -f1.toInt + f.toInt ≤ 0 ∧ f1.toInt - f.toInt - 1600 ≤ 0 ∧ f.toInt - f1.toInt ≤ 0
set_option maxRecDepth 10000 in
set_option maxHeartbeats 4000000 in
theorem c_318s11 (σ0 : SG) (hσ0 : WT σ0) (f : Int32) (h_f : (σ0 159)[8]? = some (.int f)) : En 5 113 none mr_318 (P_318s11 σ0 f) 0 [(0, .ref 159), (1, .retAddr 23)] [] σ0 := by
  obtain ⟨hl_f, hu_f⟩ := WT_int hσ0 (g := 35) (by decide +kernel) (by decide +kernel) (l := 0) (u := 1600) (by decide +kernel) h_f
  have hF0 : Fr [(35, 8), (35, 9), (35, 10), (35, 11)] σ0 σ0 := Fr_rfl
  refine En_Ps 2 (pc' := 2) (lv' := [(0, .ref 159), (1, .retAddr 23)]) (st' := [.retAddr 23, .ref 159]) rfl ?_
  refine En_callV rfl rfl rfl rfl rfl rfl rfl rfl (by decide +kernel : TG 159 = 35) (by decide +kernel) rfl (c_251s11 σ0 hσ0) (by decide) (by decide) (fun v2 σ3 h1 => ?_)
  obtain ⟨h4, h5, z7, rfl, h6⟩ := h1
  have h8 := Fr_trans hF0 h5 (by decide +kernel)
  refine En_Ps 2 (pc' := 7) (lv' := [(2, .int z7), (0, .ref 159), (1, .retAddr 23)]) (st' := [.int z7]) rfl ?_
  refine En_iEq _ rfl rfl (fun h9 => ?_) (fun h9 => ?_)
  · refine En_Ps 1 (pc' := 15) (lv' := [(2, .int z7), (0, .ref 159), (1, .retAddr 23)]) (st' := [.int z7]) rfl ?_
    exact En_ret (v := some (.int z7)) rfl rfl (retZ rfl rfl (by omega) (by omega)) ⟨h4, h8, f, ((h5 _ _ (inW (by decide +kernel : TG 159 = 35) (by decide +kernel))).trans h_f), z7, rfl, (by omega)⟩
  · refine En_Ps 1 (pc' := 11) (lv' := [(2, .int z7), (0, .ref 159), (1, .retAddr 23)]) (st' := [.ref 159]) rfl ?_
    refine En_callV rfl rfl rfl rfl rfl rfl rfl rfl (by decide +kernel : TG 159 = 35) (by decide +kernel) rfl (c_189 σ3 h4 f ((h5 _ _ (inW (by decide +kernel : TG 159 = 35) (by decide +kernel))).trans h_f)) (by decide) (by decide) (fun v11 σ12 h10 => ?_)
    obtain ⟨h13, h14, z16, h17, z18, h19, rfl, h15⟩ := h10
    have h20 := Fr_trans h8 h14 (by decide +kernel)
    refine En_Ps 1 (pc' := 15) (lv' := [(2, .int z7), (0, .ref 159), (1, .retAddr 23)]) (st' := [.int z7]) rfl ?_
    exact En_ret (v := some (.int z7)) rfl rfl (retZ rfl rfl (by omega) (by omega)) ⟨h13, h20, z16, h17, z7, rfl, (by omega)⟩
/-- DoorSchoolModel.takes(Ljava/lang/String;)Z -/
abbrev P_318s12 (σ0 : SG) (f : Int32) : PO := fun v σ => WT σ ∧ Fr [(35, 8), (35, 9), (35, 10), (35, 11)] σ0 σ ∧ ∃ f1 : Int32, (σ 159)[8]? = some (.int f1) ∧ ∃ ret : Int32, v = some (.int ret) ∧ -ret.toInt ≤ 0 ∧ ret.toInt - 1 ≤ 0 ∧ -f1.toInt ≤ 0 ∧ f1.toInt - 1600 ≤ 0 ∧ -f1.toInt + f.toInt ≤ 0 ∧ f1.toInt - f.toInt - 1600 ≤ 0 ∧ f.toInt - f1.toInt ≤ 0
set_option maxRecDepth 10000 in
set_option maxHeartbeats 4000000 in
theorem c_318s12 (σ0 : SG) (hσ0 : WT σ0) (f : Int32) (h_f : (σ0 159)[8]? = some (.int f)) : En 5 113 none mr_318 (P_318s12 σ0 f) 0 [(0, .ref 159), (1, .retAddr 25)] [] σ0 := by
  obtain ⟨hl_f, hu_f⟩ := WT_int hσ0 (g := 35) (by decide +kernel) (by decide +kernel) (l := 0) (u := 1600) (by decide +kernel) h_f
  have hF0 : Fr [(35, 8), (35, 9), (35, 10), (35, 11)] σ0 σ0 := Fr_rfl
  refine En_Ps 2 (pc' := 2) (lv' := [(0, .ref 159), (1, .retAddr 25)]) (st' := [.retAddr 25, .ref 159]) rfl ?_
  refine En_callV rfl rfl rfl rfl rfl rfl rfl rfl (by decide +kernel : TG 159 = 35) (by decide +kernel) rfl (c_251s12 σ0 hσ0) (by decide) (by decide) (fun v2 σ3 h1 => ?_)
  obtain ⟨h4, h5, z7, rfl, h6⟩ := h1
  have h8 := Fr_trans hF0 h5 (by decide +kernel)
  refine En_Ps 2 (pc' := 7) (lv' := [(2, .int z7), (0, .ref 159), (1, .retAddr 25)]) (st' := [.int z7]) rfl ?_
  refine En_iEq _ rfl rfl (fun h9 => ?_) (fun h9 => ?_)
  · refine En_Ps 1 (pc' := 15) (lv' := [(2, .int z7), (0, .ref 159), (1, .retAddr 25)]) (st' := [.int z7]) rfl ?_
    exact En_ret (v := some (.int z7)) rfl rfl (retZ rfl rfl (by omega) (by omega)) ⟨h4, h8, f, ((h5 _ _ (inW (by decide +kernel : TG 159 = 35) (by decide +kernel))).trans h_f), z7, rfl, (by omega)⟩
  · refine En_Ps 1 (pc' := 11) (lv' := [(2, .int z7), (0, .ref 159), (1, .retAddr 25)]) (st' := [.ref 159]) rfl ?_
    refine En_callV rfl rfl rfl rfl rfl rfl rfl rfl (by decide +kernel : TG 159 = 35) (by decide +kernel) rfl (c_189 σ3 h4 f ((h5 _ _ (inW (by decide +kernel : TG 159 = 35) (by decide +kernel))).trans h_f)) (by decide) (by decide) (fun v11 σ12 h10 => ?_)
    obtain ⟨h13, h14, z16, h17, z18, h19, rfl, h15⟩ := h10
    have h20 := Fr_trans h8 h14 (by decide +kernel)
    refine En_Ps 1 (pc' := 15) (lv' := [(2, .int z7), (0, .ref 159), (1, .retAddr 25)]) (st' := [.int z7]) rfl ?_
    exact En_ret (v := some (.int z7)) rfl rfl (retZ rfl rfl (by omega) (by omega)) ⟨h13, h20, z16, h17, z7, rfl, (by omega)⟩
