/-- DoorSchoolModel.learnsBy(III)Z -/
abbrev P_275 (σ0 : SG) (a : Int32) (b : Int32) (c : Int32) : PO := fun v σ => WT σ ∧ Fr [(35, 21), (45, 0), (46, 0)] σ0 σ ∧ ∃ ret : Int32, v = some (.int ret) ∧ -ret.toInt ≤ 0 ∧ ret.toInt - 1 ≤ 0
set_option maxRecDepth 10000 in
set_option maxHeartbeats 4000000 in
theorem c_275 (σ0 : SG) (hσ0 : WT σ0) (a : Int32) (b : Int32) (c : Int32) : En 4 91 none mr_275 (P_275 σ0 a b c) 0 [(0, .ref 159), (1, .int a), (2, .int b), (3, .int c)] [] σ0 := by
  have hF0 : Fr [(35, 21), (45, 0), (46, 0)] σ0 σ0 := Fr_rfl
  refine En_Ps 1 (pc' := 1) (lv' := [(0, .ref 159), (1, .int a), (2, .int b), (3, .int c)]) (st' := [.int a]) rfl ?_
  refine En_iNe _ rfl rfl (fun h1 => ?_) (fun h1 => ?_)
  · refine En_Ps 2 (pc' := 20) (lv' := [(0, .ref 159), (1, .int a), (2, .int b), (3, .int c)]) (st' := [.int ((Int32.ofInt 1)), .int a]) rfl ?_
    refine En_icNe _ rfl (by decide : (Int32.ofInt 1).toInt = 1) rfl (fun h2 => ?_) (fun h2 => ?_)
    · refine En_Ps 3 (pc' := 85) (lv' := [(0, .ref 159), (1, .int a), (2, .int b), (3, .int c)]) (st' := [.int c, .int b, .ref 159]) rfl ?_
      refine En_callV rfl rfl rfl rfl rfl rfl rfl rfl (by decide +kernel : TG 159 = 35) (by decide +kernel) rfl (c_273 σ0 hσ0 b c) (by decide) (by decide) (fun v4 σ5 h3 => ?_)
      obtain ⟨h6, h7, rfl, h8⟩ := h3
      have h9 := Fr_trans hF0 h7 (by decide +kernel)
      refine En_Ps 2 (pc' := 90) (lv' := [(0, .ref 159), (1, .int a), (2, .int b), (3, .int c)]) (st' := [.int ((Int32.ofInt 2)), .ref 159]) rfl ?_
      have := (by decide : ((Int32.ofInt 2)).toInt = 2)
      refine En_callV rfl rfl rfl rfl rfl rfl rfl rfl (by decide +kernel : TG 159 = 35) (by decide +kernel) rfl (c_274 σ5 h6 ((Int32.ofInt 2))) (by decide) (by decide) (fun v11 σ12 h10 => ?_)
      obtain ⟨h13, h14, z16, rfl, h15⟩ := h10
      have h17 := Fr_trans h9 h14 (by decide +kernel)
      refine En_Ps 1 (pc' := 94) (lv' := [(0, .ref 159), (1, .int a), (2, .int b), (3, .int c)]) (st' := [.int c, .int z16]) rfl ?_
      refine En_icNe _ rfl rfl rfl (fun h18 => ?_) (fun h18 => ?_)
      · refine En_Ps 1 (pc' := 102) (lv' := [(0, .ref 159), (1, .int a), (2, .int b), (3, .int c)]) (st' := [.int ((Int32.ofInt 0))]) rfl ?_
        refine En_top (by decide : (Int32.ofInt 0).toInt = 0) (fun z19 h20 => ?_)
        exact En_ret (v := some (.int z19)) rfl rfl (retZ rfl rfl (by omega) (by omega)) ⟨h13, h17, z19, rfl, (by omega)⟩
      · refine En_Ps 2 (pc' := 102) (lv' := [(0, .ref 159), (1, .int a), (2, .int b), (3, .int c)]) (st' := [.int ((Int32.ofInt 1))]) rfl ?_
        refine En_top (by decide : (Int32.ofInt 1).toInt = 1) (fun z21 h22 => ?_)
        exact En_ret (v := some (.int z21)) rfl rfl (retZ rfl rfl (by omega) (by omega)) ⟨h13, h17, z21, rfl, (by omega)⟩
    · refine En_Ps 2 (pc' := 26) (lv' := [(4, .int ((Int32.ofInt 0))), (0, .ref 159), (1, .int a), (2, .int b), (3, .int c)]) (st' := []) rfl ?_
      have key26 : ∀ (n26 : Nat) (σ24 : SG) (y23 : Int32), WT σ24 → Fr [(35, 21), (45, 0), (46, 0)] σ0 σ24 → 0 ≤ y23.toInt → y23.toInt ≤ 81 → -y23.toInt + 81 < (n26 : Int) → En 4 91 none mr_275 (P_275 σ0 a b c) 26 [(0, .ref 159), (1, .int a), (2, .int b), (3, .int c), (4, .int y23)] [] σ24 := by
        intro n26
        induction n26 with
        | zero =>
          intro σ24 y23 h25 h26 h27 h28 h29
          exfalso; omega
        | succ n26 ih26 =>
          intro σ24 y23 h25 h26 h27 h28 h29
          refine En_Ps 2 (pc' := 29) (lv' := [(0, .ref 159), (1, .int a), (2, .int b), (3, .int c), (4, .int y23)]) (st' := [.ref 159, .int y23]) rfl ?_
          refine En_getI (j := 18) (l := 0) (u := 81) rfl rfl rfl (by decide +kernel : TG 159 = 35) (by decide +kernel) h25 (by decide +kernel) (fun z31 h30 h32 h33 => ?_)
          refine En_icGe _ rfl rfl rfl (fun h34 => ?_) (fun h34 => ?_)
          · refine En_Ps 1 (pc' := 73) (lv' := [(0, .ref 159), (1, .int a), (2, .int b), (3, .int c), (4, .int y23)]) (st' := [.int c]) rfl ?_
            refine En_iNe _ rfl rfl (fun h35 => ?_) (fun h35 => ?_)
            · refine En_Ps 1 (pc' := 81) (lv' := [(0, .ref 159), (1, .int a), (2, .int b), (3, .int c), (4, .int y23)]) (st' := [.int ((Int32.ofInt 0))]) rfl ?_
              refine En_top (by decide : (Int32.ofInt 0).toInt = 0) (fun z36 h37 => ?_)
              exact En_ret (v := some (.int z36)) rfl rfl (retZ rfl rfl (by omega) (by omega)) ⟨h25, h26, z36, rfl, (by omega)⟩
            · refine En_Ps 2 (pc' := 81) (lv' := [(0, .ref 159), (1, .int a), (2, .int b), (3, .int c), (4, .int y23)]) (st' := [.int ((Int32.ofInt 1))]) rfl ?_
              refine En_top (by decide : (Int32.ofInt 1).toInt = 1) (fun z38 h39 => ?_)
              exact En_ret (v := some (.int z38)) rfl rfl (retZ rfl rfl (by omega) (by omega)) ⟨h25, h26, z38, rfl, (by omega)⟩
          · refine En_Ps 1 (pc' := 36) (lv' := [(0, .ref 159), (1, .int a), (2, .int b), (3, .int c), (4, .int y23)]) (st' := [.ref 159]) rfl ?_
            refine En_getU (j := 17) (u := 168) (g' := 44) (q := 0) rfl rfl rfl (by decide +kernel : TG 159 = 35) (by decide +kernel) h25 (by decide +kernel) (by decide +kernel) (fun h40 => ?_)
            refine En_Ps 1 (pc' := 41) (lv' := [(0, .ref 159), (1, .int a), (2, .int b), (3, .int c), (4, .int y23)]) (st' := [.int y23, .ref 168]) rfl ?_
            refine En_iald (l := (-2147483648)) (u := 2147483647) rfl rfl (by decide +kernel : TG 168 = 44) (by decide +kernel) h25 (by omega) (lnI (by decide +kernel : LN _ = 81) (by omega)) (FTsgl (by decide +kernel)) (fun z43 h42 h44 h45 => ?_)
            refine En_Ps 2 (pc' := 44) (lv' := [(0, .ref 159), (1, .int a), (2, .int b), (3, .int c), (4, .int y23)]) (st' := [.int ((z43 ^^^ c))]) rfl ?_
            refine En_hav (fun z46 => ?_)
            refine En_Ps 2 (pc' := 46) (lv' := [(0, .ref 159), (1, .int a), (2, .int b), (3, .int c), (4, .int y23)]) (st' := [.int ((z46 &&& b))]) rfl ?_
            refine En_hav (fun z47 => ?_)
            refine En_iNe _ rfl rfl (fun h48 => ?_) (fun h48 => ?_)
            · refine En_Ps 1 (pc' := 69) (lv' := [(4, .int ((y23 + Int32.ofInt 1))), (0, .ref 159), (1, .int a), (2, .int b), (3, .int c)]) (st' := []) rfl ?_
              refine En_lv1 (addI rfl (by decide : (Int32.ofInt 1).toInt = 1) (by omega) (by omega)) (fun z49 h50 => ?_)
              refine En_Ps 1 (pc' := 26) (lv' := [(4, .int z49), (0, .ref 159), (1, .int a), (2, .int b), (3, .int c)]) (st' := []) rfl ?_
              refine En_lv (lv := [(0, .ref 159), (1, .int a), (2, .int b), (3, .int c), (4, .int z49)]) ⟨rfl, rfl, rfl, rfl, rfl, trivial⟩ ?_
              exact ih26 σ24 z49 h25 h26 (by omega) (by omega) (by omega)
            · refine En_Ps 1 (pc' := 50) (lv' := [(0, .ref 159), (1, .int a), (2, .int b), (3, .int c), (4, .int y23)]) (st' := [.ref 159]) rfl ?_
              refine En_getK (j := 17) h40 rfl rfl rfl (by decide +kernel : TG 159 = 35) (by decide +kernel) ?_
              refine En_Ps 1 (pc' := 55) (lv' := [(0, .ref 159), (1, .int a), (2, .int b), (3, .int c), (4, .int y23)]) (st' := [.int y23, .ref 168]) rfl ?_
              refine En_ialdK h42 rfl rfl (by decide +kernel : TG 168 = 44) (by decide +kernel) h25 (by omega) (lnI (by decide +kernel : LN _ = 81) (by omega)) ?_
              refine En_Ps 1 (pc' := 57) (lv' := [(0, .ref 159), (1, .int a), (2, .int b), (3, .int c), (4, .int y23)]) (st' := [.int c, .int z43]) rfl ?_
              refine En_icNe _ rfl rfl rfl (fun h52 => ?_) (fun h52 => ?_)
              · refine En_Ps 1 (pc' := 65) (lv' := [(0, .ref 159), (1, .int a), (2, .int b), (3, .int c), (4, .int y23)]) (st' := [.int ((Int32.ofInt 0))]) rfl ?_
                refine En_top (by decide : (Int32.ofInt 0).toInt = 0) (fun z53 h54 => ?_)
                exact En_ret (v := some (.int z53)) rfl rfl (retZ rfl rfl (by omega) (by omega)) ⟨h25, h26, z53, rfl, (by omega)⟩
              · refine En_Ps 2 (pc' := 65) (lv' := [(0, .ref 159), (1, .int a), (2, .int b), (3, .int c), (4, .int y23)]) (st' := [.int ((Int32.ofInt 1))]) rfl ?_
                refine En_top (by decide : (Int32.ofInt 1).toInt = 1) (fun z55 h56 => ?_)
                exact En_ret (v := some (.int z55)) rfl rfl (retZ rfl rfl (by omega) (by omega)) ⟨h25, h26, z55, rfl, (by omega)⟩
      have := (by decide : (Int32.ofInt 0).toInt = 0)
      refine En_lv (lv := [(0, .ref 159), (1, .int a), (2, .int b), (3, .int c), (4, .int ((Int32.ofInt 0)))]) ⟨rfl, rfl, rfl, rfl, rfl, trivial⟩ ?_
      exact key26 (Int.toNat (81) + 1) σ0 ((Int32.ofInt 0)) hσ0 hF0 (by omega) (by omega) (by omega)
  · refine En_Ps 4 (pc' := 8) (lv' := [(0, .ref 159), (1, .int a), (2, .int b), (3, .int c)]) (st' := [.int ((b ^^^ ((Int32.ofInt (-1))))), .int c]) rfl ?_
    refine En_nam (fun z57 h58 => ?_)
    refine En_Ps 1 (pc' := 9) (lv' := [(0, .ref 159), (1, .int a), (2, .int b), (3, .int c)]) (st' := [.int ((c &&& z57))]) rfl ?_
    refine En_nam (fun z59 h60 => ?_)
    refine En_iNe _ rfl rfl (fun h61 => ?_) (fun h61 => ?_)
    · refine En_Ps 1 (pc' := 17) (lv' := [(0, .ref 159), (1, .int a), (2, .int b), (3, .int c)]) (st' := [.int ((Int32.ofInt 0))]) rfl ?_
      refine En_top (by decide : (Int32.ofInt 0).toInt = 0) (fun z62 h63 => ?_)
      exact En_ret (v := some (.int z62)) rfl rfl (retZ rfl rfl (by omega) (by omega)) ⟨hσ0, hF0, z62, rfl, (by omega)⟩
    · refine En_Ps 2 (pc' := 17) (lv' := [(0, .ref 159), (1, .int a), (2, .int b), (3, .int c)]) (st' := [.int ((Int32.ofInt 1))]) rfl ?_
      refine En_top (by decide : (Int32.ofInt 1).toInt = 1) (fun z64 h65 => ?_)
      exact En_ret (v := some (.int z64)) rfl rfl (retZ rfl rfl (by omega) (by omega)) ⟨hσ0, hF0, z64, rfl, (by omega)⟩
/-- DoorSchoolModel.fewestSet(II)I -/
abbrev P_228 (σ0 : SG) (a : Int32) (b : Int32) : PO := fun v σ => WT σ ∧ Fr [(35, 18), (35, 21), (42, 0), (43, 0), (44, 0), (45, 0), (46, 0)] σ0 σ ∧ ∃ ret : Int32, v = some (.int ret) ∧ -ret.toInt - 1 ≤ 0 ∧ ret.toInt - 65535 ≤ 0
set_option maxRecDepth 10000 in
set_option maxHeartbeats 4000000 in
theorem c_228 (σ0 : SG) (hσ0 : WT σ0) (a : Int32) (b : Int32) : En 5 115 none mr_228 (P_228 σ0 a b) 0 [(0, .ref 159), (1, .int a), (2, .int b)] [] σ0 := by
  have hF0 : Fr [(35, 18), (35, 21), (42, 0), (43, 0), (44, 0), (45, 0), (46, 0)] σ0 σ0 := Fr_rfl
  refine En_Ps 1 (pc' := 1) (lv' := [(0, .ref 159), (1, .int a), (2, .int b)]) (st' := [.ref 159]) rfl ?_
  obtain ⟨z2, h1, h3, h4⟩ := WT_peekI hσ0 (by decide +kernel : TG 160 = 36) (by decide +kernel : FT 36 (0 : Int).toNat = (0, 0, 4)) (by decide +kernel)
  obtain ⟨z6, h5, h7, h8⟩ := WT_peekI hσ0 (by decide +kernel : TG 160 = 36) (by decide +kernel : FT 36 (7 : Int).toNat = (0, 0, 1600)) (by decide +kernel)
  refine En_callV rfl rfl rfl rfl rfl rfl rfl rfl (by decide +kernel : TG 159 = 35) (by decide +kernel) rfl (c_272 σ0 hσ0 z2 h1 z6 h5) (by decide) (by decide) (fun v10 σ11 h9 => ?_)
  obtain ⟨h12, h13, rfl, h14⟩ := h9
  have h15 := Fr_trans hF0 h13 (by decide +kernel)
  refine En_Ps 4 (pc' := 9) (lv' := [(4, .int ((Int32.ofInt 0))), (3, .int ((Int32.ofInt (-1)))), (0, .ref 159), (1, .int a), (2, .int b)]) (st' := []) rfl ?_
  have key9 : ∀ (n9 : Nat) (σ18 : SG) (y16 : Int32) (y17 : Int32), WT σ18 → Fr [(35, 18), (35, 21), (42, 0), (43, 0), (44, 0), (45, 0), (46, 0)] σ0 σ18 → (σ18 160)[(0 : Int).toNat]? = some (.int z2) → (σ18 160)[(7 : Int).toNat]? = some (.int z6) → (-1) ≤ y16.toInt → y16.toInt ≤ 65535 → 0 ≤ y17.toInt → y17.toInt ≤ 65536 → y16.toInt - y17.toInt + 1 ≤ 0 → -y17.toInt + 65536 < (n9 : Int) → En 5 115 none mr_228 (P_228 σ0 a b) 9 [(0, .ref 159), (1, .int a), (2, .int b), (3, .int y16), (4, .int y17)] [] σ18 := by
    intro n9
    induction n9 with
    | zero =>
      intro σ18 y16 y17 h19 h20 h21 h22 h23 h24 h25 h26 h27 h28
      exfalso; omega
    | succ n9 ih9 =>
      intro σ18 y16 y17 h19 h20 h21 h22 h23 h24 h25 h26 h27 h28
      refine En_Ps 2 (pc' := 12) (lv' := [(0, .ref 159), (1, .int a), (2, .int b), (3, .int y16), (4, .int y17)]) (st' := [.ref 159, .int y17]) rfl ?_
      refine En_callV rfl rfl rfl rfl rfl rfl rfl rfl (by decide +kernel : TG 159 = 35) (by decide +kernel) rfl (c_192 σ18 h19) (by decide) (by decide) (fun v30 σ31 h29 => ?_)
      obtain ⟨h32, h33, z35, rfl, h34⟩ := h29
      have h36 := Fr_trans h20 h33 (by decide +kernel)
      refine En_icGt _ rfl rfl rfl (fun h37 => ?_) (fun h37 => ?_)
      · refine En_Ps 1 (pc' := 56) (lv' := [(0, .ref 159), (1, .int a), (2, .int b), (3, .int y16), (4, .int y17)]) (st' := [.int y16]) rfl ?_
        exact En_ret (v := some (.int y16)) rfl rfl rfl ⟨h32, h36, y16, rfl, (by omega)⟩
      · refine En_Ps 2 (pc' := 20) (lv' := [(0, .ref 159), (1, .int a), (2, .int b), (3, .int y16), (4, .int y17)]) (st' := [.int ((Int32.ofInt (-1))), .int y16]) rfl ?_
        refine En_icEq _ rfl (by decide : (Int32.ofInt (-1)).toInt = -1) rfl (fun h38 => ?_) (fun h38 => ?_)
        · refine En_Ps 4 (pc' := 40) (lv' := [(0, .ref 159), (1, .int a), (2, .int b), (3, .int y16), (4, .int y17)]) (st' := [.int b, .int y17, .int a, .ref 159]) rfl ?_
          refine En_callV rfl rfl rfl rfl rfl rfl rfl rfl (by decide +kernel : TG 159 = 35) (by decide +kernel) rfl (c_275 σ31 h32 a y17 b) (by decide) (by decide) (fun v40 σ41 h39 => ?_)
          obtain ⟨h42, h43, z45, rfl, h44⟩ := h39
          have h46 := Fr_trans h36 h43 (by decide +kernel)
          refine En_iEq _ rfl rfl (fun h47 => ?_) (fun h47 => ?_)
          · refine En_Ps 1 (pc' := 52) (lv' := [(4, .int ((y17 + Int32.ofInt 1))), (0, .ref 159), (1, .int a), (2, .int b), (3, .int y16)]) (st' := []) rfl ?_
            refine En_lv1 (addI rfl (by decide : (Int32.ofInt 1).toInt = 1) (by omega) (by omega)) (fun z48 h49 => ?_)
            refine En_Ps 1 (pc' := 9) (lv' := [(4, .int z48), (0, .ref 159), (1, .int a), (2, .int b), (3, .int y16)]) (st' := []) rfl ?_
            refine En_lv (lv := [(0, .ref 159), (1, .int a), (2, .int b), (3, .int y16), (4, .int z48)]) ⟨rfl, rfl, rfl, rfl, rfl, trivial⟩ ?_
            exact ih9 σ41 y16 z48 h42 h46 ((h43 _ _ (inWa (by decide +kernel : TG 160 = 36) (by decide +kernel))).trans ((h33 _ _ (inWa (by decide +kernel : TG 160 = 36) (by decide +kernel))).trans h21)) ((h43 _ _ (inWa (by decide +kernel : TG 160 = 36) (by decide +kernel))).trans ((h33 _ _ (inWa (by decide +kernel : TG 160 = 36) (by decide +kernel))).trans h22)) (by omega) (by omega) (by omega) (by omega) (by omega) (by omega)
          · refine En_Ps 3 (pc' := 52) (lv' := [(4, .int ((y17 + Int32.ofInt 1))), (3, .int y17), (0, .ref 159), (1, .int a), (2, .int b)]) (st' := []) rfl ?_
            refine En_lv1 (addI rfl (by decide : (Int32.ofInt 1).toInt = 1) (by omega) (by omega)) (fun z50 h51 => ?_)
            refine En_Ps 1 (pc' := 9) (lv' := [(4, .int z50), (3, .int y17), (0, .ref 159), (1, .int a), (2, .int b)]) (st' := []) rfl ?_
            refine En_lv (lv := [(0, .ref 159), (1, .int a), (2, .int b), (3, .int y17), (4, .int z50)]) ⟨rfl, rfl, rfl, rfl, rfl, trivial⟩ ?_
            exact ih9 σ41 y17 z50 h42 h46 ((h43 _ _ (inWa (by decide +kernel : TG 160 = 36) (by decide +kernel))).trans ((h33 _ _ (inWa (by decide +kernel : TG 160 = 36) (by decide +kernel))).trans h21)) ((h43 _ _ (inWa (by decide +kernel : TG 160 = 36) (by decide +kernel))).trans ((h33 _ _ (inWa (by decide +kernel : TG 160 = 36) (by decide +kernel))).trans h22)) (by omega) (by omega) (by omega) (by omega) (by omega) (by omega)
        · refine En_Ps 1 (pc' := 25) (lv' := [(0, .ref 159), (1, .int a), (2, .int b), (3, .int y16), (4, .int y17)]) (st' := [.int y17]) rfl ?_
          refine En_callS rfl rfl rfl rfl rfl rfl rfl rfl rfl (c_203b σ31 h32 y17) (by decide) (by decide) (fun v53 σ54 h52 => ?_)
          obtain ⟨h55, h56, z58, rfl, h57⟩ := h52
          have h59 := Fr_trans h36 h56 (by decide +kernel)
          refine En_Ps 1 (pc' := 29) (lv' := [(0, .ref 159), (1, .int a), (2, .int b), (3, .int y16), (4, .int y17)]) (st' := [.int y16, .int z58]) rfl ?_
          refine En_callS rfl rfl rfl rfl rfl rfl rfl rfl rfl (c_203b σ54 h55 y16) (by decide) (by decide) (fun v61 σ62 h60 => ?_)
          obtain ⟨h63, h64, z66, rfl, h65⟩ := h60
          have h67 := Fr_trans h59 h64 (by decide +kernel)
          refine En_icGe _ rfl rfl rfl (fun h68 => ?_) (fun h68 => ?_)
          · refine En_Ps 1 (pc' := 52) (lv' := [(4, .int ((y17 + Int32.ofInt 1))), (0, .ref 159), (1, .int a), (2, .int b), (3, .int y16)]) (st' := []) rfl ?_
            refine En_lv1 (addI rfl (by decide : (Int32.ofInt 1).toInt = 1) (by omega) (by omega)) (fun z69 h70 => ?_)
            refine En_Ps 1 (pc' := 9) (lv' := [(4, .int z69), (0, .ref 159), (1, .int a), (2, .int b), (3, .int y16)]) (st' := []) rfl ?_
            refine En_lv (lv := [(0, .ref 159), (1, .int a), (2, .int b), (3, .int y16), (4, .int z69)]) ⟨rfl, rfl, rfl, rfl, rfl, trivial⟩ ?_
            exact ih9 σ62 y16 z69 h63 h67 ((h64 _ _ (inWa (by decide +kernel : TG 160 = 36) (by decide +kernel))).trans ((h56 _ _ (inWa (by decide +kernel : TG 160 = 36) (by decide +kernel))).trans ((h33 _ _ (inWa (by decide +kernel : TG 160 = 36) (by decide +kernel))).trans h21))) ((h64 _ _ (inWa (by decide +kernel : TG 160 = 36) (by decide +kernel))).trans ((h56 _ _ (inWa (by decide +kernel : TG 160 = 36) (by decide +kernel))).trans ((h33 _ _ (inWa (by decide +kernel : TG 160 = 36) (by decide +kernel))).trans h22))) (by omega) (by omega) (by omega) (by omega) (by omega) (by omega)
          · refine En_Ps 4 (pc' := 40) (lv' := [(0, .ref 159), (1, .int a), (2, .int b), (3, .int y16), (4, .int y17)]) (st' := [.int b, .int y17, .int a, .ref 159]) rfl ?_
            refine En_callV rfl rfl rfl rfl rfl rfl rfl rfl (by decide +kernel : TG 159 = 35) (by decide +kernel) rfl (c_275 σ62 h63 a y17 b) (by decide) (by decide) (fun v72 σ73 h71 => ?_)
            obtain ⟨h74, h75, z77, rfl, h76⟩ := h71
            have h78 := Fr_trans h67 h75 (by decide +kernel)
            refine En_iEq _ rfl rfl (fun h79 => ?_) (fun h79 => ?_)
            · refine En_Ps 1 (pc' := 52) (lv' := [(4, .int ((y17 + Int32.ofInt 1))), (0, .ref 159), (1, .int a), (2, .int b), (3, .int y16)]) (st' := []) rfl ?_
              refine En_lv1 (addI rfl (by decide : (Int32.ofInt 1).toInt = 1) (by omega) (by omega)) (fun z80 h81 => ?_)
              refine En_Ps 1 (pc' := 9) (lv' := [(4, .int z80), (0, .ref 159), (1, .int a), (2, .int b), (3, .int y16)]) (st' := []) rfl ?_
              refine En_lv (lv := [(0, .ref 159), (1, .int a), (2, .int b), (3, .int y16), (4, .int z80)]) ⟨rfl, rfl, rfl, rfl, rfl, trivial⟩ ?_
              exact ih9 σ73 y16 z80 h74 h78 ((h75 _ _ (inWa (by decide +kernel : TG 160 = 36) (by decide +kernel))).trans ((h64 _ _ (inWa (by decide +kernel : TG 160 = 36) (by decide +kernel))).trans ((h56 _ _ (inWa (by decide +kernel : TG 160 = 36) (by decide +kernel))).trans ((h33 _ _ (inWa (by decide +kernel : TG 160 = 36) (by decide +kernel))).trans h21)))) ((h75 _ _ (inWa (by decide +kernel : TG 160 = 36) (by decide +kernel))).trans ((h64 _ _ (inWa (by decide +kernel : TG 160 = 36) (by decide +kernel))).trans ((h56 _ _ (inWa (by decide +kernel : TG 160 = 36) (by decide +kernel))).trans ((h33 _ _ (inWa (by decide +kernel : TG 160 = 36) (by decide +kernel))).trans h22)))) (by omega) (by omega) (by omega) (by omega) (by omega) (by omega)
            · refine En_Ps 3 (pc' := 52) (lv' := [(4, .int ((y17 + Int32.ofInt 1))), (3, .int y17), (0, .ref 159), (1, .int a), (2, .int b)]) (st' := []) rfl ?_
              refine En_lv1 (addI rfl (by decide : (Int32.ofInt 1).toInt = 1) (by omega) (by omega)) (fun z82 h83 => ?_)
              refine En_Ps 1 (pc' := 9) (lv' := [(4, .int z82), (3, .int y17), (0, .ref 159), (1, .int a), (2, .int b)]) (st' := []) rfl ?_
              refine En_lv (lv := [(0, .ref 159), (1, .int a), (2, .int b), (3, .int y17), (4, .int z82)]) ⟨rfl, rfl, rfl, rfl, rfl, trivial⟩ ?_
              exact ih9 σ73 y17 z82 h74 h78 ((h75 _ _ (inWa (by decide +kernel : TG 160 = 36) (by decide +kernel))).trans ((h64 _ _ (inWa (by decide +kernel : TG 160 = 36) (by decide +kernel))).trans ((h56 _ _ (inWa (by decide +kernel : TG 160 = 36) (by decide +kernel))).trans ((h33 _ _ (inWa (by decide +kernel : TG 160 = 36) (by decide +kernel))).trans h21)))) ((h75 _ _ (inWa (by decide +kernel : TG 160 = 36) (by decide +kernel))).trans ((h64 _ _ (inWa (by decide +kernel : TG 160 = 36) (by decide +kernel))).trans ((h56 _ _ (inWa (by decide +kernel : TG 160 = 36) (by decide +kernel))).trans ((h33 _ _ (inWa (by decide +kernel : TG 160 = 36) (by decide +kernel))).trans h22)))) (by omega) (by omega) (by omega) (by omega) (by omega) (by omega)
  have := (by decide : (Int32.ofInt (-1)).toInt = -1)
  have := (by decide : (Int32.ofInt 0).toInt = 0)
  refine En_lv (lv := [(0, .ref 159), (1, .int a), (2, .int b), (3, .int ((Int32.ofInt (-1)))), (4, .int ((Int32.ofInt 0)))]) ⟨rfl, rfl, rfl, rfl, rfl, trivial⟩ ?_
  exact key9 (Int.toNat (65536) + 1) σ11 ((Int32.ofInt (-1))) ((Int32.ofInt 0)) h12 h15 ((h13 _ _ (inWa (by decide +kernel : TG 160 = 36) (by decide +kernel))).trans h1) ((h13 _ _ (inWa (by decide +kernel : TG 160 = 36) (by decide +kernel))).trans h5) (by omega) (by omega) (by omega) (by omega) (by omega) (by omega)
/-- DoorSchoolModel.course(II)I -/
abbrev P_207 (σ0 : SG) (a : Int32) (b : Int32) : PO := fun v σ => WT σ ∧ Fr [(35, 18), (35, 21), (42, 0), (43, 0), (44, 0), (45, 0), (46, 0)] σ0 σ ∧ ∃ ret : Int32, v = some (.int ret) ∧ -ret.toInt - 2 ≤ 0 ∧ ret.toInt - 65535 ≤ 0
set_option maxRecDepth 10000 in
set_option maxHeartbeats 4000000 in
theorem c_207 (σ0 : SG) (hσ0 : WT σ0) (a : Int32) (b : Int32) : En 6 139 none mr_207 (P_207 σ0 a b) 0 [(0, .ref 159), (1, .int a), (2, .int b)] [] σ0 := by
  have hF0 : Fr [(35, 18), (35, 21), (42, 0), (43, 0), (44, 0), (45, 0), (46, 0)] σ0 σ0 := Fr_rfl
  refine En_Ps 1 (pc' := 1) (lv' := [(0, .ref 159), (1, .int a), (2, .int b)]) (st' := [.int a]) rfl ?_
  refine En_callS rfl rfl rfl rfl rfl rfl rfl rfl rfl (c_268 σ0 hσ0 a) (by decide) (by decide) (fun v2 σ3 h1 => ?_)
  obtain ⟨h4, h5, z7, rfl, h6⟩ := h1
  have h8 := Fr_trans hF0 h5 (by decide +kernel)
  refine En_iEq _ rfl rfl (fun h9 => ?_) (fun h9 => ?_)
  · refine En_Ps 1 (pc' := 26) (lv' := [(0, .ref 159), (1, .int a), (2, .int b)]) (st' := [.int (((Int8.ofInt (-2)).toInt32))]) rfl ?_
    refine En_top (by decide : ((Int8.ofInt (-2)).toInt32).toInt = -2) (fun z10 h11 => ?_)
    exact En_ret (v := some (.int z10)) rfl rfl rfl ⟨h4, h8, z10, rfl, (by omega)⟩
  · refine En_Ps 2 (pc' := 9) (lv' := [(0, .ref 159), (1, .int a), (2, .int b)]) (st' := [.int b, .ref 159]) rfl ?_
    refine En_callV rfl rfl rfl rfl rfl rfl rfl rfl (by decide +kernel : TG 159 = 35) (by decide +kernel) rfl (c_195 σ3 h4 b) (by decide) (by decide) (fun v13 σ14 h12 => ?_)
    obtain ⟨h15, h16, z18, rfl, h17⟩ := h12
    have h19 := Fr_trans h8 h16 (by decide +kernel)
    refine En_iEq _ rfl rfl (fun h20 => ?_) (fun h20 => ?_)
    · refine En_Ps 1 (pc' := 26) (lv' := [(0, .ref 159), (1, .int a), (2, .int b)]) (st' := [.int (((Int8.ofInt (-2)).toInt32))]) rfl ?_
      refine En_top (by decide : ((Int8.ofInt (-2)).toInt32).toInt = -2) (fun z21 h22 => ?_)
      exact En_ret (v := some (.int z21)) rfl rfl rfl ⟨h15, h19, z21, rfl, (by omega)⟩
    · refine En_Ps 3 (pc' := 18) (lv' := [(0, .ref 159), (1, .int a), (2, .int b)]) (st' := [.int b, .int a, .ref 159]) rfl ?_
      refine En_callV rfl rfl rfl rfl rfl rfl rfl rfl (by decide +kernel : TG 159 = 35) (by decide +kernel) rfl (c_228 σ14 h15 a b) (by decide) (by decide) (fun v24 σ25 h23 => ?_)
      obtain ⟨h26, h27, z29, rfl, h28⟩ := h23
      have h30 := Fr_trans h19 h27 (by decide +kernel)
      refine En_Ps 1 (pc' := 26) (lv' := [(0, .ref 159), (1, .int a), (2, .int b)]) (st' := [.int z29]) rfl ?_
      exact En_ret (v := some (.int z29)) rfl rfl rfl ⟨h26, h30, z29, rfl, (by omega)⟩
/-- DoorSchoolModel.cut(JI)J -/
abbrev P_208 (σ0 : SG) (a : Int64) (b : Int32) : PO := fun v σ => WT σ ∧ Fr [] σ0 σ ∧ ∃ ret : Int64, v = some (.long ret) ∧ True
set_option maxRecDepth 10000 in
set_option maxHeartbeats 4000000 in
theorem c_208 (σ0 : SG) (hσ0 : WT σ0) (a : Int64) (b : Int32) : En 0 0 none mr_208 (P_208 σ0 a b) 0 [(0, .long a), (2, .int b)] [] σ0 := by
  have hF0 : Fr [] σ0 σ0 := Fr_rfl
  refine En_Ps 4 (pc' := 6) (lv' := [(0, .long a), (2, .int b)]) (st' := [.int (((((Int8.ofInt 8).toInt32)) <<< (b &&& 31))), .int (((Int8.ofInt 64).toInt32))]) rfl ?_
  refine En_hav (fun z1 => ?_)
  refine En_Ps 1 (pc' := 7) (lv' := [(0, .long a), (2, .int b)]) (st' := [.int (((((Int8.ofInt 64).toInt32)) - z1))]) rfl ?_
  refine En_hav (fun z2 => ?_)
  refine En_Ps 4 (pc' := 11) (lv' := [(3, .int z2), (0, .long a), (2, .int b)]) (st' := [.long ((a <<< (z2.toInt64 &&& 63)))]) rfl ?_
  refine En_havL (fun z3 => ?_)
  refine En_Ps 2 (pc' := 13) (lv' := [(3, .int z2), (0, .long a), (2, .int b)]) (st' := [.long ((z3 >>> (z2.toInt64 &&& 63)))]) rfl ?_
  refine En_havL (fun z4 => ?_)
  exact En_ret (v := some (.long z4)) rfl rfl rfl ⟨hσ0, hF0, z4, rfl, trivial⟩
/-- DoorSchoolModel.good()Z -/
abbrev P_237 (σ0 : SG) (k : Int32) : PO := fun v σ => WT σ ∧ Fr [] σ0 σ ∧ ∃ ret : Int32, v = some (.int ret) ∧ -ret.toInt ≤ 0 ∧ ret.toInt - 1 ≤ 0 ∧ (-ret.toInt + 1 ≤ 0 → k.toInt ≤ 0) ∧ (ret.toInt ≤ 0 → -k.toInt + 1 ≤ 0)
set_option maxRecDepth 10000 in
set_option maxHeartbeats 4000000 in
theorem c_237 (σ0 : SG) (hσ0 : WT σ0) (k : Int32) (h_k : (σ0 159)[12]? = some (.int k)) : En 0 0 none mr_237 (P_237 σ0 k) 0 [(0, .ref 159)] [] σ0 := by
  obtain ⟨hl_k, hu_k⟩ := WT_int hσ0 (g := 35) (by decide +kernel) (by decide +kernel) (l := 0) (u := 3) (by decide +kernel) h_k
  have hF0 : Fr [] σ0 σ0 := Fr_rfl
  refine En_Ps 1 (pc' := 1) (lv' := [(0, .ref 159)]) (st' := [.ref 159]) rfl ?_
  refine En_getK (j := 12) h_k rfl rfl rfl (by decide +kernel : TG 159 = 35) (by decide +kernel) ?_
  refine En_iNe _ rfl rfl (fun h1 => ?_) (fun h1 => ?_)
  · refine En_Ps 1 (pc' := 12) (lv' := [(0, .ref 159)]) (st' := [.int ((Int32.ofInt 0))]) rfl ?_
    refine En_top (by decide : (Int32.ofInt 0).toInt = 0) (fun z2 h3 => ?_)
    exact En_ret (v := some (.int z2)) rfl rfl (retZ rfl rfl (by omega) (by omega)) ⟨hσ0, hF0, z2, rfl, (by omega)⟩
  · refine En_Ps 2 (pc' := 12) (lv' := [(0, .ref 159)]) (st' := [.int ((Int32.ofInt 1))]) rfl ?_
    refine En_top (by decide : (Int32.ofInt 1).toInt = 1) (fun z4 h5 => ?_)
    exact En_ret (v := some (.int z4)) rfl rfl (retZ rfl rfl (by omega) (by omega)) ⟨hσ0, hF0, z4, rfl, (by omega)⟩
/-- DoorSchoolModel.is(Ljava/lang/String;)Z -/
abbrev P_251s0 (σ0 : SG) : PO := fun v σ => WT σ ∧ Fr [] σ0 σ ∧ ∃ ret : Int32, v = some (.int ret) ∧ -ret.toInt ≤ 0 ∧ ret.toInt - 1 ≤ 0
set_option maxRecDepth 10000 in
set_option maxHeartbeats 4000000 in
theorem c_251s0 (σ0 : SG) (hσ0 : WT σ0) : En 4 90 none mr_251 (P_251s0 σ0) 0 [(0, .ref 159), (1, .retAddr 1)] [] σ0 := by
  have hF0 : Fr [] σ0 σ0 := Fr_rfl
  refine En_Ps 1 (pc' := 1) (lv' := [(0, .ref 159), (1, .retAddr 1)]) (st' := [.ref 159]) rfl ?_
  obtain ⟨z2, h1, h3, h4⟩ := WT_peekI hσ0 (by decide +kernel : TG 159 = 35) (by decide +kernel : FT 35 12 = (0, 0, 3)) (by decide +kernel)
  refine En_callV rfl rfl rfl rfl rfl rfl rfl rfl (by decide +kernel : TG 159 = 35) (by decide +kernel) rfl (c_237 σ0 hσ0 z2 h1) (by decide) (by decide) (fun v6 σ7 h5 => ?_)
  obtain ⟨h8, h9, z11, rfl, h10⟩ := h5
  have h12 := Fr_trans hF0 h9 (by decide +kernel)
  refine En_iEq _ rfl rfl (fun h13 => ?_) (fun h13 => ?_)
  · refine En_Ps 4 (pc' := 39) (lv' := [(3, .int ((Int32.ofInt 0))), (2, .int ((Int32.ofInt 0))), (0, .ref 159), (1, .retAddr 1)]) (st' := []) rfl ?_
    have key39 : ∀ (n39 : Nat) (σ16 : SG) (y14 : Int32) (y15 : Int32), WT σ16 → Fr [] σ0 σ16 → (σ16 159)[12]? = some (.int z2) → 0 ≤ y14.toInt → y14.toInt ≤ 0 → 0 ≤ y15.toInt → y15.toInt ≤ 0 → z2.toInt - y14.toInt < (n39 : Int) → En 4 90 none mr_251 (P_251s0 σ0) 39 [(0, .ref 159), (1, .retAddr 1), (2, .int y14), (3, .int y15)] [] σ16 := by
      intro n39
      induction n39 with
      | zero =>
        intro σ16 y14 y15 h17 h18 h19 h20 h21 h22 h23 h24
        exfalso; omega
      | succ n39 ih39 =>
        intro σ16 y14 y15 h17 h18 h19 h20 h21 h22 h23 h24
        refine En_Ps 2 (pc' := 41) (lv' := [(0, .ref 159), (1, .retAddr 1), (2, .int y14), (3, .int y15)]) (st' := [.retAddr 1, .int y15]) rfl ?_
        refine En_slen 0 5 rfl rfl (by decide) rfl ?_
        refine En_icGe _ rfl (by decide : (Int32.ofNat 5).toInt = 5) rfl (fun hx => by exfalso; omega) (fun h25 => ?_)
        refine En_Ps 1 (pc' := 48) (lv' := [(0, .ref 159), (1, .retAddr 1), (2, .int y14), (3, .int y15)]) (st' := [.int y14]) rfl ?_
        refine En_iEq _ rfl rfl (fun h26 => ?_) (fun hx => by exfalso; omega)
        refine En_Ps 1 (pc' := 83) (lv' := [(0, .ref 159), (1, .retAddr 1), (2, .int y14), (3, .int y15)]) (st' := [.int y14]) rfl ?_
        exact En_ret (v := some (.int y14)) rfl rfl (retZ rfl rfl (by omega) (by omega)) ⟨h17, h18, y14, rfl, (by omega)⟩
    have := (by decide : (Int32.ofInt 0).toInt = 0)
    have := (by decide : (Int32.ofInt 0).toInt = 0)
    refine En_lv (lv := [(0, .ref 159), (1, .retAddr 1), (2, .int ((Int32.ofInt 0))), (3, .int ((Int32.ofInt 0)))]) ⟨rfl, rfl, rfl, rfl, trivial⟩ ?_
    exact key39 (Int.toNat (z2.toInt) + 1) σ7 ((Int32.ofInt 0)) ((Int32.ofInt 0)) h8 h12 ((h9 _ _ (inW (by decide +kernel : TG 159 = 35) (by decide +kernel))).trans h1) (by omega) (by omega) (by omega) (by omega) (by omega)
  · refine En_Ps 1 (pc' := 8) (lv' := [(0, .ref 159), (1, .retAddr 1)]) (st' := [.ref 159]) rfl ?_
    refine En_getI (j := 10) (l := 0) (u := 4) rfl rfl rfl (by decide +kernel : TG 159 = 35) (by decide +kernel) h8 (by decide +kernel) (fun z28 h27 h29 h30 => ?_)
    refine En_Ps 1 (pc' := 12) (lv' := [(0, .ref 159), (1, .retAddr 1)]) (st' := [.int ((Int32.ofInt 1)), .int z28]) rfl ?_
    refine En_icNe _ rfl (by decide : (Int32.ofInt 1).toInt = 1) rfl (fun h31 => ?_) (fun h31 => ?_)
    · refine En_Ps 4 (pc' := 39) (lv' := [(3, .int ((Int32.ofInt 0))), (2, .int ((Int32.ofInt 0))), (0, .ref 159), (1, .retAddr 1)]) (st' := []) rfl ?_
      have key39 : ∀ (n39 : Nat) (σ34 : SG) (y32 : Int32) (y33 : Int32), WT σ34 → Fr [] σ0 σ34 → (σ34 159)[12]? = some (.int z2) → (σ34 159)[10]? = some (.int z28) → 0 ≤ y32.toInt → y32.toInt ≤ 0 → 0 ≤ y33.toInt → y33.toInt ≤ 0 → z2.toInt - y32.toInt < (n39 : Int) → En 4 90 none mr_251 (P_251s0 σ0) 39 [(0, .ref 159), (1, .retAddr 1), (2, .int y32), (3, .int y33)] [] σ34 := by
        intro n39
        induction n39 with
        | zero =>
          intro σ34 y32 y33 h35 h36 h37 h38 h39 h40 h41 h42 h43
          exfalso; omega
        | succ n39 ih39 =>
          intro σ34 y32 y33 h35 h36 h37 h38 h39 h40 h41 h42 h43
          refine En_Ps 2 (pc' := 41) (lv' := [(0, .ref 159), (1, .retAddr 1), (2, .int y32), (3, .int y33)]) (st' := [.retAddr 1, .int y33]) rfl ?_
          refine En_slen 0 5 rfl rfl (by decide) rfl ?_
          refine En_icGe _ rfl (by decide : (Int32.ofNat 5).toInt = 5) rfl (fun hx => by exfalso; omega) (fun h44 => ?_)
          refine En_Ps 1 (pc' := 48) (lv' := [(0, .ref 159), (1, .retAddr 1), (2, .int y32), (3, .int y33)]) (st' := [.int y32]) rfl ?_
          refine En_iEq _ rfl rfl (fun h45 => ?_) (fun hx => by exfalso; omega)
          refine En_Ps 1 (pc' := 83) (lv' := [(0, .ref 159), (1, .retAddr 1), (2, .int y32), (3, .int y33)]) (st' := [.int y32]) rfl ?_
          exact En_ret (v := some (.int y32)) rfl rfl (retZ rfl rfl (by omega) (by omega)) ⟨h35, h36, y32, rfl, (by omega)⟩
      have := (by decide : (Int32.ofInt 0).toInt = 0)
      have := (by decide : (Int32.ofInt 0).toInt = 0)
      refine En_lv (lv := [(0, .ref 159), (1, .retAddr 1), (2, .int ((Int32.ofInt 0))), (3, .int ((Int32.ofInt 0)))]) ⟨rfl, rfl, rfl, rfl, trivial⟩ ?_
      exact key39 (Int.toNat (z2.toInt) + 1) σ7 ((Int32.ofInt 0)) ((Int32.ofInt 0)) h8 h12 ((h9 _ _ (inW (by decide +kernel : TG 159 = 35) (by decide +kernel))).trans h1) h27 (by omega) (by omega) (by omega) (by omega) (by omega)
    · refine En_Ps 1 (pc' := 16) (lv' := [(0, .ref 159), (1, .retAddr 1)]) (st' := [.ref 159]) rfl ?_
      refine En_getI (j := 8) (l := 0) (u := 1600) rfl rfl rfl (by decide +kernel : TG 159 = 35) (by decide +kernel) h8 (by decide +kernel) (fun z47 h46 h48 h49 => ?_)
      refine En_Ps 1 (pc' := 20) (lv' := [(0, .ref 159), (1, .retAddr 1)]) (st' := [.ref 159, .int z47]) rfl ?_
      refine En_getI (j := 9) (l := 0) (u := 1600) rfl rfl rfl (by decide +kernel : TG 159 = 35) (by decide +kernel) h8 (by decide +kernel) (fun z51 h50 h52 h53 => ?_)
      refine En_Ps 1 (pc' := 24) (lv' := [(0, .ref 159), (1, .retAddr 1)]) (st' := [.int ((z47 - z51))]) rfl ?_
      refine En_top (subI rfl rfl (by omega) (by omega)) (fun z54 h55 => ?_)
      refine En_Ps 1 (pc' := 25) (lv' := [(0, .ref 159), (1, .retAddr 1)]) (st' := [.retAddr 1, .int z54]) rfl ?_
      refine En_slen 0 5 rfl rfl (by decide) rfl ?_
      refine En_icNe _ rfl (by decide : (Int32.ofNat 5).toInt = 5) rfl (fun h56 => ?_) (fun h56 => ?_)
      · refine En_Ps 4 (pc' := 39) (lv' := [(3, .int ((Int32.ofInt 0))), (2, .int ((Int32.ofInt 0))), (0, .ref 159), (1, .retAddr 1)]) (st' := []) rfl ?_
        have key39 : ∀ (n39 : Nat) (σ59 : SG) (y57 : Int32) (y58 : Int32), WT σ59 → Fr [] σ0 σ59 → (σ59 159)[12]? = some (.int z2) → (σ59 159)[10]? = some (.int z28) → (σ59 159)[8]? = some (.int z47) → (σ59 159)[9]? = some (.int z51) → 0 ≤ y57.toInt → y57.toInt ≤ 0 → 0 ≤ y58.toInt → y58.toInt ≤ 0 → z2.toInt - y57.toInt < (n39 : Int) → En 4 90 none mr_251 (P_251s0 σ0) 39 [(0, .ref 159), (1, .retAddr 1), (2, .int y57), (3, .int y58)] [] σ59 := by
          intro n39
          induction n39 with
          | zero =>
            intro σ59 y57 y58 h60 h61 h62 h63 h64 h65 h66 h67 h68 h69 h70
            exfalso; omega
          | succ n39 ih39 =>
            intro σ59 y57 y58 h60 h61 h62 h63 h64 h65 h66 h67 h68 h69 h70
            refine En_Ps 2 (pc' := 41) (lv' := [(0, .ref 159), (1, .retAddr 1), (2, .int y57), (3, .int y58)]) (st' := [.retAddr 1, .int y58]) rfl ?_
            refine En_slen 0 5 rfl rfl (by decide) rfl ?_
            refine En_icGe _ rfl (by decide : (Int32.ofNat 5).toInt = 5) rfl (fun hx => by exfalso; omega) (fun h71 => ?_)
            refine En_Ps 1 (pc' := 48) (lv' := [(0, .ref 159), (1, .retAddr 1), (2, .int y57), (3, .int y58)]) (st' := [.int y57]) rfl ?_
            refine En_iEq _ rfl rfl (fun h72 => ?_) (fun hx => by exfalso; omega)
            refine En_Ps 1 (pc' := 83) (lv' := [(0, .ref 159), (1, .retAddr 1), (2, .int y57), (3, .int y58)]) (st' := [.int y57]) rfl ?_
            exact En_ret (v := some (.int y57)) rfl rfl (retZ rfl rfl (by omega) (by omega)) ⟨h60, h61, y57, rfl, (by omega)⟩
        have := (by decide : (Int32.ofInt 0).toInt = 0)
        have := (by decide : (Int32.ofInt 0).toInt = 0)
        refine En_lv (lv := [(0, .ref 159), (1, .retAddr 1), (2, .int ((Int32.ofInt 0))), (3, .int ((Int32.ofInt 0)))]) ⟨rfl, rfl, rfl, rfl, trivial⟩ ?_
        exact key39 (Int.toNat (z2.toInt) + 1) σ7 ((Int32.ofInt 0)) ((Int32.ofInt 0)) h8 h12 ((h9 _ _ (inW (by decide +kernel : TG 159 = 35) (by decide +kernel))).trans h1) h27 h46 h50 (by omega) (by omega) (by omega) (by omega) (by omega)
      · refine En_Ps 5 (pc' := 39) (lv' := [(3, .int ((Int32.ofInt 0))), (2, .int ((Int32.ofInt 1))), (0, .ref 159), (1, .retAddr 1)]) (st' := []) rfl ?_
        have key39 : ∀ (n39 : Nat) (σ75 : SG) (y73 : Int32) (y74 : Int32), WT σ75 → Fr [] σ0 σ75 → (σ75 159)[12]? = some (.int z2) → (σ75 159)[10]? = some (.int z28) → (σ75 159)[8]? = some (.int z47) → (σ75 159)[9]? = some (.int z51) → 0 ≤ y73.toInt → y73.toInt ≤ 1 → 0 ≤ y74.toInt → y74.toInt ≤ 5 → z47.toInt - y74.toInt < (n39 : Int) → En 4 90 none mr_251 (P_251s0 σ0) 39 [(0, .ref 159), (1, .retAddr 1), (2, .int y73), (3, .int y74)] [] σ75 := by
          intro n39
          induction n39 with
          | zero =>
            intro σ75 y73 y74 h76 h77 h78 h79 h80 h81 h82 h83 h84 h85 h86
            exfalso; omega
          | succ n39 ih39 =>
            intro σ75 y73 y74 h76 h77 h78 h79 h80 h81 h82 h83 h84 h85 h86
            refine En_Ps 2 (pc' := 41) (lv' := [(0, .ref 159), (1, .retAddr 1), (2, .int y73), (3, .int y74)]) (st' := [.retAddr 1, .int y74]) rfl ?_
            refine En_slen 0 5 rfl rfl (by decide) rfl ?_
            refine En_icGe _ rfl (by decide : (Int32.ofNat 5).toInt = 5) rfl (fun h87 => ?_) (fun h87 => ?_)
            · refine En_Ps 1 (pc' := 83) (lv' := [(0, .ref 159), (1, .retAddr 1), (2, .int y73), (3, .int y74)]) (st' := [.int y73]) rfl ?_
              exact En_ret (v := some (.int y73)) rfl rfl (retZ rfl rfl (by omega) (by omega)) ⟨h76, h77, y73, rfl, (by omega)⟩
            · refine En_Ps 1 (pc' := 48) (lv' := [(0, .ref 159), (1, .retAddr 1), (2, .int y73), (3, .int y74)]) (st' := [.int y73]) rfl ?_
              refine En_iEq _ rfl rfl (fun h88 => ?_) (fun h88 => ?_)
              · refine En_Ps 1 (pc' := 83) (lv' := [(0, .ref 159), (1, .retAddr 1), (2, .int y73), (3, .int y74)]) (st' := [.int y73]) rfl ?_
                exact En_ret (v := some (.int y73)) rfl rfl (retZ rfl rfl (by omega) (by omega)) ⟨h76, h77, y73, rfl, (by omega)⟩
              · refine En_Ps 1 (pc' := 52) (lv' := [(0, .ref 159), (1, .retAddr 1), (2, .int y73), (3, .int y74)]) (st' := [.ref 159]) rfl ?_
                refine En_getU (j := 4) (u := 163) (g' := 39) (q := 0) rfl rfl rfl (by decide +kernel : TG 159 = 35) (by decide +kernel) h76 (by decide +kernel) (by decide +kernel) (fun h89 => ?_)
                refine En_Ps 1 (pc' := 56) (lv' := [(0, .ref 159), (1, .retAddr 1), (2, .int y73), (3, .int y74)]) (st' := [.ref 159, .ref 163]) rfl ?_
                refine En_getK (j := 9) h81 rfl rfl rfl (by decide +kernel : TG 159 = 35) (by decide +kernel) ?_
                refine En_Ps 2 (pc' := 61) (lv' := [(0, .ref 159), (1, .retAddr 1), (2, .int y73), (3, .int y74)]) (st' := [.int ((z51 + y74)), .ref 163]) rfl ?_
                refine En_top (addI rfl rfl (by omega) (by omega)) (fun z91 h92 => ?_)
                refine En_bald (l := (-128)) (u := 127) rfl rfl (by decide +kernel : TG 163 = 39) (by decide +kernel) h76 (by omega) (lnI (by decide +kernel : LN _ = 1600) (by omega)) (FTsgl (by decide +kernel)) (fun z94 h93 h95 h96 => ?_)
                refine En_Ps 2 (pc' := 64) (lv' := [(0, .ref 159), (1, .retAddr 1), (2, .int y73), (3, .int y74)]) (st' := [.int y74, .retAddr 1, .int z94]) rfl ?_
                refine En_schar 0 5 rfl rfl rfl (by decide) (by omega) (by omega) rfl (fun z97 h98 h99 => ?_)
                refine En_icNe _ rfl rfl rfl (fun h100 => ?_) (fun h100 => ?_)
                · refine En_Ps 3 (pc' := 79) (lv' := [(3, .int ((y74 + Int32.ofInt 1))), (2, .int ((Int32.ofInt 0))), (0, .ref 159), (1, .retAddr 1)]) (st' := []) rfl ?_
                  refine En_lv1 (addI rfl (by decide : (Int32.ofInt 1).toInt = 1) (by omega) (by omega)) (fun z101 h102 => ?_)
                  refine En_Ps 1 (pc' := 39) (lv' := [(3, .int z101), (2, .int ((Int32.ofInt 0))), (0, .ref 159), (1, .retAddr 1)]) (st' := []) rfl ?_
                  have := (by decide : (Int32.ofInt 0).toInt = 0)
                  refine En_lv (lv := [(0, .ref 159), (1, .retAddr 1), (2, .int ((Int32.ofInt 0))), (3, .int z101)]) ⟨rfl, rfl, rfl, rfl, trivial⟩ ?_
                  exact ih39 σ75 ((Int32.ofInt 0)) z101 h76 h77 h78 h79 h80 h81 (by omega) (by omega) (by omega) (by omega) (by omega)
                · refine En_Ps 4 (pc' := 79) (lv' := [(3, .int ((y74 + Int32.ofInt 1))), (2, .int ((Int32.ofInt 1))), (0, .ref 159), (1, .retAddr 1)]) (st' := []) rfl ?_
                  refine En_lv1 (addI rfl (by decide : (Int32.ofInt 1).toInt = 1) (by omega) (by omega)) (fun z103 h104 => ?_)
                  refine En_Ps 1 (pc' := 39) (lv' := [(3, .int z103), (2, .int ((Int32.ofInt 1))), (0, .ref 159), (1, .retAddr 1)]) (st' := []) rfl ?_
                  have := (by decide : (Int32.ofInt 1).toInt = 1)
                  refine En_lv (lv := [(0, .ref 159), (1, .retAddr 1), (2, .int ((Int32.ofInt 1))), (3, .int z103)]) ⟨rfl, rfl, rfl, rfl, trivial⟩ ?_
                  exact ih39 σ75 ((Int32.ofInt 1)) z103 h76 h77 h78 h79 h80 h81 (by omega) (by omega) (by omega) (by omega) (by omega)
        have := (by decide : (Int32.ofInt 1).toInt = 1)
        have := (by decide : (Int32.ofInt 0).toInt = 0)
        refine En_lv (lv := [(0, .ref 159), (1, .retAddr 1), (2, .int ((Int32.ofInt 1))), (3, .int ((Int32.ofInt 0)))]) ⟨rfl, rfl, rfl, rfl, trivial⟩ ?_
        exact key39 (Int.toNat (z47.toInt) + 1) σ7 ((Int32.ofInt 1)) ((Int32.ofInt 0)) h8 h12 ((h9 _ _ (inW (by decide +kernel : TG 159 = 35) (by decide +kernel))).trans h1) h27 h46 h50 (by omega) (by omega) (by omega) (by omega) (by omega)
/-- DoorSchoolModel.is(Ljava/lang/String;)Z -/
abbrev P_251s1 (σ0 : SG) : PO := fun v σ => WT σ ∧ Fr [] σ0 σ ∧ ∃ ret : Int32, v = some (.int ret) ∧ -ret.toInt ≤ 0 ∧ ret.toInt - 1 ≤ 0
set_option maxRecDepth 10000 in
set_option maxHeartbeats 4000000 in
theorem c_251s1 (σ0 : SG) (hσ0 : WT σ0) : En 4 90 none mr_251 (P_251s1 σ0) 0 [(0, .ref 159), (1, .retAddr 3)] [] σ0 := by
  have hF0 : Fr [] σ0 σ0 := Fr_rfl
  refine En_Ps 1 (pc' := 1) (lv' := [(0, .ref 159), (1, .retAddr 3)]) (st' := [.ref 159]) rfl ?_
  obtain ⟨z2, h1, h3, h4⟩ := WT_peekI hσ0 (by decide +kernel : TG 159 = 35) (by decide +kernel : FT 35 12 = (0, 0, 3)) (by decide +kernel)
  refine En_callV rfl rfl rfl rfl rfl rfl rfl rfl (by decide +kernel : TG 159 = 35) (by decide +kernel) rfl (c_237 σ0 hσ0 z2 h1) (by decide) (by decide) (fun v6 σ7 h5 => ?_)
  obtain ⟨h8, h9, z11, rfl, h10⟩ := h5
  have h12 := Fr_trans hF0 h9 (by decide +kernel)
  refine En_iEq _ rfl rfl (fun h13 => ?_) (fun h13 => ?_)
  · refine En_Ps 4 (pc' := 39) (lv' := [(3, .int ((Int32.ofInt 0))), (2, .int ((Int32.ofInt 0))), (0, .ref 159), (1, .retAddr 3)]) (st' := []) rfl ?_
    have key39 : ∀ (n39 : Nat) (σ16 : SG) (y14 : Int32) (y15 : Int32), WT σ16 → Fr [] σ0 σ16 → (σ16 159)[12]? = some (.int z2) → 0 ≤ y14.toInt → y14.toInt ≤ 0 → 0 ≤ y15.toInt → y15.toInt ≤ 0 → z2.toInt - y14.toInt < (n39 : Int) → En 4 90 none mr_251 (P_251s1 σ0) 39 [(0, .ref 159), (1, .retAddr 3), (2, .int y14), (3, .int y15)] [] σ16 := by
      intro n39
      induction n39 with
      | zero =>
        intro σ16 y14 y15 h17 h18 h19 h20 h21 h22 h23 h24
        exfalso; omega
      | succ n39 ih39 =>
        intro σ16 y14 y15 h17 h18 h19 h20 h21 h22 h23 h24
        refine En_Ps 2 (pc' := 41) (lv' := [(0, .ref 159), (1, .retAddr 3), (2, .int y14), (3, .int y15)]) (st' := [.retAddr 3, .int y15]) rfl ?_
        refine En_slen 1 6 rfl rfl (by decide) rfl ?_
        refine En_icGe _ rfl (by decide : (Int32.ofNat 6).toInt = 6) rfl (fun hx => by exfalso; omega) (fun h25 => ?_)
        refine En_Ps 1 (pc' := 48) (lv' := [(0, .ref 159), (1, .retAddr 3), (2, .int y14), (3, .int y15)]) (st' := [.int y14]) rfl ?_
        refine En_iEq _ rfl rfl (fun h26 => ?_) (fun hx => by exfalso; omega)
        refine En_Ps 1 (pc' := 83) (lv' := [(0, .ref 159), (1, .retAddr 3), (2, .int y14), (3, .int y15)]) (st' := [.int y14]) rfl ?_
        exact En_ret (v := some (.int y14)) rfl rfl (retZ rfl rfl (by omega) (by omega)) ⟨h17, h18, y14, rfl, (by omega)⟩
    have := (by decide : (Int32.ofInt 0).toInt = 0)
    have := (by decide : (Int32.ofInt 0).toInt = 0)
    refine En_lv (lv := [(0, .ref 159), (1, .retAddr 3), (2, .int ((Int32.ofInt 0))), (3, .int ((Int32.ofInt 0)))]) ⟨rfl, rfl, rfl, rfl, trivial⟩ ?_
    exact key39 (Int.toNat (z2.toInt) + 1) σ7 ((Int32.ofInt 0)) ((Int32.ofInt 0)) h8 h12 ((h9 _ _ (inW (by decide +kernel : TG 159 = 35) (by decide +kernel))).trans h1) (by omega) (by omega) (by omega) (by omega) (by omega)
  · refine En_Ps 1 (pc' := 8) (lv' := [(0, .ref 159), (1, .retAddr 3)]) (st' := [.ref 159]) rfl ?_
    refine En_getI (j := 10) (l := 0) (u := 4) rfl rfl rfl (by decide +kernel : TG 159 = 35) (by decide +kernel) h8 (by decide +kernel) (fun z28 h27 h29 h30 => ?_)
    refine En_Ps 1 (pc' := 12) (lv' := [(0, .ref 159), (1, .retAddr 3)]) (st' := [.int ((Int32.ofInt 1)), .int z28]) rfl ?_
    refine En_icNe _ rfl (by decide : (Int32.ofInt 1).toInt = 1) rfl (fun h31 => ?_) (fun h31 => ?_)
    · refine En_Ps 4 (pc' := 39) (lv' := [(3, .int ((Int32.ofInt 0))), (2, .int ((Int32.ofInt 0))), (0, .ref 159), (1, .retAddr 3)]) (st' := []) rfl ?_
      have key39 : ∀ (n39 : Nat) (σ34 : SG) (y32 : Int32) (y33 : Int32), WT σ34 → Fr [] σ0 σ34 → (σ34 159)[12]? = some (.int z2) → (σ34 159)[10]? = some (.int z28) → 0 ≤ y32.toInt → y32.toInt ≤ 0 → 0 ≤ y33.toInt → y33.toInt ≤ 0 → z2.toInt - y32.toInt < (n39 : Int) → En 4 90 none mr_251 (P_251s1 σ0) 39 [(0, .ref 159), (1, .retAddr 3), (2, .int y32), (3, .int y33)] [] σ34 := by
        intro n39
        induction n39 with
        | zero =>
          intro σ34 y32 y33 h35 h36 h37 h38 h39 h40 h41 h42 h43
          exfalso; omega
        | succ n39 ih39 =>
          intro σ34 y32 y33 h35 h36 h37 h38 h39 h40 h41 h42 h43
          refine En_Ps 2 (pc' := 41) (lv' := [(0, .ref 159), (1, .retAddr 3), (2, .int y32), (3, .int y33)]) (st' := [.retAddr 3, .int y33]) rfl ?_
          refine En_slen 1 6 rfl rfl (by decide) rfl ?_
          refine En_icGe _ rfl (by decide : (Int32.ofNat 6).toInt = 6) rfl (fun hx => by exfalso; omega) (fun h44 => ?_)
          refine En_Ps 1 (pc' := 48) (lv' := [(0, .ref 159), (1, .retAddr 3), (2, .int y32), (3, .int y33)]) (st' := [.int y32]) rfl ?_
          refine En_iEq _ rfl rfl (fun h45 => ?_) (fun hx => by exfalso; omega)
          refine En_Ps 1 (pc' := 83) (lv' := [(0, .ref 159), (1, .retAddr 3), (2, .int y32), (3, .int y33)]) (st' := [.int y32]) rfl ?_
          exact En_ret (v := some (.int y32)) rfl rfl (retZ rfl rfl (by omega) (by omega)) ⟨h35, h36, y32, rfl, (by omega)⟩
      have := (by decide : (Int32.ofInt 0).toInt = 0)
      have := (by decide : (Int32.ofInt 0).toInt = 0)
      refine En_lv (lv := [(0, .ref 159), (1, .retAddr 3), (2, .int ((Int32.ofInt 0))), (3, .int ((Int32.ofInt 0)))]) ⟨rfl, rfl, rfl, rfl, trivial⟩ ?_
      exact key39 (Int.toNat (z2.toInt) + 1) σ7 ((Int32.ofInt 0)) ((Int32.ofInt 0)) h8 h12 ((h9 _ _ (inW (by decide +kernel : TG 159 = 35) (by decide +kernel))).trans h1) h27 (by omega) (by omega) (by omega) (by omega) (by omega)
    · refine En_Ps 1 (pc' := 16) (lv' := [(0, .ref 159), (1, .retAddr 3)]) (st' := [.ref 159]) rfl ?_
      refine En_getI (j := 8) (l := 0) (u := 1600) rfl rfl rfl (by decide +kernel : TG 159 = 35) (by decide +kernel) h8 (by decide +kernel) (fun z47 h46 h48 h49 => ?_)
      refine En_Ps 1 (pc' := 20) (lv' := [(0, .ref 159), (1, .retAddr 3)]) (st' := [.ref 159, .int z47]) rfl ?_
      refine En_getI (j := 9) (l := 0) (u := 1600) rfl rfl rfl (by decide +kernel : TG 159 = 35) (by decide +kernel) h8 (by decide +kernel) (fun z51 h50 h52 h53 => ?_)
      refine En_Ps 1 (pc' := 24) (lv' := [(0, .ref 159), (1, .retAddr 3)]) (st' := [.int ((z47 - z51))]) rfl ?_
      refine En_top (subI rfl rfl (by omega) (by omega)) (fun z54 h55 => ?_)
      refine En_Ps 1 (pc' := 25) (lv' := [(0, .ref 159), (1, .retAddr 3)]) (st' := [.retAddr 3, .int z54]) rfl ?_
      refine En_slen 1 6 rfl rfl (by decide) rfl ?_
      refine En_icNe _ rfl (by decide : (Int32.ofNat 6).toInt = 6) rfl (fun h56 => ?_) (fun h56 => ?_)
      · refine En_Ps 4 (pc' := 39) (lv' := [(3, .int ((Int32.ofInt 0))), (2, .int ((Int32.ofInt 0))), (0, .ref 159), (1, .retAddr 3)]) (st' := []) rfl ?_
        have key39 : ∀ (n39 : Nat) (σ59 : SG) (y57 : Int32) (y58 : Int32), WT σ59 → Fr [] σ0 σ59 → (σ59 159)[12]? = some (.int z2) → (σ59 159)[10]? = some (.int z28) → (σ59 159)[8]? = some (.int z47) → (σ59 159)[9]? = some (.int z51) → 0 ≤ y57.toInt → y57.toInt ≤ 0 → 0 ≤ y58.toInt → y58.toInt ≤ 0 → z2.toInt - y57.toInt < (n39 : Int) → En 4 90 none mr_251 (P_251s1 σ0) 39 [(0, .ref 159), (1, .retAddr 3), (2, .int y57), (3, .int y58)] [] σ59 := by
          intro n39
          induction n39 with
          | zero =>
            intro σ59 y57 y58 h60 h61 h62 h63 h64 h65 h66 h67 h68 h69 h70
            exfalso; omega
          | succ n39 ih39 =>
            intro σ59 y57 y58 h60 h61 h62 h63 h64 h65 h66 h67 h68 h69 h70
            refine En_Ps 2 (pc' := 41) (lv' := [(0, .ref 159), (1, .retAddr 3), (2, .int y57), (3, .int y58)]) (st' := [.retAddr 3, .int y58]) rfl ?_
            refine En_slen 1 6 rfl rfl (by decide) rfl ?_
            refine En_icGe _ rfl (by decide : (Int32.ofNat 6).toInt = 6) rfl (fun hx => by exfalso; omega) (fun h71 => ?_)
            refine En_Ps 1 (pc' := 48) (lv' := [(0, .ref 159), (1, .retAddr 3), (2, .int y57), (3, .int y58)]) (st' := [.int y57]) rfl ?_
            refine En_iEq _ rfl rfl (fun h72 => ?_) (fun hx => by exfalso; omega)
            refine En_Ps 1 (pc' := 83) (lv' := [(0, .ref 159), (1, .retAddr 3), (2, .int y57), (3, .int y58)]) (st' := [.int y57]) rfl ?_
            exact En_ret (v := some (.int y57)) rfl rfl (retZ rfl rfl (by omega) (by omega)) ⟨h60, h61, y57, rfl, (by omega)⟩
        have := (by decide : (Int32.ofInt 0).toInt = 0)
        have := (by decide : (Int32.ofInt 0).toInt = 0)
        refine En_lv (lv := [(0, .ref 159), (1, .retAddr 3), (2, .int ((Int32.ofInt 0))), (3, .int ((Int32.ofInt 0)))]) ⟨rfl, rfl, rfl, rfl, trivial⟩ ?_
        exact key39 (Int.toNat (z2.toInt) + 1) σ7 ((Int32.ofInt 0)) ((Int32.ofInt 0)) h8 h12 ((h9 _ _ (inW (by decide +kernel : TG 159 = 35) (by decide +kernel))).trans h1) h27 h46 h50 (by omega) (by omega) (by omega) (by omega) (by omega)
      · refine En_Ps 5 (pc' := 39) (lv' := [(3, .int ((Int32.ofInt 0))), (2, .int ((Int32.ofInt 1))), (0, .ref 159), (1, .retAddr 3)]) (st' := []) rfl ?_
        have key39 : ∀ (n39 : Nat) (σ75 : SG) (y73 : Int32) (y74 : Int32), WT σ75 → Fr [] σ0 σ75 → (σ75 159)[12]? = some (.int z2) → (σ75 159)[10]? = some (.int z28) → (σ75 159)[8]? = some (.int z47) → (σ75 159)[9]? = some (.int z51) → 0 ≤ y73.toInt → y73.toInt ≤ 1 → 0 ≤ y74.toInt → y74.toInt ≤ 6 → z47.toInt - y74.toInt < (n39 : Int) → En 4 90 none mr_251 (P_251s1 σ0) 39 [(0, .ref 159), (1, .retAddr 3), (2, .int y73), (3, .int y74)] [] σ75 := by
          intro n39
          induction n39 with
          | zero =>
            intro σ75 y73 y74 h76 h77 h78 h79 h80 h81 h82 h83 h84 h85 h86
            exfalso; omega
          | succ n39 ih39 =>
            intro σ75 y73 y74 h76 h77 h78 h79 h80 h81 h82 h83 h84 h85 h86
            refine En_Ps 2 (pc' := 41) (lv' := [(0, .ref 159), (1, .retAddr 3), (2, .int y73), (3, .int y74)]) (st' := [.retAddr 3, .int y74]) rfl ?_
            refine En_slen 1 6 rfl rfl (by decide) rfl ?_
            refine En_icGe _ rfl (by decide : (Int32.ofNat 6).toInt = 6) rfl (fun h87 => ?_) (fun h87 => ?_)
            · refine En_Ps 1 (pc' := 83) (lv' := [(0, .ref 159), (1, .retAddr 3), (2, .int y73), (3, .int y74)]) (st' := [.int y73]) rfl ?_
              exact En_ret (v := some (.int y73)) rfl rfl (retZ rfl rfl (by omega) (by omega)) ⟨h76, h77, y73, rfl, (by omega)⟩
            · refine En_Ps 1 (pc' := 48) (lv' := [(0, .ref 159), (1, .retAddr 3), (2, .int y73), (3, .int y74)]) (st' := [.int y73]) rfl ?_
              refine En_iEq _ rfl rfl (fun h88 => ?_) (fun h88 => ?_)
              · refine En_Ps 1 (pc' := 83) (lv' := [(0, .ref 159), (1, .retAddr 3), (2, .int y73), (3, .int y74)]) (st' := [.int y73]) rfl ?_
                exact En_ret (v := some (.int y73)) rfl rfl (retZ rfl rfl (by omega) (by omega)) ⟨h76, h77, y73, rfl, (by omega)⟩
              · refine En_Ps 1 (pc' := 52) (lv' := [(0, .ref 159), (1, .retAddr 3), (2, .int y73), (3, .int y74)]) (st' := [.ref 159]) rfl ?_
                refine En_getU (j := 4) (u := 163) (g' := 39) (q := 0) rfl rfl rfl (by decide +kernel : TG 159 = 35) (by decide +kernel) h76 (by decide +kernel) (by decide +kernel) (fun h89 => ?_)
                refine En_Ps 1 (pc' := 56) (lv' := [(0, .ref 159), (1, .retAddr 3), (2, .int y73), (3, .int y74)]) (st' := [.ref 159, .ref 163]) rfl ?_
                refine En_getK (j := 9) h81 rfl rfl rfl (by decide +kernel : TG 159 = 35) (by decide +kernel) ?_
                refine En_Ps 2 (pc' := 61) (lv' := [(0, .ref 159), (1, .retAddr 3), (2, .int y73), (3, .int y74)]) (st' := [.int ((z51 + y74)), .ref 163]) rfl ?_
                refine En_top (addI rfl rfl (by omega) (by omega)) (fun z91 h92 => ?_)
                refine En_bald (l := (-128)) (u := 127) rfl rfl (by decide +kernel : TG 163 = 39) (by decide +kernel) h76 (by omega) (lnI (by decide +kernel : LN _ = 1600) (by omega)) (FTsgl (by decide +kernel)) (fun z94 h93 h95 h96 => ?_)
                refine En_Ps 2 (pc' := 64) (lv' := [(0, .ref 159), (1, .retAddr 3), (2, .int y73), (3, .int y74)]) (st' := [.int y74, .retAddr 3, .int z94]) rfl ?_
                refine En_schar 1 6 rfl rfl rfl (by decide) (by omega) (by omega) rfl (fun z97 h98 h99 => ?_)
                refine En_icNe _ rfl rfl rfl (fun h100 => ?_) (fun h100 => ?_)
                · refine En_Ps 3 (pc' := 79) (lv' := [(3, .int ((y74 + Int32.ofInt 1))), (2, .int ((Int32.ofInt 0))), (0, .ref 159), (1, .retAddr 3)]) (st' := []) rfl ?_
                  refine En_lv1 (addI rfl (by decide : (Int32.ofInt 1).toInt = 1) (by omega) (by omega)) (fun z101 h102 => ?_)
                  refine En_Ps 1 (pc' := 39) (lv' := [(3, .int z101), (2, .int ((Int32.ofInt 0))), (0, .ref 159), (1, .retAddr 3)]) (st' := []) rfl ?_
                  have := (by decide : (Int32.ofInt 0).toInt = 0)
                  refine En_lv (lv := [(0, .ref 159), (1, .retAddr 3), (2, .int ((Int32.ofInt 0))), (3, .int z101)]) ⟨rfl, rfl, rfl, rfl, trivial⟩ ?_
                  exact ih39 σ75 ((Int32.ofInt 0)) z101 h76 h77 h78 h79 h80 h81 (by omega) (by omega) (by omega) (by omega) (by omega)
                · refine En_Ps 4 (pc' := 79) (lv' := [(3, .int ((y74 + Int32.ofInt 1))), (2, .int ((Int32.ofInt 1))), (0, .ref 159), (1, .retAddr 3)]) (st' := []) rfl ?_
                  refine En_lv1 (addI rfl (by decide : (Int32.ofInt 1).toInt = 1) (by omega) (by omega)) (fun z103 h104 => ?_)
                  refine En_Ps 1 (pc' := 39) (lv' := [(3, .int z103), (2, .int ((Int32.ofInt 1))), (0, .ref 159), (1, .retAddr 3)]) (st' := []) rfl ?_
                  have := (by decide : (Int32.ofInt 1).toInt = 1)
                  refine En_lv (lv := [(0, .ref 159), (1, .retAddr 3), (2, .int ((Int32.ofInt 1))), (3, .int z103)]) ⟨rfl, rfl, rfl, rfl, trivial⟩ ?_
                  exact ih39 σ75 ((Int32.ofInt 1)) z103 h76 h77 h78 h79 h80 h81 (by omega) (by omega) (by omega) (by omega) (by omega)
        have := (by decide : (Int32.ofInt 1).toInt = 1)
        have := (by decide : (Int32.ofInt 0).toInt = 0)
        refine En_lv (lv := [(0, .ref 159), (1, .retAddr 3), (2, .int ((Int32.ofInt 1))), (3, .int ((Int32.ofInt 0)))]) ⟨rfl, rfl, rfl, rfl, trivial⟩ ?_
        exact key39 (Int.toNat (z47.toInt) + 1) σ7 ((Int32.ofInt 1)) ((Int32.ofInt 0)) h8 h12 ((h9 _ _ (inW (by decide +kernel : TG 159 = 35) (by decide +kernel))).trans h1) h27 h46 h50 (by omega) (by omega) (by omega) (by omega) (by omega)
/-- DoorSchoolModel.is(Ljava/lang/String;)Z -/
abbrev P_251s2 (σ0 : SG) : PO := fun v σ => WT σ ∧ Fr [] σ0 σ ∧ ∃ ret : Int32, v = some (.int ret) ∧ -ret.toInt ≤ 0 ∧ ret.toInt - 1 ≤ 0
set_option maxRecDepth 10000 in
set_option maxHeartbeats 4000000 in
theorem c_251s2 (σ0 : SG) (hσ0 : WT σ0) : En 4 90 none mr_251 (P_251s2 σ0) 0 [(0, .ref 159), (1, .retAddr 5)] [] σ0 := by
  have hF0 : Fr [] σ0 σ0 := Fr_rfl
  refine En_Ps 1 (pc' := 1) (lv' := [(0, .ref 159), (1, .retAddr 5)]) (st' := [.ref 159]) rfl ?_
  obtain ⟨z2, h1, h3, h4⟩ := WT_peekI hσ0 (by decide +kernel : TG 159 = 35) (by decide +kernel : FT 35 12 = (0, 0, 3)) (by decide +kernel)
  refine En_callV rfl rfl rfl rfl rfl rfl rfl rfl (by decide +kernel : TG 159 = 35) (by decide +kernel) rfl (c_237 σ0 hσ0 z2 h1) (by decide) (by decide) (fun v6 σ7 h5 => ?_)
  obtain ⟨h8, h9, z11, rfl, h10⟩ := h5
  have h12 := Fr_trans hF0 h9 (by decide +kernel)
  refine En_iEq _ rfl rfl (fun h13 => ?_) (fun h13 => ?_)
  · refine En_Ps 4 (pc' := 39) (lv' := [(3, .int ((Int32.ofInt 0))), (2, .int ((Int32.ofInt 0))), (0, .ref 159), (1, .retAddr 5)]) (st' := []) rfl ?_
    have key39 : ∀ (n39 : Nat) (σ16 : SG) (y14 : Int32) (y15 : Int32), WT σ16 → Fr [] σ0 σ16 → (σ16 159)[12]? = some (.int z2) → 0 ≤ y14.toInt → y14.toInt ≤ 0 → 0 ≤ y15.toInt → y15.toInt ≤ 0 → z2.toInt - y14.toInt < (n39 : Int) → En 4 90 none mr_251 (P_251s2 σ0) 39 [(0, .ref 159), (1, .retAddr 5), (2, .int y14), (3, .int y15)] [] σ16 := by
      intro n39
      induction n39 with
      | zero =>
        intro σ16 y14 y15 h17 h18 h19 h20 h21 h22 h23 h24
        exfalso; omega
      | succ n39 ih39 =>
        intro σ16 y14 y15 h17 h18 h19 h20 h21 h22 h23 h24
        refine En_Ps 2 (pc' := 41) (lv' := [(0, .ref 159), (1, .retAddr 5), (2, .int y14), (3, .int y15)]) (st' := [.retAddr 5, .int y15]) rfl ?_
        refine En_slen 2 4 rfl rfl (by decide) rfl ?_
        refine En_icGe _ rfl (by decide : (Int32.ofNat 4).toInt = 4) rfl (fun hx => by exfalso; omega) (fun h25 => ?_)
        refine En_Ps 1 (pc' := 48) (lv' := [(0, .ref 159), (1, .retAddr 5), (2, .int y14), (3, .int y15)]) (st' := [.int y14]) rfl ?_
        refine En_iEq _ rfl rfl (fun h26 => ?_) (fun hx => by exfalso; omega)
        refine En_Ps 1 (pc' := 83) (lv' := [(0, .ref 159), (1, .retAddr 5), (2, .int y14), (3, .int y15)]) (st' := [.int y14]) rfl ?_
        exact En_ret (v := some (.int y14)) rfl rfl (retZ rfl rfl (by omega) (by omega)) ⟨h17, h18, y14, rfl, (by omega)⟩
    have := (by decide : (Int32.ofInt 0).toInt = 0)
    have := (by decide : (Int32.ofInt 0).toInt = 0)
    refine En_lv (lv := [(0, .ref 159), (1, .retAddr 5), (2, .int ((Int32.ofInt 0))), (3, .int ((Int32.ofInt 0)))]) ⟨rfl, rfl, rfl, rfl, trivial⟩ ?_
    exact key39 (Int.toNat (z2.toInt) + 1) σ7 ((Int32.ofInt 0)) ((Int32.ofInt 0)) h8 h12 ((h9 _ _ (inW (by decide +kernel : TG 159 = 35) (by decide +kernel))).trans h1) (by omega) (by omega) (by omega) (by omega) (by omega)
  · refine En_Ps 1 (pc' := 8) (lv' := [(0, .ref 159), (1, .retAddr 5)]) (st' := [.ref 159]) rfl ?_
    refine En_getI (j := 10) (l := 0) (u := 4) rfl rfl rfl (by decide +kernel : TG 159 = 35) (by decide +kernel) h8 (by decide +kernel) (fun z28 h27 h29 h30 => ?_)
    refine En_Ps 1 (pc' := 12) (lv' := [(0, .ref 159), (1, .retAddr 5)]) (st' := [.int ((Int32.ofInt 1)), .int z28]) rfl ?_
    refine En_icNe _ rfl (by decide : (Int32.ofInt 1).toInt = 1) rfl (fun h31 => ?_) (fun h31 => ?_)
    · refine En_Ps 4 (pc' := 39) (lv' := [(3, .int ((Int32.ofInt 0))), (2, .int ((Int32.ofInt 0))), (0, .ref 159), (1, .retAddr 5)]) (st' := []) rfl ?_
      have key39 : ∀ (n39 : Nat) (σ34 : SG) (y32 : Int32) (y33 : Int32), WT σ34 → Fr [] σ0 σ34 → (σ34 159)[12]? = some (.int z2) → (σ34 159)[10]? = some (.int z28) → 0 ≤ y32.toInt → y32.toInt ≤ 0 → 0 ≤ y33.toInt → y33.toInt ≤ 0 → z2.toInt - y32.toInt < (n39 : Int) → En 4 90 none mr_251 (P_251s2 σ0) 39 [(0, .ref 159), (1, .retAddr 5), (2, .int y32), (3, .int y33)] [] σ34 := by
        intro n39
        induction n39 with
        | zero =>
          intro σ34 y32 y33 h35 h36 h37 h38 h39 h40 h41 h42 h43
          exfalso; omega
        | succ n39 ih39 =>
          intro σ34 y32 y33 h35 h36 h37 h38 h39 h40 h41 h42 h43
          refine En_Ps 2 (pc' := 41) (lv' := [(0, .ref 159), (1, .retAddr 5), (2, .int y32), (3, .int y33)]) (st' := [.retAddr 5, .int y33]) rfl ?_
          refine En_slen 2 4 rfl rfl (by decide) rfl ?_
          refine En_icGe _ rfl (by decide : (Int32.ofNat 4).toInt = 4) rfl (fun hx => by exfalso; omega) (fun h44 => ?_)
          refine En_Ps 1 (pc' := 48) (lv' := [(0, .ref 159), (1, .retAddr 5), (2, .int y32), (3, .int y33)]) (st' := [.int y32]) rfl ?_
          refine En_iEq _ rfl rfl (fun h45 => ?_) (fun hx => by exfalso; omega)
          refine En_Ps 1 (pc' := 83) (lv' := [(0, .ref 159), (1, .retAddr 5), (2, .int y32), (3, .int y33)]) (st' := [.int y32]) rfl ?_
          exact En_ret (v := some (.int y32)) rfl rfl (retZ rfl rfl (by omega) (by omega)) ⟨h35, h36, y32, rfl, (by omega)⟩
      have := (by decide : (Int32.ofInt 0).toInt = 0)
      have := (by decide : (Int32.ofInt 0).toInt = 0)
      refine En_lv (lv := [(0, .ref 159), (1, .retAddr 5), (2, .int ((Int32.ofInt 0))), (3, .int ((Int32.ofInt 0)))]) ⟨rfl, rfl, rfl, rfl, trivial⟩ ?_
      exact key39 (Int.toNat (z2.toInt) + 1) σ7 ((Int32.ofInt 0)) ((Int32.ofInt 0)) h8 h12 ((h9 _ _ (inW (by decide +kernel : TG 159 = 35) (by decide +kernel))).trans h1) h27 (by omega) (by omega) (by omega) (by omega) (by omega)
    · refine En_Ps 1 (pc' := 16) (lv' := [(0, .ref 159), (1, .retAddr 5)]) (st' := [.ref 159]) rfl ?_
      refine En_getI (j := 8) (l := 0) (u := 1600) rfl rfl rfl (by decide +kernel : TG 159 = 35) (by decide +kernel) h8 (by decide +kernel) (fun z47 h46 h48 h49 => ?_)
      refine En_Ps 1 (pc' := 20) (lv' := [(0, .ref 159), (1, .retAddr 5)]) (st' := [.ref 159, .int z47]) rfl ?_
      refine En_getI (j := 9) (l := 0) (u := 1600) rfl rfl rfl (by decide +kernel : TG 159 = 35) (by decide +kernel) h8 (by decide +kernel) (fun z51 h50 h52 h53 => ?_)
      refine En_Ps 1 (pc' := 24) (lv' := [(0, .ref 159), (1, .retAddr 5)]) (st' := [.int ((z47 - z51))]) rfl ?_
      refine En_top (subI rfl rfl (by omega) (by omega)) (fun z54 h55 => ?_)
      refine En_Ps 1 (pc' := 25) (lv' := [(0, .ref 159), (1, .retAddr 5)]) (st' := [.retAddr 5, .int z54]) rfl ?_
      refine En_slen 2 4 rfl rfl (by decide) rfl ?_
      refine En_icNe _ rfl (by decide : (Int32.ofNat 4).toInt = 4) rfl (fun h56 => ?_) (fun h56 => ?_)
      · refine En_Ps 4 (pc' := 39) (lv' := [(3, .int ((Int32.ofInt 0))), (2, .int ((Int32.ofInt 0))), (0, .ref 159), (1, .retAddr 5)]) (st' := []) rfl ?_
        have key39 : ∀ (n39 : Nat) (σ59 : SG) (y57 : Int32) (y58 : Int32), WT σ59 → Fr [] σ0 σ59 → (σ59 159)[12]? = some (.int z2) → (σ59 159)[10]? = some (.int z28) → (σ59 159)[8]? = some (.int z47) → (σ59 159)[9]? = some (.int z51) → 0 ≤ y57.toInt → y57.toInt ≤ 0 → 0 ≤ y58.toInt → y58.toInt ≤ 0 → z2.toInt - y57.toInt < (n39 : Int) → En 4 90 none mr_251 (P_251s2 σ0) 39 [(0, .ref 159), (1, .retAddr 5), (2, .int y57), (3, .int y58)] [] σ59 := by
          intro n39
          induction n39 with
          | zero =>
            intro σ59 y57 y58 h60 h61 h62 h63 h64 h65 h66 h67 h68 h69 h70
            exfalso; omega
          | succ n39 ih39 =>
            intro σ59 y57 y58 h60 h61 h62 h63 h64 h65 h66 h67 h68 h69 h70
            refine En_Ps 2 (pc' := 41) (lv' := [(0, .ref 159), (1, .retAddr 5), (2, .int y57), (3, .int y58)]) (st' := [.retAddr 5, .int y58]) rfl ?_
            refine En_slen 2 4 rfl rfl (by decide) rfl ?_
            refine En_icGe _ rfl (by decide : (Int32.ofNat 4).toInt = 4) rfl (fun hx => by exfalso; omega) (fun h71 => ?_)
            refine En_Ps 1 (pc' := 48) (lv' := [(0, .ref 159), (1, .retAddr 5), (2, .int y57), (3, .int y58)]) (st' := [.int y57]) rfl ?_
            refine En_iEq _ rfl rfl (fun h72 => ?_) (fun hx => by exfalso; omega)
            refine En_Ps 1 (pc' := 83) (lv' := [(0, .ref 159), (1, .retAddr 5), (2, .int y57), (3, .int y58)]) (st' := [.int y57]) rfl ?_
            exact En_ret (v := some (.int y57)) rfl rfl (retZ rfl rfl (by omega) (by omega)) ⟨h60, h61, y57, rfl, (by omega)⟩
        have := (by decide : (Int32.ofInt 0).toInt = 0)
        have := (by decide : (Int32.ofInt 0).toInt = 0)
        refine En_lv (lv := [(0, .ref 159), (1, .retAddr 5), (2, .int ((Int32.ofInt 0))), (3, .int ((Int32.ofInt 0)))]) ⟨rfl, rfl, rfl, rfl, trivial⟩ ?_
        exact key39 (Int.toNat (z2.toInt) + 1) σ7 ((Int32.ofInt 0)) ((Int32.ofInt 0)) h8 h12 ((h9 _ _ (inW (by decide +kernel : TG 159 = 35) (by decide +kernel))).trans h1) h27 h46 h50 (by omega) (by omega) (by omega) (by omega) (by omega)
      · refine En_Ps 5 (pc' := 39) (lv' := [(3, .int ((Int32.ofInt 0))), (2, .int ((Int32.ofInt 1))), (0, .ref 159), (1, .retAddr 5)]) (st' := []) rfl ?_
        have key39 : ∀ (n39 : Nat) (σ75 : SG) (y73 : Int32) (y74 : Int32), WT σ75 → Fr [] σ0 σ75 → (σ75 159)[12]? = some (.int z2) → (σ75 159)[10]? = some (.int z28) → (σ75 159)[8]? = some (.int z47) → (σ75 159)[9]? = some (.int z51) → 0 ≤ y73.toInt → y73.toInt ≤ 1 → 0 ≤ y74.toInt → y74.toInt ≤ 4 → z47.toInt - y74.toInt < (n39 : Int) → En 4 90 none mr_251 (P_251s2 σ0) 39 [(0, .ref 159), (1, .retAddr 5), (2, .int y73), (3, .int y74)] [] σ75 := by
          intro n39
          induction n39 with
          | zero =>
            intro σ75 y73 y74 h76 h77 h78 h79 h80 h81 h82 h83 h84 h85 h86
            exfalso; omega
          | succ n39 ih39 =>
            intro σ75 y73 y74 h76 h77 h78 h79 h80 h81 h82 h83 h84 h85 h86
            refine En_Ps 2 (pc' := 41) (lv' := [(0, .ref 159), (1, .retAddr 5), (2, .int y73), (3, .int y74)]) (st' := [.retAddr 5, .int y74]) rfl ?_
            refine En_slen 2 4 rfl rfl (by decide) rfl ?_
            refine En_icGe _ rfl (by decide : (Int32.ofNat 4).toInt = 4) rfl (fun h87 => ?_) (fun h87 => ?_)
            · refine En_Ps 1 (pc' := 83) (lv' := [(0, .ref 159), (1, .retAddr 5), (2, .int y73), (3, .int y74)]) (st' := [.int y73]) rfl ?_
              exact En_ret (v := some (.int y73)) rfl rfl (retZ rfl rfl (by omega) (by omega)) ⟨h76, h77, y73, rfl, (by omega)⟩
            · refine En_Ps 1 (pc' := 48) (lv' := [(0, .ref 159), (1, .retAddr 5), (2, .int y73), (3, .int y74)]) (st' := [.int y73]) rfl ?_
              refine En_iEq _ rfl rfl (fun h88 => ?_) (fun h88 => ?_)
              · refine En_Ps 1 (pc' := 83) (lv' := [(0, .ref 159), (1, .retAddr 5), (2, .int y73), (3, .int y74)]) (st' := [.int y73]) rfl ?_
                exact En_ret (v := some (.int y73)) rfl rfl (retZ rfl rfl (by omega) (by omega)) ⟨h76, h77, y73, rfl, (by omega)⟩
              · refine En_Ps 1 (pc' := 52) (lv' := [(0, .ref 159), (1, .retAddr 5), (2, .int y73), (3, .int y74)]) (st' := [.ref 159]) rfl ?_
                refine En_getU (j := 4) (u := 163) (g' := 39) (q := 0) rfl rfl rfl (by decide +kernel : TG 159 = 35) (by decide +kernel) h76 (by decide +kernel) (by decide +kernel) (fun h89 => ?_)
                refine En_Ps 1 (pc' := 56) (lv' := [(0, .ref 159), (1, .retAddr 5), (2, .int y73), (3, .int y74)]) (st' := [.ref 159, .ref 163]) rfl ?_
                refine En_getK (j := 9) h81 rfl rfl rfl (by decide +kernel : TG 159 = 35) (by decide +kernel) ?_
                refine En_Ps 2 (pc' := 61) (lv' := [(0, .ref 159), (1, .retAddr 5), (2, .int y73), (3, .int y74)]) (st' := [.int ((z51 + y74)), .ref 163]) rfl ?_
                refine En_top (addI rfl rfl (by omega) (by omega)) (fun z91 h92 => ?_)
                refine En_bald (l := (-128)) (u := 127) rfl rfl (by decide +kernel : TG 163 = 39) (by decide +kernel) h76 (by omega) (lnI (by decide +kernel : LN _ = 1600) (by omega)) (FTsgl (by decide +kernel)) (fun z94 h93 h95 h96 => ?_)
                refine En_Ps 2 (pc' := 64) (lv' := [(0, .ref 159), (1, .retAddr 5), (2, .int y73), (3, .int y74)]) (st' := [.int y74, .retAddr 5, .int z94]) rfl ?_
                refine En_schar 2 4 rfl rfl rfl (by decide) (by omega) (by omega) rfl (fun z97 h98 h99 => ?_)
                refine En_icNe _ rfl rfl rfl (fun h100 => ?_) (fun h100 => ?_)
                · refine En_Ps 3 (pc' := 79) (lv' := [(3, .int ((y74 + Int32.ofInt 1))), (2, .int ((Int32.ofInt 0))), (0, .ref 159), (1, .retAddr 5)]) (st' := []) rfl ?_
                  refine En_lv1 (addI rfl (by decide : (Int32.ofInt 1).toInt = 1) (by omega) (by omega)) (fun z101 h102 => ?_)
                  refine En_Ps 1 (pc' := 39) (lv' := [(3, .int z101), (2, .int ((Int32.ofInt 0))), (0, .ref 159), (1, .retAddr 5)]) (st' := []) rfl ?_
                  have := (by decide : (Int32.ofInt 0).toInt = 0)
                  refine En_lv (lv := [(0, .ref 159), (1, .retAddr 5), (2, .int ((Int32.ofInt 0))), (3, .int z101)]) ⟨rfl, rfl, rfl, rfl, trivial⟩ ?_
                  exact ih39 σ75 ((Int32.ofInt 0)) z101 h76 h77 h78 h79 h80 h81 (by omega) (by omega) (by omega) (by omega) (by omega)
                · refine En_Ps 4 (pc' := 79) (lv' := [(3, .int ((y74 + Int32.ofInt 1))), (2, .int ((Int32.ofInt 1))), (0, .ref 159), (1, .retAddr 5)]) (st' := []) rfl ?_
                  refine En_lv1 (addI rfl (by decide : (Int32.ofInt 1).toInt = 1) (by omega) (by omega)) (fun z103 h104 => ?_)
                  refine En_Ps 1 (pc' := 39) (lv' := [(3, .int z103), (2, .int ((Int32.ofInt 1))), (0, .ref 159), (1, .retAddr 5)]) (st' := []) rfl ?_
                  have := (by decide : (Int32.ofInt 1).toInt = 1)
                  refine En_lv (lv := [(0, .ref 159), (1, .retAddr 5), (2, .int ((Int32.ofInt 1))), (3, .int z103)]) ⟨rfl, rfl, rfl, rfl, trivial⟩ ?_
                  exact ih39 σ75 ((Int32.ofInt 1)) z103 h76 h77 h78 h79 h80 h81 (by omega) (by omega) (by omega) (by omega) (by omega)
        have := (by decide : (Int32.ofInt 1).toInt = 1)
        have := (by decide : (Int32.ofInt 0).toInt = 0)
        refine En_lv (lv := [(0, .ref 159), (1, .retAddr 5), (2, .int ((Int32.ofInt 1))), (3, .int ((Int32.ofInt 0)))]) ⟨rfl, rfl, rfl, rfl, trivial⟩ ?_
        exact key39 (Int.toNat (z47.toInt) + 1) σ7 ((Int32.ofInt 1)) ((Int32.ofInt 0)) h8 h12 ((h9 _ _ (inW (by decide +kernel : TG 159 = 35) (by decide +kernel))).trans h1) h27 h46 h50 (by omega) (by omega) (by omega) (by omega) (by omega)
/-- DoorSchoolModel.is(Ljava/lang/String;)Z -/
abbrev P_251s3 (σ0 : SG) : PO := fun v σ => WT σ ∧ Fr [] σ0 σ ∧ ∃ ret : Int32, v = some (.int ret) ∧ -ret.toInt ≤ 0 ∧ ret.toInt - 1 ≤ 0
set_option maxRecDepth 10000 in
set_option maxHeartbeats 4000000 in
theorem c_251s3 (σ0 : SG) (hσ0 : WT σ0) : En 4 90 none mr_251 (P_251s3 σ0) 0 [(0, .ref 159), (1, .retAddr 7)] [] σ0 := by
  have hF0 : Fr [] σ0 σ0 := Fr_rfl
  refine En_Ps 1 (pc' := 1) (lv' := [(0, .ref 159), (1, .retAddr 7)]) (st' := [.ref 159]) rfl ?_
  obtain ⟨z2, h1, h3, h4⟩ := WT_peekI hσ0 (by decide +kernel : TG 159 = 35) (by decide +kernel : FT 35 12 = (0, 0, 3)) (by decide +kernel)
  refine En_callV rfl rfl rfl rfl rfl rfl rfl rfl (by decide +kernel : TG 159 = 35) (by decide +kernel) rfl (c_237 σ0 hσ0 z2 h1) (by decide) (by decide) (fun v6 σ7 h5 => ?_)
  obtain ⟨h8, h9, z11, rfl, h10⟩ := h5
  have h12 := Fr_trans hF0 h9 (by decide +kernel)
  refine En_iEq _ rfl rfl (fun h13 => ?_) (fun h13 => ?_)
  · refine En_Ps 4 (pc' := 39) (lv' := [(3, .int ((Int32.ofInt 0))), (2, .int ((Int32.ofInt 0))), (0, .ref 159), (1, .retAddr 7)]) (st' := []) rfl ?_
    have key39 : ∀ (n39 : Nat) (σ16 : SG) (y14 : Int32) (y15 : Int32), WT σ16 → Fr [] σ0 σ16 → (σ16 159)[12]? = some (.int z2) → 0 ≤ y14.toInt → y14.toInt ≤ 0 → 0 ≤ y15.toInt → y15.toInt ≤ 0 → z2.toInt - y14.toInt < (n39 : Int) → En 4 90 none mr_251 (P_251s3 σ0) 39 [(0, .ref 159), (1, .retAddr 7), (2, .int y14), (3, .int y15)] [] σ16 := by
      intro n39
      induction n39 with
      | zero =>
        intro σ16 y14 y15 h17 h18 h19 h20 h21 h22 h23 h24
        exfalso; omega
      | succ n39 ih39 =>
        intro σ16 y14 y15 h17 h18 h19 h20 h21 h22 h23 h24
        refine En_Ps 2 (pc' := 41) (lv' := [(0, .ref 159), (1, .retAddr 7), (2, .int y14), (3, .int y15)]) (st' := [.retAddr 7, .int y15]) rfl ?_
        refine En_slen 3 4 rfl rfl (by decide) rfl ?_
        refine En_icGe _ rfl (by decide : (Int32.ofNat 4).toInt = 4) rfl (fun hx => by exfalso; omega) (fun h25 => ?_)
        refine En_Ps 1 (pc' := 48) (lv' := [(0, .ref 159), (1, .retAddr 7), (2, .int y14), (3, .int y15)]) (st' := [.int y14]) rfl ?_
        refine En_iEq _ rfl rfl (fun h26 => ?_) (fun hx => by exfalso; omega)
        refine En_Ps 1 (pc' := 83) (lv' := [(0, .ref 159), (1, .retAddr 7), (2, .int y14), (3, .int y15)]) (st' := [.int y14]) rfl ?_
        exact En_ret (v := some (.int y14)) rfl rfl (retZ rfl rfl (by omega) (by omega)) ⟨h17, h18, y14, rfl, (by omega)⟩
    have := (by decide : (Int32.ofInt 0).toInt = 0)
    have := (by decide : (Int32.ofInt 0).toInt = 0)
    refine En_lv (lv := [(0, .ref 159), (1, .retAddr 7), (2, .int ((Int32.ofInt 0))), (3, .int ((Int32.ofInt 0)))]) ⟨rfl, rfl, rfl, rfl, trivial⟩ ?_
    exact key39 (Int.toNat (z2.toInt) + 1) σ7 ((Int32.ofInt 0)) ((Int32.ofInt 0)) h8 h12 ((h9 _ _ (inW (by decide +kernel : TG 159 = 35) (by decide +kernel))).trans h1) (by omega) (by omega) (by omega) (by omega) (by omega)
  · refine En_Ps 1 (pc' := 8) (lv' := [(0, .ref 159), (1, .retAddr 7)]) (st' := [.ref 159]) rfl ?_
    refine En_getI (j := 10) (l := 0) (u := 4) rfl rfl rfl (by decide +kernel : TG 159 = 35) (by decide +kernel) h8 (by decide +kernel) (fun z28 h27 h29 h30 => ?_)
    refine En_Ps 1 (pc' := 12) (lv' := [(0, .ref 159), (1, .retAddr 7)]) (st' := [.int ((Int32.ofInt 1)), .int z28]) rfl ?_
    refine En_icNe _ rfl (by decide : (Int32.ofInt 1).toInt = 1) rfl (fun h31 => ?_) (fun h31 => ?_)
    · refine En_Ps 4 (pc' := 39) (lv' := [(3, .int ((Int32.ofInt 0))), (2, .int ((Int32.ofInt 0))), (0, .ref 159), (1, .retAddr 7)]) (st' := []) rfl ?_
      have key39 : ∀ (n39 : Nat) (σ34 : SG) (y32 : Int32) (y33 : Int32), WT σ34 → Fr [] σ0 σ34 → (σ34 159)[12]? = some (.int z2) → (σ34 159)[10]? = some (.int z28) → 0 ≤ y32.toInt → y32.toInt ≤ 0 → 0 ≤ y33.toInt → y33.toInt ≤ 0 → z2.toInt - y32.toInt < (n39 : Int) → En 4 90 none mr_251 (P_251s3 σ0) 39 [(0, .ref 159), (1, .retAddr 7), (2, .int y32), (3, .int y33)] [] σ34 := by
        intro n39
        induction n39 with
        | zero =>
          intro σ34 y32 y33 h35 h36 h37 h38 h39 h40 h41 h42 h43
          exfalso; omega
        | succ n39 ih39 =>
          intro σ34 y32 y33 h35 h36 h37 h38 h39 h40 h41 h42 h43
          refine En_Ps 2 (pc' := 41) (lv' := [(0, .ref 159), (1, .retAddr 7), (2, .int y32), (3, .int y33)]) (st' := [.retAddr 7, .int y33]) rfl ?_
          refine En_slen 3 4 rfl rfl (by decide) rfl ?_
          refine En_icGe _ rfl (by decide : (Int32.ofNat 4).toInt = 4) rfl (fun hx => by exfalso; omega) (fun h44 => ?_)
          refine En_Ps 1 (pc' := 48) (lv' := [(0, .ref 159), (1, .retAddr 7), (2, .int y32), (3, .int y33)]) (st' := [.int y32]) rfl ?_
          refine En_iEq _ rfl rfl (fun h45 => ?_) (fun hx => by exfalso; omega)
          refine En_Ps 1 (pc' := 83) (lv' := [(0, .ref 159), (1, .retAddr 7), (2, .int y32), (3, .int y33)]) (st' := [.int y32]) rfl ?_
          exact En_ret (v := some (.int y32)) rfl rfl (retZ rfl rfl (by omega) (by omega)) ⟨h35, h36, y32, rfl, (by omega)⟩
      have := (by decide : (Int32.ofInt 0).toInt = 0)
      have := (by decide : (Int32.ofInt 0).toInt = 0)
      refine En_lv (lv := [(0, .ref 159), (1, .retAddr 7), (2, .int ((Int32.ofInt 0))), (3, .int ((Int32.ofInt 0)))]) ⟨rfl, rfl, rfl, rfl, trivial⟩ ?_
      exact key39 (Int.toNat (z2.toInt) + 1) σ7 ((Int32.ofInt 0)) ((Int32.ofInt 0)) h8 h12 ((h9 _ _ (inW (by decide +kernel : TG 159 = 35) (by decide +kernel))).trans h1) h27 (by omega) (by omega) (by omega) (by omega) (by omega)
    · refine En_Ps 1 (pc' := 16) (lv' := [(0, .ref 159), (1, .retAddr 7)]) (st' := [.ref 159]) rfl ?_
      refine En_getI (j := 8) (l := 0) (u := 1600) rfl rfl rfl (by decide +kernel : TG 159 = 35) (by decide +kernel) h8 (by decide +kernel) (fun z47 h46 h48 h49 => ?_)
      refine En_Ps 1 (pc' := 20) (lv' := [(0, .ref 159), (1, .retAddr 7)]) (st' := [.ref 159, .int z47]) rfl ?_
      refine En_getI (j := 9) (l := 0) (u := 1600) rfl rfl rfl (by decide +kernel : TG 159 = 35) (by decide +kernel) h8 (by decide +kernel) (fun z51 h50 h52 h53 => ?_)
      refine En_Ps 1 (pc' := 24) (lv' := [(0, .ref 159), (1, .retAddr 7)]) (st' := [.int ((z47 - z51))]) rfl ?_
      refine En_top (subI rfl rfl (by omega) (by omega)) (fun z54 h55 => ?_)
      refine En_Ps 1 (pc' := 25) (lv' := [(0, .ref 159), (1, .retAddr 7)]) (st' := [.retAddr 7, .int z54]) rfl ?_
      refine En_slen 3 4 rfl rfl (by decide) rfl ?_
      refine En_icNe _ rfl (by decide : (Int32.ofNat 4).toInt = 4) rfl (fun h56 => ?_) (fun h56 => ?_)
      · refine En_Ps 4 (pc' := 39) (lv' := [(3, .int ((Int32.ofInt 0))), (2, .int ((Int32.ofInt 0))), (0, .ref 159), (1, .retAddr 7)]) (st' := []) rfl ?_
        have key39 : ∀ (n39 : Nat) (σ59 : SG) (y57 : Int32) (y58 : Int32), WT σ59 → Fr [] σ0 σ59 → (σ59 159)[12]? = some (.int z2) → (σ59 159)[10]? = some (.int z28) → (σ59 159)[8]? = some (.int z47) → (σ59 159)[9]? = some (.int z51) → 0 ≤ y57.toInt → y57.toInt ≤ 0 → 0 ≤ y58.toInt → y58.toInt ≤ 0 → z2.toInt - y57.toInt < (n39 : Int) → En 4 90 none mr_251 (P_251s3 σ0) 39 [(0, .ref 159), (1, .retAddr 7), (2, .int y57), (3, .int y58)] [] σ59 := by
          intro n39
          induction n39 with
          | zero =>
            intro σ59 y57 y58 h60 h61 h62 h63 h64 h65 h66 h67 h68 h69 h70
            exfalso; omega
          | succ n39 ih39 =>
            intro σ59 y57 y58 h60 h61 h62 h63 h64 h65 h66 h67 h68 h69 h70
            refine En_Ps 2 (pc' := 41) (lv' := [(0, .ref 159), (1, .retAddr 7), (2, .int y57), (3, .int y58)]) (st' := [.retAddr 7, .int y58]) rfl ?_
            refine En_slen 3 4 rfl rfl (by decide) rfl ?_
            refine En_icGe _ rfl (by decide : (Int32.ofNat 4).toInt = 4) rfl (fun hx => by exfalso; omega) (fun h71 => ?_)
            refine En_Ps 1 (pc' := 48) (lv' := [(0, .ref 159), (1, .retAddr 7), (2, .int y57), (3, .int y58)]) (st' := [.int y57]) rfl ?_
            refine En_iEq _ rfl rfl (fun h72 => ?_) (fun hx => by exfalso; omega)
            refine En_Ps 1 (pc' := 83) (lv' := [(0, .ref 159), (1, .retAddr 7), (2, .int y57), (3, .int y58)]) (st' := [.int y57]) rfl ?_
            exact En_ret (v := some (.int y57)) rfl rfl (retZ rfl rfl (by omega) (by omega)) ⟨h60, h61, y57, rfl, (by omega)⟩
        have := (by decide : (Int32.ofInt 0).toInt = 0)
        have := (by decide : (Int32.ofInt 0).toInt = 0)
        refine En_lv (lv := [(0, .ref 159), (1, .retAddr 7), (2, .int ((Int32.ofInt 0))), (3, .int ((Int32.ofInt 0)))]) ⟨rfl, rfl, rfl, rfl, trivial⟩ ?_
        exact key39 (Int.toNat (z2.toInt) + 1) σ7 ((Int32.ofInt 0)) ((Int32.ofInt 0)) h8 h12 ((h9 _ _ (inW (by decide +kernel : TG 159 = 35) (by decide +kernel))).trans h1) h27 h46 h50 (by omega) (by omega) (by omega) (by omega) (by omega)
      · refine En_Ps 5 (pc' := 39) (lv' := [(3, .int ((Int32.ofInt 0))), (2, .int ((Int32.ofInt 1))), (0, .ref 159), (1, .retAddr 7)]) (st' := []) rfl ?_
        have key39 : ∀ (n39 : Nat) (σ75 : SG) (y73 : Int32) (y74 : Int32), WT σ75 → Fr [] σ0 σ75 → (σ75 159)[12]? = some (.int z2) → (σ75 159)[10]? = some (.int z28) → (σ75 159)[8]? = some (.int z47) → (σ75 159)[9]? = some (.int z51) → 0 ≤ y73.toInt → y73.toInt ≤ 1 → 0 ≤ y74.toInt → y74.toInt ≤ 4 → z47.toInt - y74.toInt < (n39 : Int) → En 4 90 none mr_251 (P_251s3 σ0) 39 [(0, .ref 159), (1, .retAddr 7), (2, .int y73), (3, .int y74)] [] σ75 := by
          intro n39
          induction n39 with
          | zero =>
            intro σ75 y73 y74 h76 h77 h78 h79 h80 h81 h82 h83 h84 h85 h86
            exfalso; omega
          | succ n39 ih39 =>
            intro σ75 y73 y74 h76 h77 h78 h79 h80 h81 h82 h83 h84 h85 h86
            refine En_Ps 2 (pc' := 41) (lv' := [(0, .ref 159), (1, .retAddr 7), (2, .int y73), (3, .int y74)]) (st' := [.retAddr 7, .int y74]) rfl ?_
            refine En_slen 3 4 rfl rfl (by decide) rfl ?_
            refine En_icGe _ rfl (by decide : (Int32.ofNat 4).toInt = 4) rfl (fun h87 => ?_) (fun h87 => ?_)
            · refine En_Ps 1 (pc' := 83) (lv' := [(0, .ref 159), (1, .retAddr 7), (2, .int y73), (3, .int y74)]) (st' := [.int y73]) rfl ?_
              exact En_ret (v := some (.int y73)) rfl rfl (retZ rfl rfl (by omega) (by omega)) ⟨h76, h77, y73, rfl, (by omega)⟩
            · refine En_Ps 1 (pc' := 48) (lv' := [(0, .ref 159), (1, .retAddr 7), (2, .int y73), (3, .int y74)]) (st' := [.int y73]) rfl ?_
              refine En_iEq _ rfl rfl (fun h88 => ?_) (fun h88 => ?_)
              · refine En_Ps 1 (pc' := 83) (lv' := [(0, .ref 159), (1, .retAddr 7), (2, .int y73), (3, .int y74)]) (st' := [.int y73]) rfl ?_
                exact En_ret (v := some (.int y73)) rfl rfl (retZ rfl rfl (by omega) (by omega)) ⟨h76, h77, y73, rfl, (by omega)⟩
              · refine En_Ps 1 (pc' := 52) (lv' := [(0, .ref 159), (1, .retAddr 7), (2, .int y73), (3, .int y74)]) (st' := [.ref 159]) rfl ?_
                refine En_getU (j := 4) (u := 163) (g' := 39) (q := 0) rfl rfl rfl (by decide +kernel : TG 159 = 35) (by decide +kernel) h76 (by decide +kernel) (by decide +kernel) (fun h89 => ?_)
                refine En_Ps 1 (pc' := 56) (lv' := [(0, .ref 159), (1, .retAddr 7), (2, .int y73), (3, .int y74)]) (st' := [.ref 159, .ref 163]) rfl ?_
                refine En_getK (j := 9) h81 rfl rfl rfl (by decide +kernel : TG 159 = 35) (by decide +kernel) ?_
                refine En_Ps 2 (pc' := 61) (lv' := [(0, .ref 159), (1, .retAddr 7), (2, .int y73), (3, .int y74)]) (st' := [.int ((z51 + y74)), .ref 163]) rfl ?_
                refine En_top (addI rfl rfl (by omega) (by omega)) (fun z91 h92 => ?_)
                refine En_bald (l := (-128)) (u := 127) rfl rfl (by decide +kernel : TG 163 = 39) (by decide +kernel) h76 (by omega) (lnI (by decide +kernel : LN _ = 1600) (by omega)) (FTsgl (by decide +kernel)) (fun z94 h93 h95 h96 => ?_)
                refine En_Ps 2 (pc' := 64) (lv' := [(0, .ref 159), (1, .retAddr 7), (2, .int y73), (3, .int y74)]) (st' := [.int y74, .retAddr 7, .int z94]) rfl ?_
                refine En_schar 3 4 rfl rfl rfl (by decide) (by omega) (by omega) rfl (fun z97 h98 h99 => ?_)
                refine En_icNe _ rfl rfl rfl (fun h100 => ?_) (fun h100 => ?_)
                · refine En_Ps 3 (pc' := 79) (lv' := [(3, .int ((y74 + Int32.ofInt 1))), (2, .int ((Int32.ofInt 0))), (0, .ref 159), (1, .retAddr 7)]) (st' := []) rfl ?_
                  refine En_lv1 (addI rfl (by decide : (Int32.ofInt 1).toInt = 1) (by omega) (by omega)) (fun z101 h102 => ?_)
                  refine En_Ps 1 (pc' := 39) (lv' := [(3, .int z101), (2, .int ((Int32.ofInt 0))), (0, .ref 159), (1, .retAddr 7)]) (st' := []) rfl ?_
                  have := (by decide : (Int32.ofInt 0).toInt = 0)
                  refine En_lv (lv := [(0, .ref 159), (1, .retAddr 7), (2, .int ((Int32.ofInt 0))), (3, .int z101)]) ⟨rfl, rfl, rfl, rfl, trivial⟩ ?_
                  exact ih39 σ75 ((Int32.ofInt 0)) z101 h76 h77 h78 h79 h80 h81 (by omega) (by omega) (by omega) (by omega) (by omega)
                · refine En_Ps 4 (pc' := 79) (lv' := [(3, .int ((y74 + Int32.ofInt 1))), (2, .int ((Int32.ofInt 1))), (0, .ref 159), (1, .retAddr 7)]) (st' := []) rfl ?_
                  refine En_lv1 (addI rfl (by decide : (Int32.ofInt 1).toInt = 1) (by omega) (by omega)) (fun z103 h104 => ?_)
                  refine En_Ps 1 (pc' := 39) (lv' := [(3, .int z103), (2, .int ((Int32.ofInt 1))), (0, .ref 159), (1, .retAddr 7)]) (st' := []) rfl ?_
                  have := (by decide : (Int32.ofInt 1).toInt = 1)
                  refine En_lv (lv := [(0, .ref 159), (1, .retAddr 7), (2, .int ((Int32.ofInt 1))), (3, .int z103)]) ⟨rfl, rfl, rfl, rfl, trivial⟩ ?_
                  exact ih39 σ75 ((Int32.ofInt 1)) z103 h76 h77 h78 h79 h80 h81 (by omega) (by omega) (by omega) (by omega) (by omega)
        have := (by decide : (Int32.ofInt 1).toInt = 1)
        have := (by decide : (Int32.ofInt 0).toInt = 0)
        refine En_lv (lv := [(0, .ref 159), (1, .retAddr 7), (2, .int ((Int32.ofInt 1))), (3, .int ((Int32.ofInt 0)))]) ⟨rfl, rfl, rfl, rfl, trivial⟩ ?_
        exact key39 (Int.toNat (z47.toInt) + 1) σ7 ((Int32.ofInt 1)) ((Int32.ofInt 0)) h8 h12 ((h9 _ _ (inW (by decide +kernel : TG 159 = 35) (by decide +kernel))).trans h1) h27 h46 h50 (by omega) (by omega) (by omega) (by omega) (by omega)
/-- DoorSchoolModel.is(Ljava/lang/String;)Z -/
abbrev P_251s4 (σ0 : SG) : PO := fun v σ => WT σ ∧ Fr [] σ0 σ ∧ ∃ ret : Int32, v = some (.int ret) ∧ -ret.toInt ≤ 0 ∧ ret.toInt - 1 ≤ 0
set_option maxRecDepth 10000 in
set_option maxHeartbeats 4000000 in
theorem c_251s4 (σ0 : SG) (hσ0 : WT σ0) : En 4 90 none mr_251 (P_251s4 σ0) 0 [(0, .ref 159), (1, .retAddr 9)] [] σ0 := by
  have hF0 : Fr [] σ0 σ0 := Fr_rfl
  refine En_Ps 1 (pc' := 1) (lv' := [(0, .ref 159), (1, .retAddr 9)]) (st' := [.ref 159]) rfl ?_
  obtain ⟨z2, h1, h3, h4⟩ := WT_peekI hσ0 (by decide +kernel : TG 159 = 35) (by decide +kernel : FT 35 12 = (0, 0, 3)) (by decide +kernel)
  refine En_callV rfl rfl rfl rfl rfl rfl rfl rfl (by decide +kernel : TG 159 = 35) (by decide +kernel) rfl (c_237 σ0 hσ0 z2 h1) (by decide) (by decide) (fun v6 σ7 h5 => ?_)
  obtain ⟨h8, h9, z11, rfl, h10⟩ := h5
  have h12 := Fr_trans hF0 h9 (by decide +kernel)
  refine En_iEq _ rfl rfl (fun h13 => ?_) (fun h13 => ?_)
  · refine En_Ps 4 (pc' := 39) (lv' := [(3, .int ((Int32.ofInt 0))), (2, .int ((Int32.ofInt 0))), (0, .ref 159), (1, .retAddr 9)]) (st' := []) rfl ?_
    have key39 : ∀ (n39 : Nat) (σ16 : SG) (y14 : Int32) (y15 : Int32), WT σ16 → Fr [] σ0 σ16 → (σ16 159)[12]? = some (.int z2) → 0 ≤ y14.toInt → y14.toInt ≤ 0 → 0 ≤ y15.toInt → y15.toInt ≤ 0 → z2.toInt - y14.toInt < (n39 : Int) → En 4 90 none mr_251 (P_251s4 σ0) 39 [(0, .ref 159), (1, .retAddr 9), (2, .int y14), (3, .int y15)] [] σ16 := by
      intro n39
      induction n39 with
      | zero =>
        intro σ16 y14 y15 h17 h18 h19 h20 h21 h22 h23 h24
        exfalso; omega
      | succ n39 ih39 =>
        intro σ16 y14 y15 h17 h18 h19 h20 h21 h22 h23 h24
        refine En_Ps 2 (pc' := 41) (lv' := [(0, .ref 159), (1, .retAddr 9), (2, .int y14), (3, .int y15)]) (st' := [.retAddr 9, .int y15]) rfl ?_
        refine En_slen 4 5 rfl rfl (by decide) rfl ?_
        refine En_icGe _ rfl (by decide : (Int32.ofNat 5).toInt = 5) rfl (fun hx => by exfalso; omega) (fun h25 => ?_)
        refine En_Ps 1 (pc' := 48) (lv' := [(0, .ref 159), (1, .retAddr 9), (2, .int y14), (3, .int y15)]) (st' := [.int y14]) rfl ?_
        refine En_iEq _ rfl rfl (fun h26 => ?_) (fun hx => by exfalso; omega)
        refine En_Ps 1 (pc' := 83) (lv' := [(0, .ref 159), (1, .retAddr 9), (2, .int y14), (3, .int y15)]) (st' := [.int y14]) rfl ?_
        exact En_ret (v := some (.int y14)) rfl rfl (retZ rfl rfl (by omega) (by omega)) ⟨h17, h18, y14, rfl, (by omega)⟩
    have := (by decide : (Int32.ofInt 0).toInt = 0)
    have := (by decide : (Int32.ofInt 0).toInt = 0)
    refine En_lv (lv := [(0, .ref 159), (1, .retAddr 9), (2, .int ((Int32.ofInt 0))), (3, .int ((Int32.ofInt 0)))]) ⟨rfl, rfl, rfl, rfl, trivial⟩ ?_
    exact key39 (Int.toNat (z2.toInt) + 1) σ7 ((Int32.ofInt 0)) ((Int32.ofInt 0)) h8 h12 ((h9 _ _ (inW (by decide +kernel : TG 159 = 35) (by decide +kernel))).trans h1) (by omega) (by omega) (by omega) (by omega) (by omega)
  · refine En_Ps 1 (pc' := 8) (lv' := [(0, .ref 159), (1, .retAddr 9)]) (st' := [.ref 159]) rfl ?_
    refine En_getI (j := 10) (l := 0) (u := 4) rfl rfl rfl (by decide +kernel : TG 159 = 35) (by decide +kernel) h8 (by decide +kernel) (fun z28 h27 h29 h30 => ?_)
    refine En_Ps 1 (pc' := 12) (lv' := [(0, .ref 159), (1, .retAddr 9)]) (st' := [.int ((Int32.ofInt 1)), .int z28]) rfl ?_
    refine En_icNe _ rfl (by decide : (Int32.ofInt 1).toInt = 1) rfl (fun h31 => ?_) (fun h31 => ?_)
    · refine En_Ps 4 (pc' := 39) (lv' := [(3, .int ((Int32.ofInt 0))), (2, .int ((Int32.ofInt 0))), (0, .ref 159), (1, .retAddr 9)]) (st' := []) rfl ?_
      have key39 : ∀ (n39 : Nat) (σ34 : SG) (y32 : Int32) (y33 : Int32), WT σ34 → Fr [] σ0 σ34 → (σ34 159)[12]? = some (.int z2) → (σ34 159)[10]? = some (.int z28) → 0 ≤ y32.toInt → y32.toInt ≤ 0 → 0 ≤ y33.toInt → y33.toInt ≤ 0 → z2.toInt - y32.toInt < (n39 : Int) → En 4 90 none mr_251 (P_251s4 σ0) 39 [(0, .ref 159), (1, .retAddr 9), (2, .int y32), (3, .int y33)] [] σ34 := by
        intro n39
        induction n39 with
        | zero =>
          intro σ34 y32 y33 h35 h36 h37 h38 h39 h40 h41 h42 h43
          exfalso; omega
        | succ n39 ih39 =>
          intro σ34 y32 y33 h35 h36 h37 h38 h39 h40 h41 h42 h43
          refine En_Ps 2 (pc' := 41) (lv' := [(0, .ref 159), (1, .retAddr 9), (2, .int y32), (3, .int y33)]) (st' := [.retAddr 9, .int y33]) rfl ?_
          refine En_slen 4 5 rfl rfl (by decide) rfl ?_
          refine En_icGe _ rfl (by decide : (Int32.ofNat 5).toInt = 5) rfl (fun hx => by exfalso; omega) (fun h44 => ?_)
          refine En_Ps 1 (pc' := 48) (lv' := [(0, .ref 159), (1, .retAddr 9), (2, .int y32), (3, .int y33)]) (st' := [.int y32]) rfl ?_
          refine En_iEq _ rfl rfl (fun h45 => ?_) (fun hx => by exfalso; omega)
          refine En_Ps 1 (pc' := 83) (lv' := [(0, .ref 159), (1, .retAddr 9), (2, .int y32), (3, .int y33)]) (st' := [.int y32]) rfl ?_
          exact En_ret (v := some (.int y32)) rfl rfl (retZ rfl rfl (by omega) (by omega)) ⟨h35, h36, y32, rfl, (by omega)⟩
      have := (by decide : (Int32.ofInt 0).toInt = 0)
      have := (by decide : (Int32.ofInt 0).toInt = 0)
      refine En_lv (lv := [(0, .ref 159), (1, .retAddr 9), (2, .int ((Int32.ofInt 0))), (3, .int ((Int32.ofInt 0)))]) ⟨rfl, rfl, rfl, rfl, trivial⟩ ?_
      exact key39 (Int.toNat (z2.toInt) + 1) σ7 ((Int32.ofInt 0)) ((Int32.ofInt 0)) h8 h12 ((h9 _ _ (inW (by decide +kernel : TG 159 = 35) (by decide +kernel))).trans h1) h27 (by omega) (by omega) (by omega) (by omega) (by omega)
    · refine En_Ps 1 (pc' := 16) (lv' := [(0, .ref 159), (1, .retAddr 9)]) (st' := [.ref 159]) rfl ?_
      refine En_getI (j := 8) (l := 0) (u := 1600) rfl rfl rfl (by decide +kernel : TG 159 = 35) (by decide +kernel) h8 (by decide +kernel) (fun z47 h46 h48 h49 => ?_)
      refine En_Ps 1 (pc' := 20) (lv' := [(0, .ref 159), (1, .retAddr 9)]) (st' := [.ref 159, .int z47]) rfl ?_
      refine En_getI (j := 9) (l := 0) (u := 1600) rfl rfl rfl (by decide +kernel : TG 159 = 35) (by decide +kernel) h8 (by decide +kernel) (fun z51 h50 h52 h53 => ?_)
      refine En_Ps 1 (pc' := 24) (lv' := [(0, .ref 159), (1, .retAddr 9)]) (st' := [.int ((z47 - z51))]) rfl ?_
      refine En_top (subI rfl rfl (by omega) (by omega)) (fun z54 h55 => ?_)
      refine En_Ps 1 (pc' := 25) (lv' := [(0, .ref 159), (1, .retAddr 9)]) (st' := [.retAddr 9, .int z54]) rfl ?_
      refine En_slen 4 5 rfl rfl (by decide) rfl ?_
      refine En_icNe _ rfl (by decide : (Int32.ofNat 5).toInt = 5) rfl (fun h56 => ?_) (fun h56 => ?_)
      · refine En_Ps 4 (pc' := 39) (lv' := [(3, .int ((Int32.ofInt 0))), (2, .int ((Int32.ofInt 0))), (0, .ref 159), (1, .retAddr 9)]) (st' := []) rfl ?_
        have key39 : ∀ (n39 : Nat) (σ59 : SG) (y57 : Int32) (y58 : Int32), WT σ59 → Fr [] σ0 σ59 → (σ59 159)[12]? = some (.int z2) → (σ59 159)[10]? = some (.int z28) → (σ59 159)[8]? = some (.int z47) → (σ59 159)[9]? = some (.int z51) → 0 ≤ y57.toInt → y57.toInt ≤ 0 → 0 ≤ y58.toInt → y58.toInt ≤ 0 → z2.toInt - y57.toInt < (n39 : Int) → En 4 90 none mr_251 (P_251s4 σ0) 39 [(0, .ref 159), (1, .retAddr 9), (2, .int y57), (3, .int y58)] [] σ59 := by
          intro n39
          induction n39 with
          | zero =>
            intro σ59 y57 y58 h60 h61 h62 h63 h64 h65 h66 h67 h68 h69 h70
            exfalso; omega
          | succ n39 ih39 =>
            intro σ59 y57 y58 h60 h61 h62 h63 h64 h65 h66 h67 h68 h69 h70
            refine En_Ps 2 (pc' := 41) (lv' := [(0, .ref 159), (1, .retAddr 9), (2, .int y57), (3, .int y58)]) (st' := [.retAddr 9, .int y58]) rfl ?_
            refine En_slen 4 5 rfl rfl (by decide) rfl ?_
            refine En_icGe _ rfl (by decide : (Int32.ofNat 5).toInt = 5) rfl (fun hx => by exfalso; omega) (fun h71 => ?_)
            refine En_Ps 1 (pc' := 48) (lv' := [(0, .ref 159), (1, .retAddr 9), (2, .int y57), (3, .int y58)]) (st' := [.int y57]) rfl ?_
            refine En_iEq _ rfl rfl (fun h72 => ?_) (fun hx => by exfalso; omega)
            refine En_Ps 1 (pc' := 83) (lv' := [(0, .ref 159), (1, .retAddr 9), (2, .int y57), (3, .int y58)]) (st' := [.int y57]) rfl ?_
            exact En_ret (v := some (.int y57)) rfl rfl (retZ rfl rfl (by omega) (by omega)) ⟨h60, h61, y57, rfl, (by omega)⟩
        have := (by decide : (Int32.ofInt 0).toInt = 0)
        have := (by decide : (Int32.ofInt 0).toInt = 0)
        refine En_lv (lv := [(0, .ref 159), (1, .retAddr 9), (2, .int ((Int32.ofInt 0))), (3, .int ((Int32.ofInt 0)))]) ⟨rfl, rfl, rfl, rfl, trivial⟩ ?_
        exact key39 (Int.toNat (z2.toInt) + 1) σ7 ((Int32.ofInt 0)) ((Int32.ofInt 0)) h8 h12 ((h9 _ _ (inW (by decide +kernel : TG 159 = 35) (by decide +kernel))).trans h1) h27 h46 h50 (by omega) (by omega) (by omega) (by omega) (by omega)
      · refine En_Ps 5 (pc' := 39) (lv' := [(3, .int ((Int32.ofInt 0))), (2, .int ((Int32.ofInt 1))), (0, .ref 159), (1, .retAddr 9)]) (st' := []) rfl ?_
        have key39 : ∀ (n39 : Nat) (σ75 : SG) (y73 : Int32) (y74 : Int32), WT σ75 → Fr [] σ0 σ75 → (σ75 159)[12]? = some (.int z2) → (σ75 159)[10]? = some (.int z28) → (σ75 159)[8]? = some (.int z47) → (σ75 159)[9]? = some (.int z51) → 0 ≤ y73.toInt → y73.toInt ≤ 1 → 0 ≤ y74.toInt → y74.toInt ≤ 5 → z47.toInt - y74.toInt < (n39 : Int) → En 4 90 none mr_251 (P_251s4 σ0) 39 [(0, .ref 159), (1, .retAddr 9), (2, .int y73), (3, .int y74)] [] σ75 := by
          intro n39
          induction n39 with
          | zero =>
            intro σ75 y73 y74 h76 h77 h78 h79 h80 h81 h82 h83 h84 h85 h86
            exfalso; omega
          | succ n39 ih39 =>
            intro σ75 y73 y74 h76 h77 h78 h79 h80 h81 h82 h83 h84 h85 h86
            refine En_Ps 2 (pc' := 41) (lv' := [(0, .ref 159), (1, .retAddr 9), (2, .int y73), (3, .int y74)]) (st' := [.retAddr 9, .int y74]) rfl ?_
            refine En_slen 4 5 rfl rfl (by decide) rfl ?_
            refine En_icGe _ rfl (by decide : (Int32.ofNat 5).toInt = 5) rfl (fun h87 => ?_) (fun h87 => ?_)
            · refine En_Ps 1 (pc' := 83) (lv' := [(0, .ref 159), (1, .retAddr 9), (2, .int y73), (3, .int y74)]) (st' := [.int y73]) rfl ?_
              exact En_ret (v := some (.int y73)) rfl rfl (retZ rfl rfl (by omega) (by omega)) ⟨h76, h77, y73, rfl, (by omega)⟩
            · refine En_Ps 1 (pc' := 48) (lv' := [(0, .ref 159), (1, .retAddr 9), (2, .int y73), (3, .int y74)]) (st' := [.int y73]) rfl ?_
              refine En_iEq _ rfl rfl (fun h88 => ?_) (fun h88 => ?_)
              · refine En_Ps 1 (pc' := 83) (lv' := [(0, .ref 159), (1, .retAddr 9), (2, .int y73), (3, .int y74)]) (st' := [.int y73]) rfl ?_
                exact En_ret (v := some (.int y73)) rfl rfl (retZ rfl rfl (by omega) (by omega)) ⟨h76, h77, y73, rfl, (by omega)⟩
              · refine En_Ps 1 (pc' := 52) (lv' := [(0, .ref 159), (1, .retAddr 9), (2, .int y73), (3, .int y74)]) (st' := [.ref 159]) rfl ?_
                refine En_getU (j := 4) (u := 163) (g' := 39) (q := 0) rfl rfl rfl (by decide +kernel : TG 159 = 35) (by decide +kernel) h76 (by decide +kernel) (by decide +kernel) (fun h89 => ?_)
                refine En_Ps 1 (pc' := 56) (lv' := [(0, .ref 159), (1, .retAddr 9), (2, .int y73), (3, .int y74)]) (st' := [.ref 159, .ref 163]) rfl ?_
                refine En_getK (j := 9) h81 rfl rfl rfl (by decide +kernel : TG 159 = 35) (by decide +kernel) ?_
                refine En_Ps 2 (pc' := 61) (lv' := [(0, .ref 159), (1, .retAddr 9), (2, .int y73), (3, .int y74)]) (st' := [.int ((z51 + y74)), .ref 163]) rfl ?_
                refine En_top (addI rfl rfl (by omega) (by omega)) (fun z91 h92 => ?_)
                refine En_bald (l := (-128)) (u := 127) rfl rfl (by decide +kernel : TG 163 = 39) (by decide +kernel) h76 (by omega) (lnI (by decide +kernel : LN _ = 1600) (by omega)) (FTsgl (by decide +kernel)) (fun z94 h93 h95 h96 => ?_)
                refine En_Ps 2 (pc' := 64) (lv' := [(0, .ref 159), (1, .retAddr 9), (2, .int y73), (3, .int y74)]) (st' := [.int y74, .retAddr 9, .int z94]) rfl ?_
                refine En_schar 4 5 rfl rfl rfl (by decide) (by omega) (by omega) rfl (fun z97 h98 h99 => ?_)
                refine En_icNe _ rfl rfl rfl (fun h100 => ?_) (fun h100 => ?_)
                · refine En_Ps 3 (pc' := 79) (lv' := [(3, .int ((y74 + Int32.ofInt 1))), (2, .int ((Int32.ofInt 0))), (0, .ref 159), (1, .retAddr 9)]) (st' := []) rfl ?_
                  refine En_lv1 (addI rfl (by decide : (Int32.ofInt 1).toInt = 1) (by omega) (by omega)) (fun z101 h102 => ?_)
                  refine En_Ps 1 (pc' := 39) (lv' := [(3, .int z101), (2, .int ((Int32.ofInt 0))), (0, .ref 159), (1, .retAddr 9)]) (st' := []) rfl ?_
                  have := (by decide : (Int32.ofInt 0).toInt = 0)
                  refine En_lv (lv := [(0, .ref 159), (1, .retAddr 9), (2, .int ((Int32.ofInt 0))), (3, .int z101)]) ⟨rfl, rfl, rfl, rfl, trivial⟩ ?_
                  exact ih39 σ75 ((Int32.ofInt 0)) z101 h76 h77 h78 h79 h80 h81 (by omega) (by omega) (by omega) (by omega) (by omega)
                · refine En_Ps 4 (pc' := 79) (lv' := [(3, .int ((y74 + Int32.ofInt 1))), (2, .int ((Int32.ofInt 1))), (0, .ref 159), (1, .retAddr 9)]) (st' := []) rfl ?_
                  refine En_lv1 (addI rfl (by decide : (Int32.ofInt 1).toInt = 1) (by omega) (by omega)) (fun z103 h104 => ?_)
                  refine En_Ps 1 (pc' := 39) (lv' := [(3, .int z103), (2, .int ((Int32.ofInt 1))), (0, .ref 159), (1, .retAddr 9)]) (st' := []) rfl ?_
                  have := (by decide : (Int32.ofInt 1).toInt = 1)
                  refine En_lv (lv := [(0, .ref 159), (1, .retAddr 9), (2, .int ((Int32.ofInt 1))), (3, .int z103)]) ⟨rfl, rfl, rfl, rfl, trivial⟩ ?_
                  exact ih39 σ75 ((Int32.ofInt 1)) z103 h76 h77 h78 h79 h80 h81 (by omega) (by omega) (by omega) (by omega) (by omega)
        have := (by decide : (Int32.ofInt 1).toInt = 1)
        have := (by decide : (Int32.ofInt 0).toInt = 0)
        refine En_lv (lv := [(0, .ref 159), (1, .retAddr 9), (2, .int ((Int32.ofInt 1))), (3, .int ((Int32.ofInt 0)))]) ⟨rfl, rfl, rfl, rfl, trivial⟩ ?_
        exact key39 (Int.toNat (z47.toInt) + 1) σ7 ((Int32.ofInt 1)) ((Int32.ofInt 0)) h8 h12 ((h9 _ _ (inW (by decide +kernel : TG 159 = 35) (by decide +kernel))).trans h1) h27 h46 h50 (by omega) (by omega) (by omega) (by omega) (by omega)
/-- DoorSchoolModel.is(Ljava/lang/String;)Z -/
abbrev P_251s5 (σ0 : SG) : PO := fun v σ => WT σ ∧ Fr [] σ0 σ ∧ ∃ ret : Int32, v = some (.int ret) ∧ -ret.toInt ≤ 0 ∧ ret.toInt - 1 ≤ 0
set_option maxRecDepth 10000 in
set_option maxHeartbeats 4000000 in
theorem c_251s5 (σ0 : SG) (hσ0 : WT σ0) : En 4 90 none mr_251 (P_251s5 σ0) 0 [(0, .ref 159), (1, .retAddr 11)] [] σ0 := by
  have hF0 : Fr [] σ0 σ0 := Fr_rfl
  refine En_Ps 1 (pc' := 1) (lv' := [(0, .ref 159), (1, .retAddr 11)]) (st' := [.ref 159]) rfl ?_
  obtain ⟨z2, h1, h3, h4⟩ := WT_peekI hσ0 (by decide +kernel : TG 159 = 35) (by decide +kernel : FT 35 12 = (0, 0, 3)) (by decide +kernel)
  refine En_callV rfl rfl rfl rfl rfl rfl rfl rfl (by decide +kernel : TG 159 = 35) (by decide +kernel) rfl (c_237 σ0 hσ0 z2 h1) (by decide) (by decide) (fun v6 σ7 h5 => ?_)
  obtain ⟨h8, h9, z11, rfl, h10⟩ := h5
  have h12 := Fr_trans hF0 h9 (by decide +kernel)
  refine En_iEq _ rfl rfl (fun h13 => ?_) (fun h13 => ?_)
  · refine En_Ps 4 (pc' := 39) (lv' := [(3, .int ((Int32.ofInt 0))), (2, .int ((Int32.ofInt 0))), (0, .ref 159), (1, .retAddr 11)]) (st' := []) rfl ?_
    have key39 : ∀ (n39 : Nat) (σ16 : SG) (y14 : Int32) (y15 : Int32), WT σ16 → Fr [] σ0 σ16 → (σ16 159)[12]? = some (.int z2) → 0 ≤ y14.toInt → y14.toInt ≤ 0 → 0 ≤ y15.toInt → y15.toInt ≤ 0 → z2.toInt - y14.toInt < (n39 : Int) → En 4 90 none mr_251 (P_251s5 σ0) 39 [(0, .ref 159), (1, .retAddr 11), (2, .int y14), (3, .int y15)] [] σ16 := by
      intro n39
      induction n39 with
      | zero =>
        intro σ16 y14 y15 h17 h18 h19 h20 h21 h22 h23 h24
        exfalso; omega
      | succ n39 ih39 =>
        intro σ16 y14 y15 h17 h18 h19 h20 h21 h22 h23 h24
        refine En_Ps 2 (pc' := 41) (lv' := [(0, .ref 159), (1, .retAddr 11), (2, .int y14), (3, .int y15)]) (st' := [.retAddr 11, .int y15]) rfl ?_
        refine En_slen 5 5 rfl rfl (by decide) rfl ?_
        refine En_icGe _ rfl (by decide : (Int32.ofNat 5).toInt = 5) rfl (fun hx => by exfalso; omega) (fun h25 => ?_)
        refine En_Ps 1 (pc' := 48) (lv' := [(0, .ref 159), (1, .retAddr 11), (2, .int y14), (3, .int y15)]) (st' := [.int y14]) rfl ?_
        refine En_iEq _ rfl rfl (fun h26 => ?_) (fun hx => by exfalso; omega)
        refine En_Ps 1 (pc' := 83) (lv' := [(0, .ref 159), (1, .retAddr 11), (2, .int y14), (3, .int y15)]) (st' := [.int y14]) rfl ?_
        exact En_ret (v := some (.int y14)) rfl rfl (retZ rfl rfl (by omega) (by omega)) ⟨h17, h18, y14, rfl, (by omega)⟩
    have := (by decide : (Int32.ofInt 0).toInt = 0)
    have := (by decide : (Int32.ofInt 0).toInt = 0)
    refine En_lv (lv := [(0, .ref 159), (1, .retAddr 11), (2, .int ((Int32.ofInt 0))), (3, .int ((Int32.ofInt 0)))]) ⟨rfl, rfl, rfl, rfl, trivial⟩ ?_
    exact key39 (Int.toNat (z2.toInt) + 1) σ7 ((Int32.ofInt 0)) ((Int32.ofInt 0)) h8 h12 ((h9 _ _ (inW (by decide +kernel : TG 159 = 35) (by decide +kernel))).trans h1) (by omega) (by omega) (by omega) (by omega) (by omega)
  · refine En_Ps 1 (pc' := 8) (lv' := [(0, .ref 159), (1, .retAddr 11)]) (st' := [.ref 159]) rfl ?_
    refine En_getI (j := 10) (l := 0) (u := 4) rfl rfl rfl (by decide +kernel : TG 159 = 35) (by decide +kernel) h8 (by decide +kernel) (fun z28 h27 h29 h30 => ?_)
    refine En_Ps 1 (pc' := 12) (lv' := [(0, .ref 159), (1, .retAddr 11)]) (st' := [.int ((Int32.ofInt 1)), .int z28]) rfl ?_
    refine En_icNe _ rfl (by decide : (Int32.ofInt 1).toInt = 1) rfl (fun h31 => ?_) (fun h31 => ?_)
    · refine En_Ps 4 (pc' := 39) (lv' := [(3, .int ((Int32.ofInt 0))), (2, .int ((Int32.ofInt 0))), (0, .ref 159), (1, .retAddr 11)]) (st' := []) rfl ?_
      have key39 : ∀ (n39 : Nat) (σ34 : SG) (y32 : Int32) (y33 : Int32), WT σ34 → Fr [] σ0 σ34 → (σ34 159)[12]? = some (.int z2) → (σ34 159)[10]? = some (.int z28) → 0 ≤ y32.toInt → y32.toInt ≤ 0 → 0 ≤ y33.toInt → y33.toInt ≤ 0 → z2.toInt - y32.toInt < (n39 : Int) → En 4 90 none mr_251 (P_251s5 σ0) 39 [(0, .ref 159), (1, .retAddr 11), (2, .int y32), (3, .int y33)] [] σ34 := by
        intro n39
        induction n39 with
        | zero =>
          intro σ34 y32 y33 h35 h36 h37 h38 h39 h40 h41 h42 h43
          exfalso; omega
        | succ n39 ih39 =>
          intro σ34 y32 y33 h35 h36 h37 h38 h39 h40 h41 h42 h43
          refine En_Ps 2 (pc' := 41) (lv' := [(0, .ref 159), (1, .retAddr 11), (2, .int y32), (3, .int y33)]) (st' := [.retAddr 11, .int y33]) rfl ?_
          refine En_slen 5 5 rfl rfl (by decide) rfl ?_
          refine En_icGe _ rfl (by decide : (Int32.ofNat 5).toInt = 5) rfl (fun hx => by exfalso; omega) (fun h44 => ?_)
          refine En_Ps 1 (pc' := 48) (lv' := [(0, .ref 159), (1, .retAddr 11), (2, .int y32), (3, .int y33)]) (st' := [.int y32]) rfl ?_
          refine En_iEq _ rfl rfl (fun h45 => ?_) (fun hx => by exfalso; omega)
          refine En_Ps 1 (pc' := 83) (lv' := [(0, .ref 159), (1, .retAddr 11), (2, .int y32), (3, .int y33)]) (st' := [.int y32]) rfl ?_
          exact En_ret (v := some (.int y32)) rfl rfl (retZ rfl rfl (by omega) (by omega)) ⟨h35, h36, y32, rfl, (by omega)⟩
      have := (by decide : (Int32.ofInt 0).toInt = 0)
      have := (by decide : (Int32.ofInt 0).toInt = 0)
      refine En_lv (lv := [(0, .ref 159), (1, .retAddr 11), (2, .int ((Int32.ofInt 0))), (3, .int ((Int32.ofInt 0)))]) ⟨rfl, rfl, rfl, rfl, trivial⟩ ?_
      exact key39 (Int.toNat (z2.toInt) + 1) σ7 ((Int32.ofInt 0)) ((Int32.ofInt 0)) h8 h12 ((h9 _ _ (inW (by decide +kernel : TG 159 = 35) (by decide +kernel))).trans h1) h27 (by omega) (by omega) (by omega) (by omega) (by omega)
    · refine En_Ps 1 (pc' := 16) (lv' := [(0, .ref 159), (1, .retAddr 11)]) (st' := [.ref 159]) rfl ?_
      refine En_getI (j := 8) (l := 0) (u := 1600) rfl rfl rfl (by decide +kernel : TG 159 = 35) (by decide +kernel) h8 (by decide +kernel) (fun z47 h46 h48 h49 => ?_)
      refine En_Ps 1 (pc' := 20) (lv' := [(0, .ref 159), (1, .retAddr 11)]) (st' := [.ref 159, .int z47]) rfl ?_
      refine En_getI (j := 9) (l := 0) (u := 1600) rfl rfl rfl (by decide +kernel : TG 159 = 35) (by decide +kernel) h8 (by decide +kernel) (fun z51 h50 h52 h53 => ?_)
      refine En_Ps 1 (pc' := 24) (lv' := [(0, .ref 159), (1, .retAddr 11)]) (st' := [.int ((z47 - z51))]) rfl ?_
      refine En_top (subI rfl rfl (by omega) (by omega)) (fun z54 h55 => ?_)
      refine En_Ps 1 (pc' := 25) (lv' := [(0, .ref 159), (1, .retAddr 11)]) (st' := [.retAddr 11, .int z54]) rfl ?_
      refine En_slen 5 5 rfl rfl (by decide) rfl ?_
      refine En_icNe _ rfl (by decide : (Int32.ofNat 5).toInt = 5) rfl (fun h56 => ?_) (fun h56 => ?_)
      · refine En_Ps 4 (pc' := 39) (lv' := [(3, .int ((Int32.ofInt 0))), (2, .int ((Int32.ofInt 0))), (0, .ref 159), (1, .retAddr 11)]) (st' := []) rfl ?_
        have key39 : ∀ (n39 : Nat) (σ59 : SG) (y57 : Int32) (y58 : Int32), WT σ59 → Fr [] σ0 σ59 → (σ59 159)[12]? = some (.int z2) → (σ59 159)[10]? = some (.int z28) → (σ59 159)[8]? = some (.int z47) → (σ59 159)[9]? = some (.int z51) → 0 ≤ y57.toInt → y57.toInt ≤ 0 → 0 ≤ y58.toInt → y58.toInt ≤ 0 → z2.toInt - y57.toInt < (n39 : Int) → En 4 90 none mr_251 (P_251s5 σ0) 39 [(0, .ref 159), (1, .retAddr 11), (2, .int y57), (3, .int y58)] [] σ59 := by
          intro n39
          induction n39 with
          | zero =>
            intro σ59 y57 y58 h60 h61 h62 h63 h64 h65 h66 h67 h68 h69 h70
            exfalso; omega
          | succ n39 ih39 =>
            intro σ59 y57 y58 h60 h61 h62 h63 h64 h65 h66 h67 h68 h69 h70
            refine En_Ps 2 (pc' := 41) (lv' := [(0, .ref 159), (1, .retAddr 11), (2, .int y57), (3, .int y58)]) (st' := [.retAddr 11, .int y58]) rfl ?_
            refine En_slen 5 5 rfl rfl (by decide) rfl ?_
            refine En_icGe _ rfl (by decide : (Int32.ofNat 5).toInt = 5) rfl (fun hx => by exfalso; omega) (fun h71 => ?_)
            refine En_Ps 1 (pc' := 48) (lv' := [(0, .ref 159), (1, .retAddr 11), (2, .int y57), (3, .int y58)]) (st' := [.int y57]) rfl ?_
            refine En_iEq _ rfl rfl (fun h72 => ?_) (fun hx => by exfalso; omega)
            refine En_Ps 1 (pc' := 83) (lv' := [(0, .ref 159), (1, .retAddr 11), (2, .int y57), (3, .int y58)]) (st' := [.int y57]) rfl ?_
            exact En_ret (v := some (.int y57)) rfl rfl (retZ rfl rfl (by omega) (by omega)) ⟨h60, h61, y57, rfl, (by omega)⟩
        have := (by decide : (Int32.ofInt 0).toInt = 0)
        have := (by decide : (Int32.ofInt 0).toInt = 0)
        refine En_lv (lv := [(0, .ref 159), (1, .retAddr 11), (2, .int ((Int32.ofInt 0))), (3, .int ((Int32.ofInt 0)))]) ⟨rfl, rfl, rfl, rfl, trivial⟩ ?_
        exact key39 (Int.toNat (z2.toInt) + 1) σ7 ((Int32.ofInt 0)) ((Int32.ofInt 0)) h8 h12 ((h9 _ _ (inW (by decide +kernel : TG 159 = 35) (by decide +kernel))).trans h1) h27 h46 h50 (by omega) (by omega) (by omega) (by omega) (by omega)
      · refine En_Ps 5 (pc' := 39) (lv' := [(3, .int ((Int32.ofInt 0))), (2, .int ((Int32.ofInt 1))), (0, .ref 159), (1, .retAddr 11)]) (st' := []) rfl ?_
        have key39 : ∀ (n39 : Nat) (σ75 : SG) (y73 : Int32) (y74 : Int32), WT σ75 → Fr [] σ0 σ75 → (σ75 159)[12]? = some (.int z2) → (σ75 159)[10]? = some (.int z28) → (σ75 159)[8]? = some (.int z47) → (σ75 159)[9]? = some (.int z51) → 0 ≤ y73.toInt → y73.toInt ≤ 1 → 0 ≤ y74.toInt → y74.toInt ≤ 5 → z47.toInt - y74.toInt < (n39 : Int) → En 4 90 none mr_251 (P_251s5 σ0) 39 [(0, .ref 159), (1, .retAddr 11), (2, .int y73), (3, .int y74)] [] σ75 := by
          intro n39
          induction n39 with
          | zero =>
            intro σ75 y73 y74 h76 h77 h78 h79 h80 h81 h82 h83 h84 h85 h86
            exfalso; omega
          | succ n39 ih39 =>
            intro σ75 y73 y74 h76 h77 h78 h79 h80 h81 h82 h83 h84 h85 h86
            refine En_Ps 2 (pc' := 41) (lv' := [(0, .ref 159), (1, .retAddr 11), (2, .int y73), (3, .int y74)]) (st' := [.retAddr 11, .int y74]) rfl ?_
            refine En_slen 5 5 rfl rfl (by decide) rfl ?_
            refine En_icGe _ rfl (by decide : (Int32.ofNat 5).toInt = 5) rfl (fun h87 => ?_) (fun h87 => ?_)
            · refine En_Ps 1 (pc' := 83) (lv' := [(0, .ref 159), (1, .retAddr 11), (2, .int y73), (3, .int y74)]) (st' := [.int y73]) rfl ?_
              exact En_ret (v := some (.int y73)) rfl rfl (retZ rfl rfl (by omega) (by omega)) ⟨h76, h77, y73, rfl, (by omega)⟩
            · refine En_Ps 1 (pc' := 48) (lv' := [(0, .ref 159), (1, .retAddr 11), (2, .int y73), (3, .int y74)]) (st' := [.int y73]) rfl ?_
              refine En_iEq _ rfl rfl (fun h88 => ?_) (fun h88 => ?_)
              · refine En_Ps 1 (pc' := 83) (lv' := [(0, .ref 159), (1, .retAddr 11), (2, .int y73), (3, .int y74)]) (st' := [.int y73]) rfl ?_
                exact En_ret (v := some (.int y73)) rfl rfl (retZ rfl rfl (by omega) (by omega)) ⟨h76, h77, y73, rfl, (by omega)⟩
              · refine En_Ps 1 (pc' := 52) (lv' := [(0, .ref 159), (1, .retAddr 11), (2, .int y73), (3, .int y74)]) (st' := [.ref 159]) rfl ?_
                refine En_getU (j := 4) (u := 163) (g' := 39) (q := 0) rfl rfl rfl (by decide +kernel : TG 159 = 35) (by decide +kernel) h76 (by decide +kernel) (by decide +kernel) (fun h89 => ?_)
                refine En_Ps 1 (pc' := 56) (lv' := [(0, .ref 159), (1, .retAddr 11), (2, .int y73), (3, .int y74)]) (st' := [.ref 159, .ref 163]) rfl ?_
                refine En_getK (j := 9) h81 rfl rfl rfl (by decide +kernel : TG 159 = 35) (by decide +kernel) ?_
                refine En_Ps 2 (pc' := 61) (lv' := [(0, .ref 159), (1, .retAddr 11), (2, .int y73), (3, .int y74)]) (st' := [.int ((z51 + y74)), .ref 163]) rfl ?_
                refine En_top (addI rfl rfl (by omega) (by omega)) (fun z91 h92 => ?_)
                refine En_bald (l := (-128)) (u := 127) rfl rfl (by decide +kernel : TG 163 = 39) (by decide +kernel) h76 (by omega) (lnI (by decide +kernel : LN _ = 1600) (by omega)) (FTsgl (by decide +kernel)) (fun z94 h93 h95 h96 => ?_)
                refine En_Ps 2 (pc' := 64) (lv' := [(0, .ref 159), (1, .retAddr 11), (2, .int y73), (3, .int y74)]) (st' := [.int y74, .retAddr 11, .int z94]) rfl ?_
                refine En_schar 5 5 rfl rfl rfl (by decide) (by omega) (by omega) rfl (fun z97 h98 h99 => ?_)
                refine En_icNe _ rfl rfl rfl (fun h100 => ?_) (fun h100 => ?_)
                · refine En_Ps 3 (pc' := 79) (lv' := [(3, .int ((y74 + Int32.ofInt 1))), (2, .int ((Int32.ofInt 0))), (0, .ref 159), (1, .retAddr 11)]) (st' := []) rfl ?_
                  refine En_lv1 (addI rfl (by decide : (Int32.ofInt 1).toInt = 1) (by omega) (by omega)) (fun z101 h102 => ?_)
                  refine En_Ps 1 (pc' := 39) (lv' := [(3, .int z101), (2, .int ((Int32.ofInt 0))), (0, .ref 159), (1, .retAddr 11)]) (st' := []) rfl ?_
                  have := (by decide : (Int32.ofInt 0).toInt = 0)
                  refine En_lv (lv := [(0, .ref 159), (1, .retAddr 11), (2, .int ((Int32.ofInt 0))), (3, .int z101)]) ⟨rfl, rfl, rfl, rfl, trivial⟩ ?_
                  exact ih39 σ75 ((Int32.ofInt 0)) z101 h76 h77 h78 h79 h80 h81 (by omega) (by omega) (by omega) (by omega) (by omega)
                · refine En_Ps 4 (pc' := 79) (lv' := [(3, .int ((y74 + Int32.ofInt 1))), (2, .int ((Int32.ofInt 1))), (0, .ref 159), (1, .retAddr 11)]) (st' := []) rfl ?_
                  refine En_lv1 (addI rfl (by decide : (Int32.ofInt 1).toInt = 1) (by omega) (by omega)) (fun z103 h104 => ?_)
                  refine En_Ps 1 (pc' := 39) (lv' := [(3, .int z103), (2, .int ((Int32.ofInt 1))), (0, .ref 159), (1, .retAddr 11)]) (st' := []) rfl ?_
                  have := (by decide : (Int32.ofInt 1).toInt = 1)
                  refine En_lv (lv := [(0, .ref 159), (1, .retAddr 11), (2, .int ((Int32.ofInt 1))), (3, .int z103)]) ⟨rfl, rfl, rfl, rfl, trivial⟩ ?_
                  exact ih39 σ75 ((Int32.ofInt 1)) z103 h76 h77 h78 h79 h80 h81 (by omega) (by omega) (by omega) (by omega) (by omega)
        have := (by decide : (Int32.ofInt 1).toInt = 1)
        have := (by decide : (Int32.ofInt 0).toInt = 0)
        refine En_lv (lv := [(0, .ref 159), (1, .retAddr 11), (2, .int ((Int32.ofInt 1))), (3, .int ((Int32.ofInt 0)))]) ⟨rfl, rfl, rfl, rfl, trivial⟩ ?_
        exact key39 (Int.toNat (z47.toInt) + 1) σ7 ((Int32.ofInt 1)) ((Int32.ofInt 0)) h8 h12 ((h9 _ _ (inW (by decide +kernel : TG 159 = 35) (by decide +kernel))).trans h1) h27 h46 h50 (by omega) (by omega) (by omega) (by omega) (by omega)
