/-- DoorSchool.same(I)I -/
abbrev P_168 (σ0 : SG) (a : Int32) (p : Nat) (sg : Int32) : PO := fun v σ => WT σ ∧ Fr [] σ0 σ ∧ ∃ ret : Int32, v = some (.int ret) ∧ -ret.toInt - 6 ≤ 0 ∧ ret.toInt - 15 ≤ 0
set_option maxRecDepth 10000 in
set_option maxHeartbeats 4000000 in
theorem c_168 (σ0 : SG) (hσ0 : WT σ0) (a : Int32) (p : Nat) (hp : TG p = 18) (h_p : (σ0 0)[9]? = some (.ref p)) (sg : Int32) (h_sg : (σ0 p)[1]? = some (.int sg)) (hp0 : -sg.toInt ≤ 0) : En 4 92 none mr_168 (P_168 σ0 a p sg) 0 [(0, .ref 0), (1, .int a)] [] σ0 := by
  obtain ⟨hl_sg, hu_sg⟩ := WT_int hσ0 (g := 18) hp (by decide +kernel) (l := (-1)) (u := 4) (by decide +kernel) h_sg
  have hF0 : Fr [] σ0 σ0 := Fr_rfl
  refine En_Ps 2 (pc' := 2) (lv' := [(0, .ref 0), (1, .int a)]) (st' := [.int a, .ref 0]) rfl ?_
  refine En_callV rfl rfl rfl rfl rfl rfl rfl rfl (by decide +kernel : TG 0 = 0) (by decide +kernel) rfl (c_180 σ0 hσ0 a p hp h_p sg h_sg (by omega)) (by decide) (by decide) (fun v2 σ3 h1 => ?_)
  obtain ⟨h4, h5, z7, rfl, h6⟩ := h1
  have h8 := Fr_trans hF0 h5 (by decide +kernel)
  refine En_Ps 2 (pc' := 7) (lv' := [(2, .int z7), (0, .ref 0), (1, .int a)]) (st' := [.int z7]) rfl ?_
  refine En_iEq _ rfl rfl (fun h9 => ?_) (fun h9 => ?_)
  · refine En_Ps 1 (pc' := 13) (lv' := [(2, .int z7), (0, .ref 0), (1, .int a)]) (st' := [.ref 0]) rfl ?_
    refine En_getU (j := 6) (u := 150) (g' := 32) (q := 0) rfl rfl rfl (by decide +kernel : TG 0 = 0) (by decide +kernel) h4 (by decide +kernel) (by decide +kernel) (fun h10 => ?_)
    refine En_Ps 1 (pc' := 17) (lv' := [(2, .int z7), (0, .ref 0), (1, .int a)]) (st' := [.int a, .ref 150]) rfl ?_
    refine En_aald (g' := 33) (u := 0) rfl rfl (by decide +kernel : TG 150 = 32) (by decide +kernel) h4 (by omega) (lnI (by decide +kernel : LN _ = 4) (by omega)) (FTsgl (by decide +kernel)) (fun a13 h12 ha13 => ?_)
    refine En_Ps 1 (pc' := 19) (lv' := [(2, .int z7), (0, .ref 0), (1, .int a)]) (st' := [.int ((Int32.ofInt 1)), .ref a13]) rfl ?_
    have := (by decide : ((Int32.ofInt 1)).toInt = 1)
    refine En_callV rfl rfl rfl rfl rfl rfl rfl rfl ha13 (by decide +kernel) rfl (c_89 σ3 h4 a13 ha13 ((Int32.ofInt 1))) (by decide) (by decide) (fun v15 σ16 h14 => ?_)
    obtain ⟨h17, h18, z20, rfl, h19⟩ := h14
    have h21 := Fr_trans h8 h18 (by decide +kernel)
    refine En_Ps 2 (pc' := 24) (lv' := [(3, .int z20), (2, .int z7), (0, .ref 0), (1, .int a)]) (st' := [.ref 0]) rfl ?_
    refine En_getK (j := 6) ((h18 _ _ (inW (by decide +kernel : TG 0 = 0) (by decide +kernel))).trans h10) rfl rfl rfl (by decide +kernel : TG 0 = 0) (by decide +kernel) ?_
    refine En_Ps 1 (pc' := 28) (lv' := [(3, .int z20), (2, .int z7), (0, .ref 0), (1, .int a)]) (st' := [.int a, .ref 150]) rfl ?_
    refine En_aald (g' := 33) (u := 0) rfl rfl (by decide +kernel : TG 150 = 32) (by decide +kernel) h17 (by omega) (lnI (by decide +kernel : LN _ = 4) (by omega)) (FTsgl (by decide +kernel)) (fun a23 h22 ha23 => ?_)
    refine En_Ps 1 (pc' := 30) (lv' := [(3, .int z20), (2, .int z7), (0, .ref 0), (1, .int a)]) (st' := [.int ((Int32.ofInt 0)), .ref a23]) rfl ?_
    have := (by decide : ((Int32.ofInt 0)).toInt = 0)
    refine En_callV rfl rfl rfl rfl rfl rfl rfl rfl ha23 (by decide +kernel) rfl (c_89 σ16 h17 a23 ha23 ((Int32.ofInt 0))) (by decide) (by decide) (fun v25 σ26 h24 => ?_)
    obtain ⟨h27, h28, z30, rfl, h29⟩ := h24
    have h31 := Fr_trans h21 h28 (by decide +kernel)
    refine En_Ps 5 (pc' := 41) (lv' := [(6, .int ((Int32.ofInt 0))), (5, .int ((Int32.ofInt 0))), (4, .int z30), (3, .int z20), (2, .int z7), (0, .ref 0), (1, .int a)]) (st' := []) rfl ?_
    have key41 : ∀ (n41 : Nat) (σ34 : SG) (y32 : Int32) (y33 : Int32), WT σ34 → Fr [] σ0 σ34 → (σ34 0)[9]? = some (.ref p) → (σ34 p)[1]? = some (.int sg) → (σ34 0)[6]? = some (.ref 150) → (σ34 150)[(a.toInt).toNat]? = some (.ref a23) → 0 ≤ y32.toInt → y32.toInt ≤ 15 → 0 ≤ y33.toInt → y33.toInt ≤ 4 → -y33.toInt + 4 < (n41 : Int) → En 4 92 none mr_168 (P_168 σ0 a p sg) 41 [(0, .ref 0), (1, .int a), (2, .int z7), (3, .int z20), (4, .int z30), (5, .int y32), (6, .int y33)] [] σ34 := by
      intro n41
      induction n41 with
      | zero =>
        intro σ34 y32 y33 h35 h36 h37 h38 h39 h40 h41 h42 h43 h44 h45
        exfalso; omega
      | succ n41 ih41 =>
        intro σ34 y32 y33 h35 h36 h37 h38 h39 h40 h41 h42 h43 h44 h45
        refine En_Ps 2 (pc' := 44) (lv' := [(0, .ref 0), (1, .int a), (2, .int z7), (3, .int z20), (4, .int z30), (5, .int y32), (6, .int y33)]) (st' := [.ref 0, .int y33]) rfl ?_
        refine En_getK (j := 9) h37 rfl rfl rfl (by decide +kernel : TG 0 = 0) (by decide +kernel) ?_
        refine En_getI (j := 3) (l := 0) (u := 4) rfl rfl rfl hp (by decide +kernel) h35 (by decide +kernel) (fun z47 h46 h48 h49 => ?_)
        refine En_icGe _ rfl rfl rfl (fun h50 => ?_) (fun h50 => ?_)
        · refine En_Ps 1 (pc' := 85) (lv' := [(0, .ref 0), (1, .int a), (2, .int z7), (3, .int z20), (4, .int z30), (5, .int y32), (6, .int y33)]) (st' := [.int y32]) rfl ?_
          exact En_ret (v := some (.int y32)) rfl rfl rfl ⟨h35, h36, y32, rfl, (by omega)⟩
        · refine En_Ps 2 (pc' := 56) (lv' := [(0, .ref 0), (1, .int a), (2, .int z7), (3, .int z20), (4, .int z30), (5, .int y32), (6, .int y33)]) (st' := [.int y33, .ref 0]) rfl ?_
          refine En_callV rfl rfl rfl rfl rfl rfl rfl rfl (by decide +kernel : TG 0 = 0) (by decide +kernel) rfl (c_114 σ34 h35 y33 (geI rfl (by omega)) (leI rfl (by omega)) p hp h37 sg h38 (by omega)) (by decide) (by decide) (fun v52 σ53 h51 => ?_)
          obtain ⟨h54, h55, z57, rfl, h56⟩ := h51
          have h58 := Fr_trans h36 h55 (by decide +kernel)
          refine En_Ps 2 (pc' := 62) (lv' := [(0, .ref 0), (1, .int a), (2, .int z7), (3, .int z20), (4, .int z30), (5, .int y32), (6, .int y33)]) (st' := [.int z30, .int z20, .int z57]) rfl ?_
          refine En_callS rfl rfl rfl rfl rfl rfl rfl rfl rfl (c_100 σ53 h54 z57 z20 z30) (by decide) (by decide) (fun v60 σ61 h59 => ?_)
          obtain ⟨h62, h63, z65, rfl, h64⟩ := h59
          have h66 := Fr_trans h58 h63 (by decide +kernel)
          refine En_iEq _ rfl rfl (fun h67 => ?_) (fun h67 => ?_)
          · refine En_Ps 1 (pc' := 80) (lv' := [(6, .int ((y33 + Int32.ofInt 1))), (0, .ref 0), (1, .int a), (2, .int z7), (3, .int z20), (4, .int z30), (5, .int y32)]) (st' := []) rfl ?_
            refine En_lv1 (addI rfl (by decide : (Int32.ofInt 1).toInt = 1) (by omega) (by omega)) (fun z68 h69 => ?_)
            refine En_Ps 1 (pc' := 41) (lv' := [(6, .int z68), (0, .ref 0), (1, .int a), (2, .int z7), (3, .int z20), (4, .int z30), (5, .int y32)]) (st' := []) rfl ?_
            refine En_lv (lv := [(0, .ref 0), (1, .int a), (2, .int z7), (3, .int z20), (4, .int z30), (5, .int y32), (6, .int z68)]) ⟨rfl, rfl, rfl, rfl, rfl, rfl, rfl, trivial⟩ ?_
            exact ih41 σ61 y32 z68 h62 h66 ((h63 _ _ (inW (by decide +kernel : TG 0 = 0) (by decide +kernel))).trans ((h55 _ _ (inW (by decide +kernel : TG 0 = 0) (by decide +kernel))).trans h37)) ((h63 _ _ (inW hp (by decide +kernel))).trans ((h55 _ _ (inW hp (by decide +kernel))).trans h38)) ((h63 _ _ (inW (by decide +kernel : TG 0 = 0) (by decide +kernel))).trans ((h55 _ _ (inW (by decide +kernel : TG 0 = 0) (by decide +kernel))).trans h39)) ((h63 _ _ (inWa (by decide +kernel : TG 150 = 32) (by decide +kernel))).trans ((h55 _ _ (inWa (by decide +kernel : TG 150 = 32) (by decide +kernel))).trans h40)) (by omega) (by omega) (by omega) (by omega) (by omega)
          · refine En_Ps 4 (pc' := 74) (lv' := [(0, .ref 0), (1, .int a), (2, .int z7), (3, .int z20), (4, .int z30), (5, .int y32), (6, .int y33)]) (st' := [.int ((((Int32.ofInt 1)) <<< (y33 &&& 31))), .int y32]) rfl ?_
            refine En_rng (shl1_p 3 rfl (by omega) (by omega) (by decide)) (fun z70 h71 h72 => ?_)
            refine En_Ps 1 (pc' := 75) (lv' := [(0, .ref 0), (1, .int a), (2, .int z7), (3, .int z20), (4, .int z30), (5, .int y32), (6, .int y33)]) (st' := [.int ((y32 ||| z70))]) rfl ?_
            refine En_rng (l := 0) (u := 15) (or_rng 4 rfl rfl (by omega) (by omega) (by omega) (by omega) (by decide)) (fun z73 h74 h75 => ?_)
            refine En_Ps 2 (pc' := 80) (lv' := [(6, .int ((y33 + Int32.ofInt 1))), (5, .int z73), (0, .ref 0), (1, .int a), (2, .int z7), (3, .int z20), (4, .int z30)]) (st' := []) rfl ?_
            refine En_lv1 (addI rfl (by decide : (Int32.ofInt 1).toInt = 1) (by omega) (by omega)) (fun z76 h77 => ?_)
            refine En_Ps 1 (pc' := 41) (lv' := [(6, .int z76), (5, .int z73), (0, .ref 0), (1, .int a), (2, .int z7), (3, .int z20), (4, .int z30)]) (st' := []) rfl ?_
            refine En_lv (lv := [(0, .ref 0), (1, .int a), (2, .int z7), (3, .int z20), (4, .int z30), (5, .int z73), (6, .int z76)]) ⟨rfl, rfl, rfl, rfl, rfl, rfl, rfl, trivial⟩ ?_
            exact ih41 σ61 z73 z76 h62 h66 ((h63 _ _ (inW (by decide +kernel : TG 0 = 0) (by decide +kernel))).trans ((h55 _ _ (inW (by decide +kernel : TG 0 = 0) (by decide +kernel))).trans h37)) ((h63 _ _ (inW hp (by decide +kernel))).trans ((h55 _ _ (inW hp (by decide +kernel))).trans h38)) ((h63 _ _ (inW (by decide +kernel : TG 0 = 0) (by decide +kernel))).trans ((h55 _ _ (inW (by decide +kernel : TG 0 = 0) (by decide +kernel))).trans h39)) ((h63 _ _ (inWa (by decide +kernel : TG 150 = 32) (by decide +kernel))).trans ((h55 _ _ (inWa (by decide +kernel : TG 150 = 32) (by decide +kernel))).trans h40)) (by omega) (by omega) (by omega) (by omega) (by omega)
    have := (by decide : (Int32.ofInt 0).toInt = 0)
    have := (by decide : (Int32.ofInt 0).toInt = 0)
    refine En_lv (lv := [(0, .ref 0), (1, .int a), (2, .int z7), (3, .int z20), (4, .int z30), (5, .int ((Int32.ofInt 0))), (6, .int ((Int32.ofInt 0)))]) ⟨rfl, rfl, rfl, rfl, rfl, rfl, rfl, trivial⟩ ?_
    exact key41 (Int.toNat (4) + 1) σ26 ((Int32.ofInt 0)) ((Int32.ofInt 0)) h27 h31 ((h28 _ _ (inW (by decide +kernel : TG 0 = 0) (by decide +kernel))).trans ((h18 _ _ (inW (by decide +kernel : TG 0 = 0) (by decide +kernel))).trans ((h5 _ _ (inW (by decide +kernel : TG 0 = 0) (by decide +kernel))).trans h_p))) ((h28 _ _ (inW hp (by decide +kernel))).trans ((h18 _ _ (inW hp (by decide +kernel))).trans ((h5 _ _ (inW hp (by decide +kernel))).trans h_sg))) ((h28 _ _ (inW (by decide +kernel : TG 0 = 0) (by decide +kernel))).trans ((h18 _ _ (inW (by decide +kernel : TG 0 = 0) (by decide +kernel))).trans h10)) ((h28 _ _ (inWa (by decide +kernel : TG 150 = 32) (by decide +kernel))).trans h22) (by omega) (by omega) (by omega) (by omega) (by omega)
  · refine En_Ps 1 (pc' := 11) (lv' := [(2, .int z7), (0, .ref 0), (1, .int a)]) (st' := [.int z7]) rfl ?_
    exact En_ret (v := some (.int z7)) rfl rfl rfl ⟨h4, h8, z7, rfl, (by omega)⟩
/-- DoorSchool.sets(III)I -/
abbrev P_170 (σ0 : SG) (a : Int32) (b : Int32) (c : Int32) (p : Nat) (sg : Int32) : PO := fun v σ => WT σ ∧ Fr [] σ0 σ ∧ ∃ ret : Int32, v = some (.int ret) ∧ -ret.toInt - 2 ≤ 0 ∧ ret.toInt - 65536 ≤ 0
set_option maxRecDepth 10000 in
set_option maxHeartbeats 4000000 in
theorem c_170 (σ0 : SG) (hσ0 : WT σ0) (a : Int32) (b : Int32) (c : Int32) (p : Nat) (hp : TG p = 18) (h_p : (σ0 0)[9]? = some (.ref p)) (sg : Int32) (h_sg : (σ0 p)[1]? = some (.int sg)) (hp0 : -sg.toInt ≤ 0) : En 6 145 none mr_170 (P_170 σ0 a b c p sg) 0 [(0, .ref 0), (1, .int a), (2, .int b), (3, .int c)] [] σ0 := by
  obtain ⟨hl_sg, hu_sg⟩ := WT_int hσ0 (g := 18) hp (by decide +kernel) (l := (-1)) (u := 4) (by decide +kernel) h_sg
  have hF0 : Fr [] σ0 σ0 := Fr_rfl
  refine En_Ps 1 (pc' := 1) (lv' := [(0, .ref 0), (1, .int a), (2, .int b), (3, .int c)]) (st' := [.int a]) rfl ?_
  refine En_callS rfl rfl rfl rfl rfl rfl rfl rfl rfl (c_148 σ0 hσ0 a) (by decide) (by decide) (fun v2 σ3 h1 => ?_)
  obtain ⟨h4, h5, z7, rfl, h6⟩ := h1
  have h8 := Fr_trans hF0 h5 (by decide +kernel)
  refine En_iEq _ rfl rfl (fun h9 => ?_) (fun h9 => ?_)
  · refine En_Ps 1 (pc' := 30) (lv' := [(0, .ref 0), (1, .int a), (2, .int b), (3, .int c)]) (st' := [.int (((Int8.ofInt (-2)).toInt32))]) rfl ?_
    refine En_top (by decide : ((Int8.ofInt (-2)).toInt32).toInt = -2) (fun z10 h11 => ?_)
    exact En_ret (v := some (.int z10)) rfl rfl rfl ⟨h4, h8, z10, rfl, (by omega)⟩
  · refine En_Ps 1 (pc' := 8) (lv' := [(0, .ref 0), (1, .int a), (2, .int b), (3, .int c)]) (st' := [.ref 0]) rfl ?_
    refine En_getK (j := 9) ((h5 _ _ (inW (by decide +kernel : TG 0 = 0) (by decide +kernel))).trans h_p) rfl rfl rfl (by decide +kernel : TG 0 = 0) (by decide +kernel) ?_
    refine En_Ps 1 (pc' := 12) (lv' := [(0, .ref 0), (1, .int a), (2, .int b), (3, .int c)]) (st' := [.int b, .ref p]) rfl ?_
    refine En_callV rfl rfl rfl rfl rfl rfl rfl rfl hp (by decide +kernel) rfl (c_46 σ3 h4 p hp b sg ((h5 _ _ (inW hp (by decide +kernel))).trans h_sg) (by omega)) (by decide) (by decide) (fun v13 σ14 h12 => ?_)
    obtain ⟨h15, h16, z18, rfl, h17⟩ := h12
    have h19 := Fr_trans h8 h16 (by decide +kernel)
    refine En_iEq _ rfl rfl (fun h20 => ?_) (fun h20 => ?_)
    · refine En_Ps 1 (pc' := 30) (lv' := [(0, .ref 0), (1, .int a), (2, .int b), (3, .int c)]) (st' := [.int (((Int8.ofInt (-2)).toInt32))]) rfl ?_
      refine En_top (by decide : ((Int8.ofInt (-2)).toInt32).toInt = -2) (fun z21 h22 => ?_)
      exact En_ret (v := some (.int z21)) rfl rfl rfl ⟨h15, h19, z21, rfl, (by omega)⟩
    · refine En_Ps 1 (pc' := 19) (lv' := [(0, .ref 0), (1, .int a), (2, .int b), (3, .int c)]) (st' := [.int c]) rfl ?_
      refine En_iLt _ rfl rfl (fun h23 => ?_) (fun h23 => ?_)
      · refine En_Ps 1 (pc' := 30) (lv' := [(0, .ref 0), (1, .int a), (2, .int b), (3, .int c)]) (st' := [.int (((Int8.ofInt (-2)).toInt32))]) rfl ?_
        refine En_top (by decide : ((Int8.ofInt (-2)).toInt32).toInt = -2) (fun z24 h25 => ?_)
        exact En_ret (v := some (.int z24)) rfl rfl rfl ⟨h15, h19, z24, rfl, (by omega)⟩
      · refine En_Ps 2 (pc' := 25) (lv' := [(0, .ref 0), (1, .int a), (2, .int b), (3, .int c)]) (st' := [.int (((Int8.ofInt 16).toInt32)), .int c]) rfl ?_
        refine En_icLe _ rfl (by decide : ((Int8.ofInt 16).toInt32).toInt = 16) rfl (fun h26 => ?_) (fun h26 => ?_)
        · refine En_Ps 1 (pc' := 32) (lv' := [(0, .ref 0), (1, .int a), (2, .int b), (3, .int c)]) (st' := [.ref 0]) rfl ?_
          refine En_getU (j := 3) (u := 8) (g' := 8) (q := 0) rfl rfl rfl (by decide +kernel : TG 0 = 0) (by decide +kernel) h15 (by decide +kernel) (by decide +kernel) (fun h27 => ?_)
          refine En_Ps 3 (pc' := 38) (lv' := [(0, .ref 0), (1, .int a), (2, .int b), (3, .int c)]) (st' := [.int c, .int b, .int a, .ref 8]) rfl ?_
          refine En_callV rfl rfl rfl rfl rfl rfl rfl rfl (by decide +kernel : TG 8 = 8) (by decide +kernel) rfl (c_29 σ14 h15 a b c) (by decide) (by decide) (fun v30 σ31 h29 => ?_)
          obtain ⟨h32, h33, z35, rfl, h34⟩ := h29
          have h36 := Fr_trans h19 h33 (by decide +kernel)
          exact En_ret (v := some (.int z35)) rfl rfl rfl ⟨h32, h36, z35, rfl, (by omega)⟩
        · refine En_Ps 1 (pc' := 30) (lv' := [(0, .ref 0), (1, .int a), (2, .int b), (3, .int c)]) (st' := [.int (((Int8.ofInt (-2)).toInt32))]) rfl ?_
          refine En_top (by decide : ((Int8.ofInt (-2)).toInt32).toInt = -2) (fun z37 h38 => ?_)
          exact En_ret (v := some (.int z37)) rfl rfl rfl ⟨h15, h19, z37, rfl, (by omega)⟩
/-- DoorSchool.sure(II)I -/
abbrev P_173 (σ0 : SG) (a : Int32) (b : Int32) (p : Nat) (sg : Int32) : PO := fun v σ => WT σ ∧ Fr [] σ0 σ ∧ ∃ ret : Int32, v = some (.int ret) ∧ -ret.toInt - 6 ≤ 0 ∧ ret.toInt - 65535 ≤ 0
set_option maxRecDepth 10000 in
set_option maxHeartbeats 4000000 in
theorem c_173 (σ0 : SG) (hσ0 : WT σ0) (a : Int32) (b : Int32) (p : Nat) (hp : TG p = 18) (h_p : (σ0 0)[9]? = some (.ref p)) (sg : Int32) (h_sg : (σ0 p)[1]? = some (.int sg)) (hp0 : -sg.toInt ≤ 0) : En 2 47 none mr_173 (P_173 σ0 a b p sg) 0 [(0, .ref 0), (1, .int a), (2, .int b)] [] σ0 := by
  obtain ⟨hl_sg, hu_sg⟩ := WT_int hσ0 (g := 18) hp (by decide +kernel) (l := (-1)) (u := 4) (by decide +kernel) h_sg
  have hF0 : Fr [] σ0 σ0 := Fr_rfl
  refine En_Ps 1 (pc' := 1) (lv' := [(0, .ref 0), (1, .int a), (2, .int b)]) (st' := [.int b]) rfl ?_
  refine En_callS rfl rfl rfl rfl rfl rfl rfl rfl rfl (c_149 σ0 hσ0 b) (by decide) (by decide) (fun v2 σ3 h1 => ?_)
  obtain ⟨h4, h5, z7, rfl, h6⟩ := h1
  have h8 := Fr_trans hF0 h5 (by decide +kernel)
  refine En_iEq _ rfl rfl (fun h9 => ?_) (fun h9 => ?_)
  · refine En_Ps 3 (pc' := 19) (lv' := [(3, .int (((Int8.ofInt (-2)).toInt32))), (0, .ref 0), (1, .int a), (2, .int b)]) (st' := [.int (((Int8.ofInt (-2)).toInt32))]) rfl ?_
    refine En_iEq _ (by decide : ((Int8.ofInt (-2)).toInt32).toInt = -2) rfl (fun hx => by exfalso; omega) (fun h10 => ?_)
    refine En_Ps 1 (pc' := 23) (lv' := [(3, .int (((Int8.ofInt (-2)).toInt32))), (0, .ref 0), (1, .int a), (2, .int b)]) (st' := [.int (((Int8.ofInt (-2)).toInt32))]) rfl ?_
    refine En_top (by decide : ((Int8.ofInt (-2)).toInt32).toInt = -2) (fun z11 h12 => ?_)
    exact En_ret (v := some (.int z11)) rfl rfl rfl ⟨h4, h8, z11, rfl, (by omega)⟩
  · refine En_Ps 2 (pc' := 9) (lv' := [(0, .ref 0), (1, .int a), (2, .int b)]) (st' := [.int a, .ref 0]) rfl ?_
    refine En_callV rfl rfl rfl rfl rfl rfl rfl rfl (by decide +kernel : TG 0 = 0) (by decide +kernel) rfl (c_180 σ3 h4 a p hp ((h5 _ _ (inW (by decide +kernel : TG 0 = 0) (by decide +kernel))).trans h_p) sg ((h5 _ _ (inW hp (by decide +kernel))).trans h_sg) (by omega)) (by decide) (by decide) (fun v14 σ15 h13 => ?_)
    obtain ⟨h16, h17, z19, rfl, h18⟩ := h13
    have h20 := Fr_trans h8 h17 (by decide +kernel)
    refine En_Ps 3 (pc' := 19) (lv' := [(3, .int z19), (0, .ref 0), (1, .int a), (2, .int b)]) (st' := [.int z19]) rfl ?_
    refine En_iEq _ rfl rfl (fun h21 => ?_) (fun h21 => ?_)
    · refine En_Ps 1 (pc' := 25) (lv' := [(3, .int z19), (0, .ref 0), (1, .int a), (2, .int b)]) (st' := [.ref 0]) rfl ?_
      refine En_getU (j := 2) (u := 4) (g' := 4) (q := 0) rfl rfl rfl (by decide +kernel : TG 0 = 0) (by decide +kernel) h16 (by decide +kernel) (by decide +kernel) (fun h22 => ?_)
      refine En_Ps 1 (pc' := 29) (lv' := [(3, .int z19), (0, .ref 0), (1, .int a), (2, .int b)]) (st' := [.ref 0, .ref 4]) rfl ?_
      refine En_getU (j := 6) (u := 150) (g' := 32) (q := 0) rfl rfl rfl (by decide +kernel : TG 0 = 0) (by decide +kernel) h16 (by decide +kernel) (by decide +kernel) (fun h24 => ?_)
      refine En_Ps 1 (pc' := 33) (lv' := [(3, .int z19), (0, .ref 0), (1, .int a), (2, .int b)]) (st' := [.int a, .ref 150, .ref 4]) rfl ?_
      refine En_aald (g' := 33) (u := 0) rfl rfl (by decide +kernel : TG 150 = 32) (by decide +kernel) h16 (by omega) (lnI (by decide +kernel : LN _ = 4) (by omega)) (FTsgl (by decide +kernel)) (fun a27 h26 ha27 => ?_)
      refine En_Ps 1 (pc' := 35) (lv' := [(3, .int z19), (0, .ref 0), (1, .int a), (2, .int b)]) (st' := [.int ((Int32.ofInt 1)), .ref a27, .ref 4]) rfl ?_
      have := (by decide : ((Int32.ofInt 1)).toInt = 1)
      refine En_callV rfl rfl rfl rfl rfl rfl rfl rfl ha27 (by decide +kernel) rfl (c_89 σ15 h16 a27 ha27 ((Int32.ofInt 1))) (by decide) (by decide) (fun v29 σ30 h28 => ?_)
      obtain ⟨h31, h32, z34, rfl, h33⟩ := h28
      have h35 := Fr_trans h20 h32 (by decide +kernel)
      refine En_Ps 1 (pc' := 39) (lv' := [(3, .int z19), (0, .ref 0), (1, .int a), (2, .int b)]) (st' := [.ref 0, .int z34, .ref 4]) rfl ?_
      refine En_getK (j := 6) ((h32 _ _ (inW (by decide +kernel : TG 0 = 0) (by decide +kernel))).trans h24) rfl rfl rfl (by decide +kernel : TG 0 = 0) (by decide +kernel) ?_
      refine En_Ps 1 (pc' := 43) (lv' := [(3, .int z19), (0, .ref 0), (1, .int a), (2, .int b)]) (st' := [.int a, .ref 150, .int z34, .ref 4]) rfl ?_
      refine En_aald (g' := 33) (u := 0) rfl rfl (by decide +kernel : TG 150 = 32) (by decide +kernel) h31 (by omega) (lnI (by decide +kernel : LN _ = 4) (by omega)) (FTsgl (by decide +kernel)) (fun a37 h36 ha37 => ?_)
      refine En_Ps 1 (pc' := 45) (lv' := [(3, .int z19), (0, .ref 0), (1, .int a), (2, .int b)]) (st' := [.int ((Int32.ofInt 0)), .ref a37, .int z34, .ref 4]) rfl ?_
      have := (by decide : ((Int32.ofInt 0)).toInt = 0)
      refine En_callV rfl rfl rfl rfl rfl rfl rfl rfl ha37 (by decide +kernel) rfl (c_89 σ30 h31 a37 ha37 ((Int32.ofInt 0))) (by decide) (by decide) (fun v39 σ40 h38 => ?_)
      obtain ⟨h41, h42, z44, rfl, h43⟩ := h38
      have h45 := Fr_trans h35 h42 (by decide +kernel)
      refine En_Ps 1 (pc' := 49) (lv' := [(3, .int z19), (0, .ref 0), (1, .int a), (2, .int b)]) (st' := [.int b, .int z44, .int z34, .ref 4]) rfl ?_
      refine En_iNe _ rfl rfl (fun h46 => ?_) (fun h46 => ?_)
      · refine En_Ps 1 (pc' := 57) (lv' := [(3, .int z19), (0, .ref 0), (1, .int a), (2, .int b)]) (st' := [.int ((Int32.ofInt 0)), .int z44, .int z34, .ref 4]) rfl ?_
        have := (by decide : ((Int32.ofInt 0)).toInt = 0)
        refine En_callV rfl rfl rfl rfl rfl rfl rfl rfl (by decide +kernel : TG 4 = 4) (by decide +kernel) rfl (c_83 σ40 h41 z34 z44 ((Int32.ofInt 0)) (geI (by decide : (Int32.ofInt 0).toInt = 0) (by omega)) (leI (by decide : (Int32.ofInt 0).toInt = 0) (by omega))) (by decide) (by decide) (fun v48 σ49 h47 => ?_)
        obtain ⟨h50, h51, z53, rfl, h52⟩ := h47
        have h54 := Fr_trans h45 h51 (by decide +kernel)
        exact En_ret (v := some (.int z53)) rfl rfl rfl ⟨h50, h54, z53, rfl, (by omega)⟩
      · refine En_Ps 2 (pc' := 57) (lv' := [(3, .int z19), (0, .ref 0), (1, .int a), (2, .int b)]) (st' := [.int ((Int32.ofInt 1)), .int z44, .int z34, .ref 4]) rfl ?_
        have := (by decide : ((Int32.ofInt 1)).toInt = 1)
        refine En_callV rfl rfl rfl rfl rfl rfl rfl rfl (by decide +kernel : TG 4 = 4) (by decide +kernel) rfl (c_83 σ40 h41 z34 z44 ((Int32.ofInt 1)) (geI (by decide : (Int32.ofInt 1).toInt = 1) (by omega)) (leI (by decide : (Int32.ofInt 1).toInt = 1) (by omega))) (by decide) (by decide) (fun v56 σ57 h55 => ?_)
        obtain ⟨h58, h59, z61, rfl, h60⟩ := h55
        have h62 := Fr_trans h45 h59 (by decide +kernel)
        exact En_ret (v := some (.int z61)) rfl rfl rfl ⟨h58, h62, z61, rfl, (by omega)⟩
    · refine En_Ps 1 (pc' := 23) (lv' := [(3, .int z19), (0, .ref 0), (1, .int a), (2, .int b)]) (st' := [.int z19]) rfl ?_
      exact En_ret (v := some (.int z19)) rfl rfl rfl ⟨h16, h20, z19, rfl, (by omega)⟩
/-- DoorSchool.teacher()I -/
abbrev P_175 (σ0 : SG) (p : Nat) (sg : Int32) : PO := fun v σ => WT σ ∧ Fr [(14, 3), (14, 4), (15, 0), (16, 0), (17, 0)] σ0 σ ∧ ∃ ret : Int32, v = some (.int ret) ∧ -ret.toInt - 1000 ≤ 0 ∧ ret.toInt - 1000 ≤ 0
set_option maxRecDepth 10000 in
set_option maxHeartbeats 4000000 in
theorem c_175 (σ0 : SG) (hσ0 : WT σ0) (p : Nat) (hp : TG p = 18) (h_p : (σ0 0)[9]? = some (.ref p)) (sg : Int32) (h_sg : (σ0 p)[1]? = some (.int sg)) (hp0 : -sg.toInt ≤ 0) : En 11 292 none mr_175 (P_175 σ0 p sg) 0 [(0, .ref 0)] [] σ0 := by
  obtain ⟨hl_sg, hu_sg⟩ := WT_int hσ0 (g := 18) hp (by decide +kernel) (l := (-1)) (u := 4) (by decide +kernel) h_sg
  have hF0 : Fr [(14, 3), (14, 4), (15, 0), (16, 0), (17, 0)] σ0 σ0 := Fr_rfl
  refine En_Ps 1 (pc' := 1) (lv' := [(0, .ref 0)]) (st' := [.ref 0]) rfl ?_
  refine En_getK (j := 9) h_p rfl rfl rfl (by decide +kernel : TG 0 = 0) (by decide +kernel) ?_
  refine En_callV rfl rfl rfl rfl rfl rfl rfl rfl hp (by decide +kernel) rfl (c_43 σ0 hσ0 p hp) (by decide) (by decide) (fun v2 σ3 h1 => ?_)
  obtain ⟨h4, h5, z7, rfl, h6⟩ := h1
  have h8 := Fr_trans hF0 h5 (by decide +kernel)
  refine En_iNe _ rfl rfl (fun h9 => ?_) (fun h9 => ?_)
  · refine En_Ps 1 (pc' := 14) (lv' := [(0, .ref 0)]) (st' := [.ref 0]) rfl ?_
    refine En_getU (j := 5) (u := 14) (g' := 14) (q := 0) rfl rfl rfl (by decide +kernel : TG 0 = 0) (by decide +kernel) h4 (by decide +kernel) (by decide +kernel) (fun h10 => ?_)
    refine En_Ps 1 (pc' := 18) (lv' := [(0, .ref 0)]) (st' := [.ref 0, .ref 14]) rfl ?_
    refine En_getK (j := 9) ((h5 _ _ (inW (by decide +kernel : TG 0 = 0) (by decide +kernel))).trans h_p) rfl rfl rfl (by decide +kernel : TG 0 = 0) (by decide +kernel) ?_
    refine En_Ps 1 (pc' := 22) (lv' := [(0, .ref 0)]) (st' := [.ref 0, .ref p, .ref 14]) rfl ?_
    refine En_getK (j := 9) ((h5 _ _ (inW (by decide +kernel : TG 0 = 0) (by decide +kernel))).trans h_p) rfl rfl rfl (by decide +kernel : TG 0 = 0) (by decide +kernel) ?_
    refine En_getI (j := 2) (l := (-1)) (u := 3) rfl rfl rfl hp (by decide +kernel) h4 (by decide +kernel) (fun z13 h12 h14 h15 => ?_)
    refine En_callV rfl rfl rfl rfl rfl rfl rfl rfl (by decide +kernel : TG 14 = 14) (by decide +kernel) rfl (c_98 σ3 h4 p hp z13 (geI rfl (by omega)) (leI rfl (by omega))) (by decide) (by decide) (fun v17 σ18 h16 => ?_)
    obtain ⟨h19, h20, z22, rfl, h21⟩ := h16
    have h23 := Fr_trans h8 h20 (by decide +kernel)
    refine En_Ps 1 (pc' := 32) (lv' := [(0, .ref 0)]) (st' := [.ref 0, .int z22]) rfl ?_
    refine En_getK (j := 5) ((h20 _ _ (inW (by decide +kernel : TG 0 = 0) (by decide +kernel))).trans h10) rfl rfl rfl (by decide +kernel : TG 0 = 0) (by decide +kernel) ?_
    refine En_Ps 1 (pc' := 36) (lv' := [(0, .ref 0)]) (st' := [.ref 0, .ref 14, .int z22]) rfl ?_
    refine En_getK (j := 9) ((h20 _ _ (inW (by decide +kernel : TG 0 = 0) (by decide +kernel))).trans ((h5 _ _ (inW (by decide +kernel : TG 0 = 0) (by decide +kernel))).trans h_p)) rfl rfl rfl (by decide +kernel : TG 0 = 0) (by decide +kernel) ?_
    refine En_Ps 1 (pc' := 40) (lv' := [(0, .ref 0)]) (st' := [.ref 0, .ref p, .ref 14, .int z22]) rfl ?_
    refine En_getK (j := 9) ((h20 _ _ (inW (by decide +kernel : TG 0 = 0) (by decide +kernel))).trans ((h5 _ _ (inW (by decide +kernel : TG 0 = 0) (by decide +kernel))).trans h_p)) rfl rfl rfl (by decide +kernel : TG 0 = 0) (by decide +kernel) ?_
    refine En_getK (j := 2) ((h20 _ _ (inW hp (by decide +kernel))).trans h12) rfl rfl rfl hp (by decide +kernel) ?_
    refine En_Ps 2 (pc' := 48) (lv' := [(0, .ref 0)]) (st' := [.int ((z13 + ((Int32.ofInt 1)))), .ref p, .ref 14, .int z22]) rfl ?_
    refine En_top (addI rfl (by decide : (Int32.ofInt 1).toInt = 1) (by omega) (by omega)) (fun z24 h25 => ?_)
    refine En_callV rfl rfl rfl rfl rfl rfl rfl rfl (by decide +kernel : TG 14 = 14) (by decide +kernel) rfl (c_98 σ18 h19 p hp z24 (geI rfl (by omega)) (leI rfl (by omega))) (by decide) (by decide) (fun v27 σ28 h26 => ?_)
    obtain ⟨h29, h30, z32, rfl, h31⟩ := h26
    have h33 := Fr_trans h23 h30 (by decide +kernel)
    refine En_Ps 1 (pc' := 52) (lv' := [(0, .ref 0)]) (st' := [.int ((z22 - z32))]) rfl ?_
    refine En_top (subI rfl rfl (by omega) (by omega)) (fun z34 h35 => ?_)
    exact En_ret (v := some (.int z34)) rfl rfl rfl ⟨h29, h33, z34, rfl, (by omega)⟩
  · refine En_Ps 1 (pc' := 12) (lv' := [(0, .ref 0)]) (st' := [.int (((Int8.ofInt (-2)).toInt32))]) rfl ?_
    refine En_top (by decide : ((Int8.ofInt (-2)).toInt32).toInt = -2) (fun z36 h37 => ?_)
    exact En_ret (v := some (.int z36)) rfl rfl rfl ⟨h4, h8, z36, rfl, (by omega)⟩
