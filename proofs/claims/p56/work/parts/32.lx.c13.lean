/-- DoorSchool.same(I)I -/
abbrev P_168 (σ0 : SG) (a : Int32) (p : Nat) (sg : Int32) : PO := fun v σ => WT σ ∧ Fr [] σ0 σ ∧ ∃ ret : Int32, v = some (.int ret) ∧ -ret.toInt - 6 ≤ 0 ∧ ret.toInt - 15 ≤ 0
set_option maxRecDepth 10000 in
set_option maxHeartbeats 4000000 in
theorem c_168 (σ0 : SG) (hσ0 : WT σ0) (a : Int32) (p : Nat) (hp : TG p = 18) (h_p : (σ0 0)[9]? = some (.ref p)) (sg : Int32) (h_sg : (σ0 p)[1]? = some (.int sg)) (hp0 : -sg.toInt ≤ 0) : En 4 92 none mr_168 (P_168 σ0 a p sg) 0 [(0, .ref 0), (1, .int a)] [] σ0 := by
  obtain ⟨hl_sg, hu_sg⟩ := WT_int hσ0 (g := 18) hp (by decide +kernel) (l := (-1)) (u := 4) (by decide +kernel) h_sg
  have hF0 : Fr [] σ0 σ0 := Fr_rfl
  refine En_Ps 2 (pc' := 2) (lv' := [(0, .ref 0), (1, .int a)]) (st' := [.int a, .ref 0]) rfl ?_
  refine En_callV rfl rfl rfl rfl rfl rfl rfl rfl tgz_0 (by decide +kernel) rfl (c_180 σ0 hσ0 a p hp h_p sg h_sg (by first | exact q_a555021d16 hp0 | omega)) (by decide) (by decide) (fun v2 σ3 h1 => ?_)
  obtain ⟨h4, h5, z7, rfl, h6⟩ := h1
  have h8 := Fr_trans hF0 h5 (by decide +kernel)
  refine En_Ps 2 (pc' := 7) (lv' := [(2, .int z7), (0, .ref 0), (1, .int a)]) (st' := [.int z7]) rfl ?_
  refine En_iEq _ rfl rfl (fun h9 => ?_) (fun h9 => ?_)
  · refine En_Ps 1 (pc' := 13) (lv' := [(2, .int z7), (0, .ref 0), (1, .int a)]) (st' := [.ref 0]) rfl ?_
    refine En_getU (j := 6) (u := 150) (g' := 32) (q := 0) rfl rfl rfl tgz_0 (by decide +kernel) h4 (by decide +kernel) (by decide +kernel) (fun h10 => ?_)
    refine En_Ps 1 (pc' := 17) (lv' := [(2, .int z7), (0, .ref 0), (1, .int a)]) (st' := [.int a, .ref 150]) rfl ?_
    refine En_aald (g' := 33) (u := 0) rfl rfl tgz_150 (by decide +kernel) h4 (by omega) (lnI (by decide +kernel : LN _ = 4) (by omega)) (FTsgl (by decide +kernel)) (fun a13 h12 ha13 => ?_)
    refine En_Ps 1 (pc' := 19) (lv' := [(2, .int z7), (0, .ref 0), (1, .int a)]) (st' := [.int ((Int32.ofInt 1)), .ref a13]) rfl ?_
    have := (by decide : ((Int32.ofInt 1)).toInt = 1)
    refine En_callV rfl rfl rfl rfl rfl rfl rfl rfl ha13 (by decide +kernel) rfl (c_89 σ3 h4 a13 ha13 ((Int32.ofInt 1))) (by decide) (by decide) (fun v15 σ16 h14 => ?_)
    obtain ⟨h17, h18, z20, rfl, h19⟩ := h14
    have h21 := Fr_trans h8 h18 (by decide +kernel)
    refine En_Ps 2 (pc' := 24) (lv' := [(3, .int z20), (2, .int z7), (0, .ref 0), (1, .int a)]) (st' := [.ref 0]) rfl ?_
    refine En_getK (j := 6) ((h18 _ _ (inW tgz_0 (by decide +kernel))).trans h10) rfl rfl rfl tgz_0 (by decide +kernel) ?_
    refine En_Ps 1 (pc' := 28) (lv' := [(3, .int z20), (2, .int z7), (0, .ref 0), (1, .int a)]) (st' := [.int a, .ref 150]) rfl ?_
    refine En_aald (g' := 33) (u := 0) rfl rfl tgz_150 (by decide +kernel) h17 (by omega) (lnI (by decide +kernel : LN _ = 4) (by omega)) (FTsgl (by decide +kernel)) (fun a23 h22 ha23 => ?_)
    refine En_Ps 1 (pc' := 30) (lv' := [(3, .int z20), (2, .int z7), (0, .ref 0), (1, .int a)]) (st' := [.int ((Int32.ofInt 0)), .ref a23]) rfl ?_
    have := (by decide : ((Int32.ofInt 0)).toInt = 0)
    refine En_callV rfl rfl rfl rfl rfl rfl rfl rfl ha23 (by decide +kernel) rfl (c_89 σ16 h17 a23 ha23 ((Int32.ofInt 0))) (by decide) (by decide) (fun v25 σ26 h24 => ?_)
    obtain ⟨h27, h28, z30, rfl, h29⟩ := h24
    have h31 := Fr_trans h21 h28 (by decide +kernel)
    refine En_Ps 5 (pc' := 41) (lv' := [(6, .int ((Int32.ofInt 0))), (5, .int ((Int32.ofInt 0))), (4, .int z30), (3, .int z20), (2, .int z7), (0, .ref 0), (1, .int a)]) (st' := []) rfl ?_
    have key41 : ∀ (n41 : Nat) (σ34 : SG) (y32 : Int32) (y33 : Int32), WT σ34 → Fr [] σ0 σ34 → (σ34 0)[9]? = some (.ref p) → (σ34 p)[1]? = some (.int sg) → (σ34 0)[6]? = some (.ref 150) → (σ34 150)[(a.toInt).toNat]? = some (.ref a23) → 0 ≤ y32.toInt → y32.toInt ≤ 15 → 0 ≤ y33.toInt → y33.toInt ≤ 4 → -y33.toInt + 4 < (n41 : Int) → En 4 92 none mr_168 (P_168 σ0 a p sg) 41 [(0, .ref 0), (1, .int a), (2, .int z7), (3, .int z20), (4, .int z30), (5, .int y32), (6, .int y33)] [] σ34 := by
      intro n41
      induction n41 with
      | zero =>
        intro σ34 y32 y33 h35 h36 h37 h38 h39 h40 h41 h42 h43 h44 h45
        first | exact (q_20d6385c6f h45 h44).elim | (exfalso; omega)
      | succ n41 ih41 =>
        intro σ34 y32 y33 h35 h36 h37 h38 h39 h40 h41 h42 h43 h44 h45
        refine En_Ps 2 (pc' := 44) (lv' := [(0, .ref 0), (1, .int a), (2, .int z7), (3, .int z20), (4, .int z30), (5, .int y32), (6, .int y33)]) (st' := [.ref 0, .int y33]) rfl ?_
        refine En_getK (j := 9) h37 rfl rfl rfl tgz_0 (by decide +kernel) ?_
        refine En_getI (j := 3) (l := 0) (u := 4) rfl rfl rfl hp (by decide +kernel) h35 (by decide +kernel) (fun z47 h46 h48 h49 => ?_)
        refine En_icGe _ rfl rfl rfl (fun h50 => ?_) (fun h50 => ?_)
        · refine En_Ps 1 (pc' := 85) (lv' := [(0, .ref 0), (1, .int a), (2, .int z7), (3, .int z20), (4, .int z30), (5, .int y32), (6, .int y33)]) (st' := [.int y32]) rfl ?_
          exact En_ret (v := some (.int y32)) rfl rfl rfl ⟨h35, h36, y32, rfl, ⟨by first | exact q_7430e21245 h41 | omega, by first | exact q_867a9ac627 h42 | omega⟩⟩
        · refine En_Ps 2 (pc' := 56) (lv' := [(0, .ref 0), (1, .int a), (2, .int z7), (3, .int z20), (4, .int z30), (5, .int y32), (6, .int y33)]) (st' := [.int y33, .ref 0]) rfl ?_
          refine En_callV rfl rfl rfl rfl rfl rfl rfl rfl tgz_0 (by decide +kernel) rfl (c_114 σ34 h35 y33 (geI rfl (by first | exact q_58e6e51dcc h43 | omega)) (leI rfl (by first | exact q_5ab2e90ecc h50 h49 | omega)) p hp h37 sg h38 (by first | exact q_a555021d16 hp0 | omega)) (by decide) (by decide) (fun v52 σ53 h51 => ?_)
          obtain ⟨h54, h55, z57, rfl, h56⟩ := h51
          have h58 := Fr_trans h36 h55 (by decide +kernel)
          refine En_Ps 2 (pc' := 62) (lv' := [(0, .ref 0), (1, .int a), (2, .int z7), (3, .int z20), (4, .int z30), (5, .int y32), (6, .int y33)]) (st' := [.int z30, .int z20, .int z57]) rfl ?_
          refine En_callS rfl rfl rfl rfl rfl rfl rfl rfl rfl (c_100 σ53 h54 z57 z20 z30) (by decide) (by decide) (fun v60 σ61 h59 => ?_)
          obtain ⟨h62, h63, z65, rfl, h64⟩ := h59
          have h66 := Fr_trans h58 h63 (by decide +kernel)
          refine En_iEq _ rfl rfl (fun h67 => ?_) (fun h67 => ?_)
          · refine En_Ps 1 (pc' := 80) (lv' := [(6, .int ((y33 + Int32.ofInt 1))), (0, .ref 0), (1, .int a), (2, .int z7), (3, .int z20), (4, .int z30), (5, .int y32)]) (st' := []) rfl ?_
            refine En_lv1 (addI rfl (by decide : (Int32.ofInt 1).toInt = 1) (by first | exact q_465ab79ac1 h43 | omega) (by first | exact q_f7282962fd h44 | omega)) (fun z68 h69 => ?_)
            refine En_Ps 1 (pc' := 41) (lv' := [(6, .int z68), (0, .ref 0), (1, .int a), (2, .int z7), (3, .int z20), (4, .int z30), (5, .int y32)]) (st' := []) rfl ?_
            refine En_lv (lv := [(0, .ref 0), (1, .int a), (2, .int z7), (3, .int z20), (4, .int z30), (5, .int y32), (6, .int z68)]) ⟨rfl, rfl, rfl, rfl, rfl, rfl, rfl, trivial⟩ ?_
            exact ih41 σ61 y32 z68 h62 h66 ((h63 _ _ (inW tgz_0 (by decide +kernel))).trans ((h55 _ _ (inW tgz_0 (by decide +kernel))).trans h37)) ((h63 _ _ (inW hp (by decide +kernel))).trans ((h55 _ _ (inW hp (by decide +kernel))).trans h38)) ((h63 _ _ (inW tgz_0 (by decide +kernel))).trans ((h55 _ _ (inW tgz_0 (by decide +kernel))).trans h39)) ((h63 _ _ (inWa tgz_150 (by decide +kernel))).trans ((h55 _ _ (inWa tgz_150 (by decide +kernel))).trans h40)) (by first | exact q_58e6e51dcc h41 | omega) (by first | exact q_5a4d8a7e08 h42 | omega) (by first | exact q_35104ce9d3 h69 h43 | omega) (by first | exact q_de42116b63 h69 h50 h49 | omega) (by first | exact q_3d8d70ace2 h69 h45 | omega)
          · refine En_Ps 4 (pc' := 74) (lv' := [(0, .ref 0), (1, .int a), (2, .int z7), (3, .int z20), (4, .int z30), (5, .int y32), (6, .int y33)]) (st' := [.int ((((Int32.ofInt 1)) <<< (y33 &&& 31))), .int y32]) rfl ?_
            refine En_rng (shl1_p 3 rfl (by omega) (by omega) (by decide)) (fun z70 h71 h72 => ?_)
            refine En_Ps 1 (pc' := 75) (lv' := [(0, .ref 0), (1, .int a), (2, .int z7), (3, .int z20), (4, .int z30), (5, .int y32), (6, .int y33)]) (st' := [.int ((y32 ||| z70))]) rfl ?_
            refine En_rng (l := 0) (u := 15) (or_rng 4 rfl rfl (by omega) (by omega) (by omega) (by omega) (by decide)) (fun z73 h74 h75 => ?_)
            refine En_Ps 2 (pc' := 80) (lv' := [(6, .int ((y33 + Int32.ofInt 1))), (5, .int z73), (0, .ref 0), (1, .int a), (2, .int z7), (3, .int z20), (4, .int z30)]) (st' := []) rfl ?_
            refine En_lv1 (addI rfl (by decide : (Int32.ofInt 1).toInt = 1) (by first | exact q_465ab79ac1 h43 | omega) (by first | exact q_f7282962fd h44 | omega)) (fun z76 h77 => ?_)
            refine En_Ps 1 (pc' := 41) (lv' := [(6, .int z76), (5, .int z73), (0, .ref 0), (1, .int a), (2, .int z7), (3, .int z20), (4, .int z30)]) (st' := []) rfl ?_
            refine En_lv (lv := [(0, .ref 0), (1, .int a), (2, .int z7), (3, .int z20), (4, .int z30), (5, .int z73), (6, .int z76)]) ⟨rfl, rfl, rfl, rfl, rfl, rfl, rfl, trivial⟩ ?_
            exact ih41 σ61 z73 z76 h62 h66 ((h63 _ _ (inW tgz_0 (by decide +kernel))).trans ((h55 _ _ (inW tgz_0 (by decide +kernel))).trans h37)) ((h63 _ _ (inW hp (by decide +kernel))).trans ((h55 _ _ (inW hp (by decide +kernel))).trans h38)) ((h63 _ _ (inW tgz_0 (by decide +kernel))).trans ((h55 _ _ (inW tgz_0 (by decide +kernel))).trans h39)) ((h63 _ _ (inWa tgz_150 (by decide +kernel))).trans ((h55 _ _ (inWa tgz_150 (by decide +kernel))).trans h40)) (by first | exact q_58e6e51dcc h74 | omega) (by first | exact q_5a4d8a7e08 h75 | omega) (by first | exact q_35104ce9d3 h77 h43 | omega) (by first | exact q_de42116b63 h77 h50 h49 | omega) (by first | exact q_3d8d70ace2 h77 h45 | omega)
    have := (by decide : (Int32.ofInt 0).toInt = 0)
    have := (by decide : (Int32.ofInt 0).toInt = 0)
    refine En_lv (lv := [(0, .ref 0), (1, .int a), (2, .int z7), (3, .int z20), (4, .int z30), (5, .int ((Int32.ofInt 0))), (6, .int ((Int32.ofInt 0)))]) ⟨rfl, rfl, rfl, rfl, rfl, rfl, rfl, trivial⟩ ?_
    exact key41 (Int.toNat (4) + 1) σ26 ((Int32.ofInt 0)) ((Int32.ofInt 0)) h27 h31 ((h28 _ _ (inW tgz_0 (by decide +kernel))).trans ((h18 _ _ (inW tgz_0 (by decide +kernel))).trans ((h5 _ _ (inW tgz_0 (by decide +kernel))).trans h_p))) ((h28 _ _ (inW hp (by decide +kernel))).trans ((h18 _ _ (inW hp (by decide +kernel))).trans ((h5 _ _ (inW hp (by decide +kernel))).trans h_sg))) ((h28 _ _ (inW tgz_0 (by decide +kernel))).trans ((h18 _ _ (inW tgz_0 (by decide +kernel))).trans h10)) ((h28 _ _ (inWa tgz_150 (by decide +kernel))).trans h22) (by decide) (by decide) (by decide) (by decide) (by first | exact toN_lt _ | omega)
  · refine En_Ps 1 (pc' := 11) (lv' := [(2, .int z7), (0, .ref 0), (1, .int a)]) (st' := [.int z7]) rfl ?_
    exact En_ret (v := some (.int z7)) rfl rfl rfl ⟨h4, h8, z7, rfl, ⟨by first | exact q_629d629181 h6.1 | omega, by first | exact q_c633bca181 h9 h6.2.1 | omega⟩⟩
/-- DoorSchool.sets(III)I -/
abbrev P_170 (σ0 : SG) (a : Int32) (b : Int32) (c : Int32) (p : Nat) (sg : Int32) : PO := fun v σ => WT σ ∧ Fr [] σ0 σ ∧ ∃ ret : Int32, v = some (.int ret) ∧ -ret.toInt - 2 ≤ 0 ∧ ret.toInt - 65536 ≤ 0
set_option maxRecDepth 10000 in
set_option maxHeartbeats 4000000 in
theorem c_170 (σ0 : SG) (hσ0 : WT σ0) (a : Int32) (b : Int32) (c : Int32) (p : Nat) (hp : TG p = 18) (h_p : (σ0 0)[9]? = some (.ref p)) (sg : Int32) (h_sg : (σ0 p)[1]? = some (.int sg)) (hp0 : -sg.toInt ≤ 0) : En 6 145 none mr_170 (P_170 σ0 a b c p sg) 0 [(0, .ref 0), (1, .int a), (2, .int b), (3, .int c)] [] σ0 := by
  obtain ⟨hl_sg, hu_sg⟩ := WT_int hσ0 (g := 18) hp (by decide +kernel) (l := (-1)) (u := 4) (by decide +kernel) h_sg
  have hF0 : Fr [] σ0 σ0 := Fr_rfl
  refine En_Ps 1 (pc' := 1) (lv' := [(0, .ref 0), (1, .int a), (2, .int b), (3, .int c)]) (st' := [.int a]) rfl ?_
  refine En_callS rfl rfl rfl rfl rfl rfl rfl rfl rfl (c_148 σ0 hσ0 a) (by decide) (by decide) (fun v2 σ3 h1 => ?_)
  obtain ⟨h4, h5, z7, rfl, h6⟩ := h1
  have h8 := Fr_trans hF0 h5 (by decide +kernel)
  refine En_iEq _ rfl rfl (fun h9 => ?_) (fun h9 => ?_)
  · refine En_Ps 1 (pc' := 30) (lv' := [(0, .ref 0), (1, .int a), (2, .int b), (3, .int c)]) (st' := [.int (((Int8.ofInt (-2)).toInt32))]) rfl ?_
    refine En_top (by decide : ((Int8.ofInt (-2)).toInt32).toInt = -2) (fun z10 h11 => ?_)
    exact En_ret (v := some (.int z10)) rfl rfl rfl ⟨h4, h8, z10, rfl, ⟨by first | exact q_f35c5d346c h11 | omega, by first | exact q_2eeef1728f h11 | omega⟩⟩
  · refine En_Ps 1 (pc' := 8) (lv' := [(0, .ref 0), (1, .int a), (2, .int b), (3, .int c)]) (st' := [.ref 0]) rfl ?_
    refine En_getK (j := 9) ((h5 _ _ (inW tgz_0 (by decide +kernel))).trans h_p) rfl rfl rfl tgz_0 (by decide +kernel) ?_
    refine En_Ps 1 (pc' := 12) (lv' := [(0, .ref 0), (1, .int a), (2, .int b), (3, .int c)]) (st' := [.int b, .ref p]) rfl ?_
    refine En_callV rfl rfl rfl rfl rfl rfl rfl rfl hp (by decide +kernel) rfl (c_46 σ3 h4 p hp b sg ((h5 _ _ (inW hp (by decide +kernel))).trans h_sg) (by first | exact q_a555021d16 hp0 | omega)) (by decide) (by decide) (fun v13 σ14 h12 => ?_)
    obtain ⟨h15, h16, z18, rfl, h17⟩ := h12
    have h19 := Fr_trans h8 h16 (by decide +kernel)
    refine En_iEq _ rfl rfl (fun h20 => ?_) (fun h20 => ?_)
    · refine En_Ps 1 (pc' := 30) (lv' := [(0, .ref 0), (1, .int a), (2, .int b), (3, .int c)]) (st' := [.int (((Int8.ofInt (-2)).toInt32))]) rfl ?_
      refine En_top (by decide : ((Int8.ofInt (-2)).toInt32).toInt = -2) (fun z21 h22 => ?_)
      exact En_ret (v := some (.int z21)) rfl rfl rfl ⟨h15, h19, z21, rfl, ⟨by first | exact q_f35c5d346c h22 | omega, by first | exact q_2eeef1728f h22 | omega⟩⟩
    · refine En_Ps 1 (pc' := 19) (lv' := [(0, .ref 0), (1, .int a), (2, .int b), (3, .int c)]) (st' := [.int c]) rfl ?_
      refine En_iLt _ rfl rfl (fun h23 => ?_) (fun h23 => ?_)
      · refine En_Ps 1 (pc' := 30) (lv' := [(0, .ref 0), (1, .int a), (2, .int b), (3, .int c)]) (st' := [.int (((Int8.ofInt (-2)).toInt32))]) rfl ?_
        refine En_top (by decide : ((Int8.ofInt (-2)).toInt32).toInt = -2) (fun z24 h25 => ?_)
        exact En_ret (v := some (.int z24)) rfl rfl rfl ⟨h15, h19, z24, rfl, ⟨by first | exact q_f35c5d346c h25 | omega, by first | exact q_2eeef1728f h25 | omega⟩⟩
      · refine En_Ps 2 (pc' := 25) (lv' := [(0, .ref 0), (1, .int a), (2, .int b), (3, .int c)]) (st' := [.int (((Int8.ofInt 16).toInt32)), .int c]) rfl ?_
        refine En_icLe _ rfl (by decide : ((Int8.ofInt 16).toInt32).toInt = 16) rfl (fun h26 => ?_) (fun h26 => ?_)
        · refine En_Ps 1 (pc' := 32) (lv' := [(0, .ref 0), (1, .int a), (2, .int b), (3, .int c)]) (st' := [.ref 0]) rfl ?_
          refine En_getU (j := 3) (u := 8) (g' := 8) (q := 0) rfl rfl rfl tgz_0 (by decide +kernel) h15 (by decide +kernel) (by decide +kernel) (fun h27 => ?_)
          refine En_Ps 3 (pc' := 38) (lv' := [(0, .ref 0), (1, .int a), (2, .int b), (3, .int c)]) (st' := [.int c, .int b, .int a, .ref 8]) rfl ?_
          refine En_callV rfl rfl rfl rfl rfl rfl rfl rfl tgz_8 (by decide +kernel) rfl (c_29 σ14 h15 a b c) (by decide) (by decide) (fun v30 σ31 h29 => ?_)
          obtain ⟨h32, h33, z35, rfl, h34⟩ := h29
          have h36 := Fr_trans h19 h33 (by decide +kernel)
          exact En_ret (v := some (.int z35)) rfl rfl rfl ⟨h32, h36, z35, rfl, ⟨by first | exact q_70a249c7f8 h34.1 | omega, by first | exact q_c5fc87f58a h34.2 | omega⟩⟩
        · refine En_Ps 1 (pc' := 30) (lv' := [(0, .ref 0), (1, .int a), (2, .int b), (3, .int c)]) (st' := [.int (((Int8.ofInt (-2)).toInt32))]) rfl ?_
          refine En_top (by decide : ((Int8.ofInt (-2)).toInt32).toInt = -2) (fun z37 h38 => ?_)
          exact En_ret (v := some (.int z37)) rfl rfl rfl ⟨h15, h19, z37, rfl, ⟨by first | exact q_f35c5d346c h38 | omega, by first | exact q_2eeef1728f h38 | omega⟩⟩
/-- DoorSchool.storm(III)I -/
abbrev P_172 (σ0 : SG) (a : Int32) (b : Int32) (c : Int32) (p : Nat) (sg : Int32) : PO := fun v σ => WT σ ∧ Fr [] σ0 σ ∧ ∃ ret : Int32, v = some (.int ret) ∧ True
set_option maxRecDepth 10000 in
set_option maxHeartbeats 4000000 in
theorem c_172 (σ0 : SG) (hσ0 : WT σ0) (a : Int32) (b : Int32) (c : Int32) (p : Nat) (hp : TG p = 18) (h_p : (σ0 0)[9]? = some (.ref p)) (sg : Int32) (h_sg : (σ0 p)[1]? = some (.int sg)) (hp0 : -sg.toInt ≤ 0) : En 5 118 none mr_172 (P_172 σ0 a b c p sg) 0 [(0, .ref 0), (1, .int a), (2, .int b), (3, .int c)] [] σ0 := by
  obtain ⟨hl_sg, hu_sg⟩ := WT_int hσ0 (g := 18) hp (by decide +kernel) (l := (-1)) (u := 4) (by decide +kernel) h_sg
  have hF0 : Fr [] σ0 σ0 := Fr_rfl
  refine En_Ps 1 (pc' := 1) (lv' := [(0, .ref 0), (1, .int a), (2, .int b), (3, .int c)]) (st' := [.int a]) rfl ?_
  refine En_callS rfl rfl rfl rfl rfl rfl rfl rfl rfl (c_146 σ0 hσ0 a) (by decide) (by decide) (fun v2 σ3 h1 => ?_)
  obtain ⟨h4, h5, z7, rfl, h6⟩ := h1
  have h8 := Fr_trans hF0 h5 (by decide +kernel)
  refine En_iEq _ rfl rfl (fun h9 => ?_) (fun h9 => ?_)
  · refine En_Ps 1 (pc' := 20) (lv' := [(0, .ref 0), (1, .int a), (2, .int b), (3, .int c)]) (st' := [.int (((Int8.ofInt (-2)).toInt32))]) rfl ?_
    refine En_top (by decide : ((Int8.ofInt (-2)).toInt32).toInt = -2) (fun z10 h11 => ?_)
    exact En_ret (v := some (.int z10)) rfl rfl rfl ⟨h4, h8, z10, rfl, trivial⟩
  · refine En_Ps 1 (pc' := 8) (lv' := [(0, .ref 0), (1, .int a), (2, .int b), (3, .int c)]) (st' := [.ref 0]) rfl ?_
    refine En_getK (j := 9) ((h5 _ _ (inW tgz_0 (by decide +kernel))).trans h_p) rfl rfl rfl tgz_0 (by decide +kernel) ?_
    refine En_Ps 1 (pc' := 12) (lv' := [(0, .ref 0), (1, .int a), (2, .int b), (3, .int c)]) (st' := [.int b, .ref p]) rfl ?_
    refine En_callV rfl rfl rfl rfl rfl rfl rfl rfl hp (by decide +kernel) rfl (c_47 σ3 h4 p hp b) (by decide) (by decide) (fun v13 σ14 h12 => ?_)
    obtain ⟨h15, h16, z18, rfl, h17⟩ := h12
    have h19 := Fr_trans h8 h16 (by decide +kernel)
    refine En_iNe _ rfl rfl (fun h20 => ?_) (fun h20 => ?_)
    · refine En_Ps 3 (pc' := 24) (lv' := [(0, .ref 0), (1, .int a), (2, .int b), (3, .int c)]) (st' := [.int b, .int a, .ref 0]) rfl ?_
      refine En_callV rfl rfl rfl rfl rfl rfl rfl rfl tgz_0 (by decide +kernel) rfl (c_115 σ14 h15 a b (geI rfl (by omega)) (leI rfl (by omega)) (geI rfl (by omega)) (leI rfl (by omega)) p hp ((h16 _ _ (inW tgz_0 (by decide +kernel))).trans ((h5 _ _ (inW tgz_0 (by decide +kernel))).trans h_p)) sg ((h16 _ _ (inW hp (by decide +kernel))).trans ((h5 _ _ (inW hp (by decide +kernel))).trans h_sg)) (by first | exact q_a555021d16 hp0 | omega)) (by decide) (by decide) (fun v22 σ23 h21 => ?_)
      obtain ⟨h24, h25, z27, rfl, h26⟩ := h21
      have h28 := Fr_trans h19 h25 (by decide +kernel)
      refine En_Ps 2 (pc' := 30) (lv' := [(4, .int z27), (0, .ref 0), (1, .int a), (2, .int b), (3, .int c)]) (st' := [.int c]) rfl ?_
      rcases (show c.toInt = 0 ∨ c.toInt = 1 ∨ c.toInt = 2 ∨ c.toInt < 0 ∨ 2 < c.toInt by omega) with h29 | h29 | h29 | h29 | h29
      · refine En_swI (t := 56) (n := 0) rfl h29 rfl (by decide +kernel) ?_
        refine En_Ps 1 (pc' := 58) (lv' := [(4, .int z27), (0, .ref 0), (1, .int a), (2, .int b), (3, .int c)]) (st' := [.int z27]) rfl ?_
        exact En_ret (v := some (.int z27)) rfl rfl rfl ⟨h24, h28, z27, rfl, trivial⟩
      · refine En_swI (t := 59) (n := 1) rfl h29 rfl (by decide +kernel) ?_
        refine En_Ps 2 (pc' := 62) (lv' := [(4, .int z27), (0, .ref 0), (1, .int a), (2, .int b), (3, .int c)]) (st' := [.int z27, .ref 0]) rfl ?_
        refine En_callV rfl rfl rfl rfl rfl rfl rfl rfl tgz_0 (by decide +kernel) rfl (c_156 σ23 h24 z27 p hp ((h25 _ _ (inW tgz_0 (by decide +kernel))).trans ((h16 _ _ (inW tgz_0 (by decide +kernel))).trans ((h5 _ _ (inW tgz_0 (by decide +kernel))).trans h_p))) sg ((h25 _ _ (inW hp (by decide +kernel))).trans ((h16 _ _ (inW hp (by decide +kernel))).trans ((h5 _ _ (inW hp (by decide +kernel))).trans h_sg))) (by first | exact q_a555021d16 hp0 | omega)) (by decide) (by decide) (fun v31 σ32 h30 => ?_)
        obtain ⟨h33, h34, z36, rfl, h35⟩ := h30
        have h37 := Fr_trans h28 h34 (by decide +kernel)
        exact En_ret (v := some (.int z36)) rfl rfl rfl ⟨h33, h37, z36, rfl, trivial⟩
      · refine En_swI (t := 66) (n := 2) rfl h29 rfl (by decide +kernel) ?_
        refine En_Ps 3 (pc' := 70) (lv' := [(4, .int z27), (0, .ref 0), (1, .int a), (2, .int b), (3, .int c)]) (st' := [.int b, .ref 0, .int z27]) rfl ?_
        refine En_callV rfl rfl rfl rfl rfl rfl rfl rfl tgz_0 (by decide +kernel) rfl (c_114 σ23 h24 b (geI rfl (by omega)) (leI rfl (by omega)) p hp ((h25 _ _ (inW tgz_0 (by decide +kernel))).trans ((h16 _ _ (inW tgz_0 (by decide +kernel))).trans ((h5 _ _ (inW tgz_0 (by decide +kernel))).trans h_p))) sg ((h25 _ _ (inW hp (by decide +kernel))).trans ((h16 _ _ (inW hp (by decide +kernel))).trans ((h5 _ _ (inW hp (by decide +kernel))).trans h_sg))) (by first | exact q_a555021d16 hp0 | omega)) (by decide) (by decide) (fun v39 σ40 h38 => ?_)
        obtain ⟨h41, h42, z44, rfl, h43⟩ := h38
        have h45 := Fr_trans h28 h42 (by decide +kernel)
        refine En_Ps 1 (pc' := 74) (lv' := [(4, .int z27), (0, .ref 0), (1, .int a), (2, .int b), (3, .int c)]) (st' := [.int ((z27 ^^^ z44))]) rfl ?_
        refine En_hav (fun z46 => ?_)
        refine En_callS rfl rfl rfl rfl rfl rfl rfl rfl rfl (c_7 σ40 h41 z46) (by decide) (by decide) (fun v48 σ49 h47 => ?_)
        obtain ⟨h50, h51, z53, rfl, h52⟩ := h47
        have h54 := Fr_trans h45 h51 (by decide +kernel)
        exact En_ret (v := some (.int z53)) rfl rfl rfl ⟨h50, h54, z53, rfl, trivial⟩
      · refine En_swO (t := 78) rfl (by omega) rfl (by decide +kernel) ?_
        refine En_Ps 1 (pc' := 80) (lv' := [(4, .int z27), (0, .ref 0), (1, .int a), (2, .int b), (3, .int c)]) (st' := [.int (((Int8.ofInt (-2)).toInt32))]) rfl ?_
        refine En_top (by decide : ((Int8.ofInt (-2)).toInt32).toInt = -2) (fun z55 h56 => ?_)
        exact En_ret (v := some (.int z55)) rfl rfl rfl ⟨h24, h28, z55, rfl, trivial⟩
      · refine En_swO (t := 78) rfl (by omega) rfl (by decide +kernel) ?_
        refine En_Ps 1 (pc' := 80) (lv' := [(4, .int z27), (0, .ref 0), (1, .int a), (2, .int b), (3, .int c)]) (st' := [.int (((Int8.ofInt (-2)).toInt32))]) rfl ?_
        refine En_top (by decide : ((Int8.ofInt (-2)).toInt32).toInt = -2) (fun z57 h58 => ?_)
        exact En_ret (v := some (.int z57)) rfl rfl rfl ⟨h24, h28, z57, rfl, trivial⟩
    · refine En_Ps 1 (pc' := 20) (lv' := [(0, .ref 0), (1, .int a), (2, .int b), (3, .int c)]) (st' := [.int (((Int8.ofInt (-2)).toInt32))]) rfl ?_
      refine En_top (by decide : ((Int8.ofInt (-2)).toInt32).toInt = -2) (fun z59 h60 => ?_)
      exact En_ret (v := some (.int z59)) rfl rfl rfl ⟨h15, h19, z59, rfl, trivial⟩
/-- DoorSchool.sure(II)I -/
abbrev P_173 (σ0 : SG) (a : Int32) (b : Int32) (p : Nat) (sg : Int32) : PO := fun v σ => WT σ ∧ Fr [] σ0 σ ∧ ∃ ret : Int32, v = some (.int ret) ∧ -ret.toInt - 6 ≤ 0 ∧ ret.toInt - 65535 ≤ 0
set_option maxRecDepth 10000 in
set_option maxHeartbeats 4000000 in
theorem c_173 (σ0 : SG) (hσ0 : WT σ0) (a : Int32) (b : Int32) (p : Nat) (hp : TG p = 18) (h_p : (σ0 0)[9]? = some (.ref p)) (sg : Int32) (h_sg : (σ0 p)[1]? = some (.int sg)) (hp0 : -sg.toInt ≤ 0) : En 2 47 none mr_173 (P_173 σ0 a b p sg) 0 [(0, .ref 0), (1, .int a), (2, .int b)] [] σ0 := by
  obtain ⟨hl_sg, hu_sg⟩ := WT_int hσ0 (g := 18) hp (by decide +kernel) (l := (-1)) (u := 4) (by decide +kernel) h_sg
  have hF0 : Fr [] σ0 σ0 := Fr_rfl
  refine En_Ps 1 (pc' := 1) (lv' := [(0, .ref 0), (1, .int a), (2, .int b)]) (st' := [.int b]) rfl ?_
  refine En_callS rfl rfl rfl rfl rfl rfl rfl rfl rfl (c_149 σ0 hσ0 b) (by decide) (by decide) (fun v2 σ3 h1 => ?_)
  obtain ⟨h4, h5, z7, rfl, h6⟩ := h1
  have h8 := Fr_trans hF0 h5 (by decide +kernel)
  refine En_iEq _ rfl rfl (fun h9 => ?_) (fun h9 => ?_)
  · refine En_Ps 3 (pc' := 19) (lv' := [(3, .int (((Int8.ofInt (-2)).toInt32))), (0, .ref 0), (1, .int a), (2, .int b)]) (st' := [.int (((Int8.ofInt (-2)).toInt32))]) rfl ?_
    refine En_iEq _ (by decide : ((Int8.ofInt (-2)).toInt32).toInt = -2) rfl (fun hx => by first | exact (q_5b19fa5313 hx).elim | (exfalso; omega)) (fun h10 => ?_)
    refine En_Ps 1 (pc' := 23) (lv' := [(3, .int (((Int8.ofInt (-2)).toInt32))), (0, .ref 0), (1, .int a), (2, .int b)]) (st' := [.int (((Int8.ofInt (-2)).toInt32))]) rfl ?_
    refine En_top (by decide : ((Int8.ofInt (-2)).toInt32).toInt = -2) (fun z11 h12 => ?_)
    exact En_ret (v := some (.int z11)) rfl rfl rfl ⟨h4, h8, z11, rfl, ⟨by first | exact q_2583522324 h12 | omega, by first | exact q_7aab8371ca h12 | omega⟩⟩
  · refine En_Ps 2 (pc' := 9) (lv' := [(0, .ref 0), (1, .int a), (2, .int b)]) (st' := [.int a, .ref 0]) rfl ?_
    refine En_callV rfl rfl rfl rfl rfl rfl rfl rfl tgz_0 (by decide +kernel) rfl (c_180 σ3 h4 a p hp ((h5 _ _ (inW tgz_0 (by decide +kernel))).trans h_p) sg ((h5 _ _ (inW hp (by decide +kernel))).trans h_sg) (by first | exact q_a555021d16 hp0 | omega)) (by decide) (by decide) (fun v14 σ15 h13 => ?_)
    obtain ⟨h16, h17, z19, rfl, h18⟩ := h13
    have h20 := Fr_trans h8 h17 (by decide +kernel)
    refine En_Ps 3 (pc' := 19) (lv' := [(3, .int z19), (0, .ref 0), (1, .int a), (2, .int b)]) (st' := [.int z19]) rfl ?_
    refine En_iEq _ rfl rfl (fun h21 => ?_) (fun h21 => ?_)
    · refine En_Ps 1 (pc' := 25) (lv' := [(3, .int z19), (0, .ref 0), (1, .int a), (2, .int b)]) (st' := [.ref 0]) rfl ?_
      refine En_getU (j := 2) (u := 4) (g' := 4) (q := 0) rfl rfl rfl tgz_0 (by decide +kernel) h16 (by decide +kernel) (by decide +kernel) (fun h22 => ?_)
      refine En_Ps 1 (pc' := 29) (lv' := [(3, .int z19), (0, .ref 0), (1, .int a), (2, .int b)]) (st' := [.ref 0, .ref 4]) rfl ?_
      refine En_getU (j := 6) (u := 150) (g' := 32) (q := 0) rfl rfl rfl tgz_0 (by decide +kernel) h16 (by decide +kernel) (by decide +kernel) (fun h24 => ?_)
      refine En_Ps 1 (pc' := 33) (lv' := [(3, .int z19), (0, .ref 0), (1, .int a), (2, .int b)]) (st' := [.int a, .ref 150, .ref 4]) rfl ?_
      refine En_aald (g' := 33) (u := 0) rfl rfl tgz_150 (by decide +kernel) h16 (by omega) (lnI (by decide +kernel : LN _ = 4) (by omega)) (FTsgl (by decide +kernel)) (fun a27 h26 ha27 => ?_)
      refine En_Ps 1 (pc' := 35) (lv' := [(3, .int z19), (0, .ref 0), (1, .int a), (2, .int b)]) (st' := [.int ((Int32.ofInt 1)), .ref a27, .ref 4]) rfl ?_
      have := (by decide : ((Int32.ofInt 1)).toInt = 1)
      refine En_callV rfl rfl rfl rfl rfl rfl rfl rfl ha27 (by decide +kernel) rfl (c_89 σ15 h16 a27 ha27 ((Int32.ofInt 1))) (by decide) (by decide) (fun v29 σ30 h28 => ?_)
      obtain ⟨h31, h32, z34, rfl, h33⟩ := h28
      have h35 := Fr_trans h20 h32 (by decide +kernel)
      refine En_Ps 1 (pc' := 39) (lv' := [(3, .int z19), (0, .ref 0), (1, .int a), (2, .int b)]) (st' := [.ref 0, .int z34, .ref 4]) rfl ?_
      refine En_getK (j := 6) ((h32 _ _ (inW tgz_0 (by decide +kernel))).trans h24) rfl rfl rfl tgz_0 (by decide +kernel) ?_
      refine En_Ps 1 (pc' := 43) (lv' := [(3, .int z19), (0, .ref 0), (1, .int a), (2, .int b)]) (st' := [.int a, .ref 150, .int z34, .ref 4]) rfl ?_
      refine En_aald (g' := 33) (u := 0) rfl rfl tgz_150 (by decide +kernel) h31 (by omega) (lnI (by decide +kernel : LN _ = 4) (by omega)) (FTsgl (by decide +kernel)) (fun a37 h36 ha37 => ?_)
      refine En_Ps 1 (pc' := 45) (lv' := [(3, .int z19), (0, .ref 0), (1, .int a), (2, .int b)]) (st' := [.int ((Int32.ofInt 0)), .ref a37, .int z34, .ref 4]) rfl ?_
      have := (by decide : ((Int32.ofInt 0)).toInt = 0)
      refine En_callV rfl rfl rfl rfl rfl rfl rfl rfl ha37 (by decide +kernel) rfl (c_89 σ30 h31 a37 ha37 ((Int32.ofInt 0))) (by decide) (by decide) (fun v39 σ40 h38 => ?_)
      obtain ⟨h41, h42, z44, rfl, h43⟩ := h38
      have h45 := Fr_trans h35 h42 (by decide +kernel)
      refine En_Ps 1 (pc' := 49) (lv' := [(3, .int z19), (0, .ref 0), (1, .int a), (2, .int b)]) (st' := [.int b, .int z44, .int z34, .ref 4]) rfl ?_
      refine En_iNe _ rfl rfl (fun h46 => ?_) (fun h46 => ?_)
      · refine En_Ps 1 (pc' := 57) (lv' := [(3, .int z19), (0, .ref 0), (1, .int a), (2, .int b)]) (st' := [.int ((Int32.ofInt 0)), .int z44, .int z34, .ref 4]) rfl ?_
        have := (by decide : ((Int32.ofInt 0)).toInt = 0)
        refine En_callV rfl rfl rfl rfl rfl rfl rfl rfl tgz_4 (by decide +kernel) rfl (c_83 σ40 h41 z34 z44 ((Int32.ofInt 0)) (geI (by decide : (Int32.ofInt 0).toInt = 0) (by decide)) (leI (by decide : (Int32.ofInt 0).toInt = 0) (by decide))) (by decide) (by decide) (fun v48 σ49 h47 => ?_)
        obtain ⟨h50, h51, z53, rfl, h52⟩ := h47
        have h54 := Fr_trans h45 h51 (by decide +kernel)
        exact En_ret (v := some (.int z53)) rfl rfl rfl ⟨h50, h54, z53, rfl, ⟨by first | exact q_8061444f0d h52.1 | omega, by first | exact q_ef123ba13c h52.2 | omega⟩⟩
      · refine En_Ps 2 (pc' := 57) (lv' := [(3, .int z19), (0, .ref 0), (1, .int a), (2, .int b)]) (st' := [.int ((Int32.ofInt 1)), .int z44, .int z34, .ref 4]) rfl ?_
        have := (by decide : ((Int32.ofInt 1)).toInt = 1)
        refine En_callV rfl rfl rfl rfl rfl rfl rfl rfl tgz_4 (by decide +kernel) rfl (c_83 σ40 h41 z34 z44 ((Int32.ofInt 1)) (geI (by decide : (Int32.ofInt 1).toInt = 1) (by decide)) (leI (by decide : (Int32.ofInt 1).toInt = 1) (by decide))) (by decide) (by decide) (fun v56 σ57 h55 => ?_)
        obtain ⟨h58, h59, z61, rfl, h60⟩ := h55
        have h62 := Fr_trans h45 h59 (by decide +kernel)
        exact En_ret (v := some (.int z61)) rfl rfl rfl ⟨h58, h62, z61, rfl, ⟨by first | exact q_8061444f0d h60.1 | omega, by first | exact q_ef123ba13c h60.2 | omega⟩⟩
    · refine En_Ps 1 (pc' := 23) (lv' := [(3, .int z19), (0, .ref 0), (1, .int a), (2, .int b)]) (st' := [.int z19]) rfl ?_
      exact En_ret (v := some (.int z19)) rfl rfl rfl ⟨h16, h20, z19, rfl, ⟨by first | exact q_629d629181 h18.1 | omega, by first | exact q_7c313bac4c h21 h18.2.1 | omega⟩⟩
/-- DoorSchool.teacher()I -/
abbrev P_175 (σ0 : SG) (p : Nat) (sg : Int32) : PO := fun v σ => WT σ ∧ Fr [(14, 3), (14, 4), (15, 0), (16, 0), (17, 0)] σ0 σ ∧ ∃ ret : Int32, v = some (.int ret) ∧ -ret.toInt - 1000 ≤ 0 ∧ ret.toInt - 1000 ≤ 0
set_option maxRecDepth 10000 in
set_option maxHeartbeats 4000000 in
theorem c_175 (σ0 : SG) (hσ0 : WT σ0) (p : Nat) (hp : TG p = 18) (h_p : (σ0 0)[9]? = some (.ref p)) (sg : Int32) (h_sg : (σ0 p)[1]? = some (.int sg)) (hp0 : -sg.toInt ≤ 0) : En 11 292 none mr_175 (P_175 σ0 p sg) 0 [(0, .ref 0)] [] σ0 := by
  obtain ⟨hl_sg, hu_sg⟩ := WT_int hσ0 (g := 18) hp (by decide +kernel) (l := (-1)) (u := 4) (by decide +kernel) h_sg
  have hF0 : Fr [(14, 3), (14, 4), (15, 0), (16, 0), (17, 0)] σ0 σ0 := Fr_rfl
  refine En_Ps 1 (pc' := 1) (lv' := [(0, .ref 0)]) (st' := [.ref 0]) rfl ?_
  refine En_getK (j := 9) h_p rfl rfl rfl tgz_0 (by decide +kernel) ?_
  refine En_callV rfl rfl rfl rfl rfl rfl rfl rfl hp (by decide +kernel) rfl (c_43 σ0 hσ0 p hp) (by decide) (by decide) (fun v2 σ3 h1 => ?_)
  obtain ⟨h4, h5, z7, rfl, h6⟩ := h1
  have h8 := Fr_trans hF0 h5 (by decide +kernel)
  refine En_iNe _ rfl rfl (fun h9 => ?_) (fun h9 => ?_)
  · refine En_Ps 1 (pc' := 14) (lv' := [(0, .ref 0)]) (st' := [.ref 0]) rfl ?_
    refine En_getU (j := 5) (u := 14) (g' := 14) (q := 0) rfl rfl rfl tgz_0 (by decide +kernel) h4 (by decide +kernel) (by decide +kernel) (fun h10 => ?_)
    refine En_Ps 1 (pc' := 18) (lv' := [(0, .ref 0)]) (st' := [.ref 0, .ref 14]) rfl ?_
    refine En_getK (j := 9) ((h5 _ _ (inW tgz_0 (by decide +kernel))).trans h_p) rfl rfl rfl tgz_0 (by decide +kernel) ?_
    refine En_Ps 1 (pc' := 22) (lv' := [(0, .ref 0)]) (st' := [.ref 0, .ref p, .ref 14]) rfl ?_
    refine En_getK (j := 9) ((h5 _ _ (inW tgz_0 (by decide +kernel))).trans h_p) rfl rfl rfl tgz_0 (by decide +kernel) ?_
    refine En_getI (j := 2) (l := (-1)) (u := 3) rfl rfl rfl hp (by decide +kernel) h4 (by decide +kernel) (fun z13 h12 h14 h15 => ?_)
    refine En_callV rfl rfl rfl rfl rfl rfl rfl rfl tgz_14 (by decide +kernel) rfl (c_98 σ3 h4 p hp z13 (geI rfl (by first | exact q_77b189e83d h14 | omega)) (leI rfl (by first | exact q_571ae29550 h15 | omega))) (by decide) (by decide) (fun v17 σ18 h16 => ?_)
    obtain ⟨h19, h20, z22, rfl, h21⟩ := h16
    have h23 := Fr_trans h8 h20 (by decide +kernel)
    refine En_Ps 1 (pc' := 32) (lv' := [(0, .ref 0)]) (st' := [.ref 0, .int z22]) rfl ?_
    refine En_getK (j := 5) ((h20 _ _ (inW tgz_0 (by decide +kernel))).trans h10) rfl rfl rfl tgz_0 (by decide +kernel) ?_
    refine En_Ps 1 (pc' := 36) (lv' := [(0, .ref 0)]) (st' := [.ref 0, .ref 14, .int z22]) rfl ?_
    refine En_getK (j := 9) ((h20 _ _ (inW tgz_0 (by decide +kernel))).trans ((h5 _ _ (inW tgz_0 (by decide +kernel))).trans h_p)) rfl rfl rfl tgz_0 (by decide +kernel) ?_
    refine En_Ps 1 (pc' := 40) (lv' := [(0, .ref 0)]) (st' := [.ref 0, .ref p, .ref 14, .int z22]) rfl ?_
    refine En_getK (j := 9) ((h20 _ _ (inW tgz_0 (by decide +kernel))).trans ((h5 _ _ (inW tgz_0 (by decide +kernel))).trans h_p)) rfl rfl rfl tgz_0 (by decide +kernel) ?_
    refine En_getK (j := 2) ((h20 _ _ (inW hp (by decide +kernel))).trans h12) rfl rfl rfl hp (by decide +kernel) ?_
    refine En_Ps 2 (pc' := 48) (lv' := [(0, .ref 0)]) (st' := [.int ((z13 + ((Int32.ofInt 1)))), .ref p, .ref 14, .int z22]) rfl ?_
    refine En_top (addI rfl (by decide : (Int32.ofInt 1).toInt = 1) (by first | exact q_5236ee192b h14 | omega) (by first | exact q_30821ffab8 h15 | omega)) (fun z24 h25 => ?_)
    refine En_callV rfl rfl rfl rfl rfl rfl rfl rfl tgz_14 (by decide +kernel) rfl (c_98 σ18 h19 p hp z24 (geI rfl (by first | exact q_2df21898e4 h25 h14 | omega)) (leI rfl (by first | exact q_3d6de704c2 h25 h15 | omega))) (by decide) (by decide) (fun v27 σ28 h26 => ?_)
    obtain ⟨h29, h30, z32, rfl, h31⟩ := h26
    have h33 := Fr_trans h23 h30 (by decide +kernel)
    refine En_Ps 1 (pc' := 52) (lv' := [(0, .ref 0)]) (st' := [.int ((z22 - z32))]) rfl ?_
    refine En_top (subI rfl rfl (by first | exact q_af337f4dc9 h21.1 h31.2 | omega) (by first | exact q_3f5fcd62a2 h21.2 h31.1 | omega)) (fun z34 h35 => ?_)
    exact En_ret (v := some (.int z34)) rfl rfl rfl ⟨h29, h33, z34, rfl, ⟨by first | exact q_859da2f9a5 h35 h21.1 h31.2 | omega, by first | exact q_95980b6087 h35 h21.2 h31.1 | omega⟩⟩
  · refine En_Ps 1 (pc' := 12) (lv' := [(0, .ref 0)]) (st' := [.int (((Int8.ofInt (-2)).toInt32))]) rfl ?_
    refine En_top (by decide : ((Int8.ofInt (-2)).toInt32).toInt = -2) (fun z36 h37 => ?_)
    exact En_ret (v := some (.int z36)) rfl rfl rfl ⟨h4, h8, z36, rfl, ⟨by first | exact q_4f403e2227 h37 | omega, by first | exact q_a2119e8b7a h37 | omega⟩⟩
/-- DoorSchool.told(II)I -/
abbrev P_176 (σ0 : SG) (a : Int32) (b : Int32) (p : Nat) (sg : Int32) : PO := fun v σ => WT σ ∧ Fr [] σ0 σ ∧ ∃ ret : Int32, v = some (.int ret) ∧ -ret.toInt - 2 ≤ 0 ∧ ret.toInt - 15 ≤ 0
set_option maxRecDepth 10000 in
set_option maxHeartbeats 4000000 in
theorem c_176 (σ0 : SG) (hσ0 : WT σ0) (a : Int32) (b : Int32) (p : Nat) (hp : TG p = 18) (h_p : (σ0 0)[9]? = some (.ref p)) (sg : Int32) (h_sg : (σ0 p)[1]? = some (.int sg)) (hp0 : -sg.toInt ≤ 0) : En 2 41 none mr_176 (P_176 σ0 a b p sg) 0 [(0, .ref 0), (1, .int a), (2, .int b)] [] σ0 := by
  obtain ⟨hl_sg, hu_sg⟩ := WT_int hσ0 (g := 18) hp (by decide +kernel) (l := (-1)) (u := 4) (by decide +kernel) h_sg
  have hF0 : Fr [] σ0 σ0 := Fr_rfl
  refine En_Ps 1 (pc' := 1) (lv' := [(0, .ref 0), (1, .int a), (2, .int b)]) (st' := [.ref 0]) rfl ?_
  refine En_getK (j := 9) h_p rfl rfl rfl tgz_0 (by decide +kernel) ?_
  refine En_Ps 1 (pc' := 5) (lv' := [(0, .ref 0), (1, .int a), (2, .int b)]) (st' := [.int a, .ref p]) rfl ?_
  refine En_callV rfl rfl rfl rfl rfl rfl rfl rfl hp (by decide +kernel) rfl (c_46 σ0 hσ0 p hp a sg h_sg (by first | exact q_a555021d16 hp0 | omega)) (by decide) (by decide) (fun v2 σ3 h1 => ?_)
  obtain ⟨h4, h5, z7, rfl, h6⟩ := h1
  have h8 := Fr_trans hF0 h5 (by decide +kernel)
  refine En_iEq _ rfl rfl (fun h9 => ?_) (fun h9 => ?_)
  · refine En_Ps 1 (pc' := 20) (lv' := [(0, .ref 0), (1, .int a), (2, .int b)]) (st' := [.int (((Int8.ofInt (-2)).toInt32))]) rfl ?_
    refine En_top (by decide : ((Int8.ofInt (-2)).toInt32).toInt = -2) (fun z10 h11 => ?_)
    exact En_ret (v := some (.int z10)) rfl rfl rfl ⟨h4, h8, z10, rfl, ⟨by first | exact q_f35c5d346c h11 | omega, by first | exact q_12a74e12a3 h11 | omega⟩⟩
  · refine En_Ps 1 (pc' := 12) (lv' := [(0, .ref 0), (1, .int a), (2, .int b)]) (st' := [.int b]) rfl ?_
    refine En_callS rfl rfl rfl rfl rfl rfl rfl rfl rfl (c_149 σ3 h4 b) (by decide) (by decide) (fun v13 σ14 h12 => ?_)
    obtain ⟨h15, h16, z18, rfl, h17⟩ := h12
    have h19 := Fr_trans h8 h16 (by decide +kernel)
    refine En_iNe _ rfl rfl (fun h20 => ?_) (fun h20 => ?_)
    · refine En_Ps 1 (pc' := 22) (lv' := [(0, .ref 0), (1, .int a), (2, .int b)]) (st' := [.ref 0]) rfl ?_
      refine En_getU (j := 2) (u := 4) (g' := 4) (q := 0) rfl rfl rfl tgz_0 (by decide +kernel) h15 (by decide +kernel) (by decide +kernel) (fun h21 => ?_)
      refine En_Ps 1 (pc' := 26) (lv' := [(0, .ref 0), (1, .int a), (2, .int b)]) (st' := [.int a, .ref 4]) rfl ?_
      refine En_callV rfl rfl rfl rfl rfl rfl rfl rfl tgz_4 (by decide +kernel) rfl (c_81 σ14 h15 a) (by decide) (by decide) (fun v24 σ25 h23 => ?_)
      obtain ⟨h26, h27, z29, rfl, h28⟩ := h23
      have h30 := Fr_trans h19 h27 (by decide +kernel)
      refine En_Ps 3 (pc' := 32) (lv' := [(3, .int z29), (0, .ref 0), (1, .int a), (2, .int b)]) (st' := [.int ((Int32.ofInt (-1))), .int z29]) rfl ?_
      refine En_icNe _ rfl (by decide : (Int32.ofInt (-1)).toInt = -1) rfl (fun h31 => ?_) (fun h31 => ?_)
      · refine En_Ps 1 (pc' := 38) (lv' := [(3, .int z29), (0, .ref 0), (1, .int a), (2, .int b)]) (st' := [.int b]) rfl ?_
        refine En_iNe _ rfl rfl (fun h32 => ?_) (fun h32 => ?_)
        · refine En_Ps 1 (pc' := 54) (lv' := [(3, .int z29), (0, .ref 0), (1, .int a), (2, .int b)]) (st' := [.ref 0]) rfl ?_
          refine En_getK (j := 2) ((h27 _ _ (inW tgz_0 (by decide +kernel))).trans h21) rfl rfl rfl tgz_0 (by decide +kernel) ?_
          refine En_getU (j := 3) (u := 6) (g' := 6) (q := 0) rfl rfl rfl tgz_4 (by decide +kernel) h26 (by decide +kernel) (by decide +kernel) (fun h33 => ?_)
          refine En_Ps 1 (pc' := 61) (lv' := [(3, .int z29), (0, .ref 0), (1, .int a), (2, .int b)]) (st' := [.int z29, .ref 6]) rfl ?_
          refine En_iald (l := 0) (u := 15) rfl rfl tgz_6 (by decide +kernel) h26 (by first | exact q_b1cade0df5 h31 h28.1 | omega) (lnI (by decide +kernel : LN _ = 81) (by first | exact q_3ac9ed8367 h28.2 | omega)) (FTsgl (by decide +kernel)) (fun z36 h35 h37 h38 => ?_)
          exact En_ret (v := some (.int z36)) rfl rfl rfl ⟨h26, h30, z36, rfl, ⟨by first | exact q_ea7f0ffdb1 h37 | omega, by first | exact q_867a9ac627 h38 | omega⟩⟩
        · refine En_Ps 1 (pc' := 42) (lv' := [(3, .int z29), (0, .ref 0), (1, .int a), (2, .int b)]) (st' := [.ref 0]) rfl ?_
          refine En_getK (j := 2) ((h27 _ _ (inW tgz_0 (by decide +kernel))).trans h21) rfl rfl rfl tgz_0 (by decide +kernel) ?_
          refine En_getU (j := 2) (u := 5) (g' := 5) (q := 0) rfl rfl rfl tgz_4 (by decide +kernel) h26 (by decide +kernel) (by decide +kernel) (fun h39 => ?_)
          refine En_Ps 1 (pc' := 49) (lv' := [(3, .int z29), (0, .ref 0), (1, .int a), (2, .int b)]) (st' := [.int z29, .ref 5]) rfl ?_
          refine En_iald (l := 0) (u := 15) rfl rfl tgz_5 (by decide +kernel) h26 (by first | exact q_b1cade0df5 h31 h28.1 | omega) (lnI (by decide +kernel : LN _ = 81) (by first | exact q_3ac9ed8367 h28.2 | omega)) (FTsgl (by decide +kernel)) (fun z42 h41 h43 h44 => ?_)
          refine En_Ps 1 (pc' := 62) (lv' := [(3, .int z29), (0, .ref 0), (1, .int a), (2, .int b)]) (st' := [.int z42]) rfl ?_
          exact En_ret (v := some (.int z42)) rfl rfl rfl ⟨h26, h30, z42, rfl, ⟨by first | exact q_ea7f0ffdb1 h43 | omega, by first | exact q_867a9ac627 h44 | omega⟩⟩
      · refine En_Ps 1 (pc' := 36) (lv' := [(3, .int z29), (0, .ref 0), (1, .int a), (2, .int b)]) (st' := [.int ((Int32.ofInt (-1)))]) rfl ?_
        refine En_top (by decide : (Int32.ofInt (-1)).toInt = -1) (fun z45 h46 => ?_)
        exact En_ret (v := some (.int z45)) rfl rfl rfl ⟨h26, h30, z45, rfl, ⟨by first | exact q_e1de8c7867 h46 | omega, by first | exact q_af62099904 h46 | omega⟩⟩
    · refine En_Ps 1 (pc' := 20) (lv' := [(0, .ref 0), (1, .int a), (2, .int b)]) (st' := [.int (((Int8.ofInt (-2)).toInt32))]) rfl ?_
      refine En_top (by decide : ((Int8.ofInt (-2)).toInt32).toInt = -2) (fun z47 h48 => ?_)
      exact En_ret (v := some (.int z47)) rfl rfl rfl ⟨h15, h19, z47, rfl, ⟨by first | exact q_f35c5d346c h48 | omega, by first | exact q_12a74e12a3 h48 | omega⟩⟩
/-- DoorSchool.trick(II)I -/
abbrev P_178 (σ0 : SG) (a : Int32) (b : Int32) (p : Nat) (sg : Int32) : PO := fun v σ => WT σ ∧ Fr [] σ0 σ ∧ ∃ ret : Int32, v = some (.int ret) ∧ -ret.toInt - 2 ≤ 0 ∧ ret.toInt - 15 ≤ 0
set_option maxRecDepth 10000 in
set_option maxHeartbeats 4000000 in
theorem c_178 (σ0 : SG) (hσ0 : WT σ0) (a : Int32) (b : Int32) (p : Nat) (hp : TG p = 18) (h_p : (σ0 0)[9]? = some (.ref p)) (sg : Int32) (h_sg : (σ0 p)[1]? = some (.int sg)) (hp0 : -sg.toInt ≤ 0) : En 4 92 none mr_178 (P_178 σ0 a b p sg) 0 [(0, .ref 0), (1, .int a), (2, .int b)] [] σ0 := by
  obtain ⟨hl_sg, hu_sg⟩ := WT_int hσ0 (g := 18) hp (by decide +kernel) (l := (-1)) (u := 4) (by decide +kernel) h_sg
  have hF0 : Fr [] σ0 σ0 := Fr_rfl
  refine En_Ps 1 (pc' := 1) (lv' := [(0, .ref 0), (1, .int a), (2, .int b)]) (st' := [.ref 0]) rfl ?_
  refine En_getK (j := 9) h_p rfl rfl rfl tgz_0 (by decide +kernel) ?_
  refine En_Ps 1 (pc' := 5) (lv' := [(0, .ref 0), (1, .int a), (2, .int b)]) (st' := [.int a, .ref p]) rfl ?_
  refine En_callV rfl rfl rfl rfl rfl rfl rfl rfl hp (by decide +kernel) rfl (c_47 σ0 hσ0 p hp a) (by decide) (by decide) (fun v2 σ3 h1 => ?_)
  obtain ⟨h4, h5, z7, rfl, h6⟩ := h1
  have h8 := Fr_trans hF0 h5 (by decide +kernel)
  refine En_iEq _ rfl rfl (fun h9 => ?_) (fun h9 => ?_)
  · refine En_Ps 1 (pc' := 24) (lv' := [(0, .ref 0), (1, .int a), (2, .int b)]) (st' := [.int (((Int8.ofInt (-2)).toInt32))]) rfl ?_
    refine En_top (by decide : ((Int8.ofInt (-2)).toInt32).toInt = -2) (fun z10 h11 => ?_)
    exact En_ret (v := some (.int z10)) rfl rfl rfl ⟨h4, h8, z10, rfl, ⟨by first | exact q_f35c5d346c h11 | omega, by first | exact q_12a74e12a3 h11 | omega⟩⟩
  · refine En_Ps 1 (pc' := 12) (lv' := [(0, .ref 0), (1, .int a), (2, .int b)]) (st' := [.ref 0]) rfl ?_
    refine En_getK (j := 9) ((h5 _ _ (inW tgz_0 (by decide +kernel))).trans h_p) rfl rfl rfl tgz_0 (by decide +kernel) ?_
    refine En_Ps 1 (pc' := 16) (lv' := [(0, .ref 0), (1, .int a), (2, .int b)]) (st' := [.int b, .ref p]) rfl ?_
    refine En_callV rfl rfl rfl rfl rfl rfl rfl rfl hp (by decide +kernel) rfl (c_49 σ3 h4 p hp b sg ((h5 _ _ (inW hp (by decide +kernel))).trans h_sg) (by first | exact q_a555021d16 hp0 | omega)) (by decide) (by decide) (fun v13 σ14 h12 => ?_)
    obtain ⟨h15, h16, z18, rfl, h17⟩ := h12
    have h19 := Fr_trans h8 h16 (by decide +kernel)
    refine En_iNe _ rfl rfl (fun h20 => ?_) (fun h20 => ?_)
    · refine En_Ps 2 (pc' := 27) (lv' := [(0, .ref 0), (1, .int a), (2, .int b)]) (st' := [.int a, .ref 0]) rfl ?_
      refine En_callV rfl rfl rfl rfl rfl rfl rfl rfl tgz_0 (by decide +kernel) rfl (c_114 σ14 h15 a (geI rfl (by omega)) (leI rfl (by omega)) p hp ((h16 _ _ (inW tgz_0 (by decide +kernel))).trans ((h5 _ _ (inW tgz_0 (by decide +kernel))).trans h_p)) sg ((h16 _ _ (inW hp (by decide +kernel))).trans ((h5 _ _ (inW hp (by decide +kernel))).trans h_sg)) (by first | exact q_a555021d16 hp0 | omega)) (by decide) (by decide) (fun v22 σ23 h21 => ?_)
      obtain ⟨h24, h25, z27, rfl, h26⟩ := h21
      have h28 := Fr_trans h19 h25 (by decide +kernel)
      refine En_Ps 7 (pc' := 40) (lv' := [(6, .int ((Int32.ofInt 0))), (5, .int ((Int32.ofInt 5))), (4, .int ((Int32.ofInt (-1)))), (3, .int z27), (0, .ref 0), (1, .int a), (2, .int b)]) (st' := []) rfl ?_
      have key40 : ∀ (n40 : Nat) (σ32 : SG) (y29 : Int32) (y30 : Int32) (y31 : Int32), WT σ32 → Fr [] σ0 σ32 → (σ32 0)[9]? = some (.ref p) → (σ32 p)[1]? = some (.int sg) → (-1) ≤ y29.toInt → y29.toInt ≤ 15 → 0 ≤ y30.toInt → y30.toInt ≤ 5 → 0 ≤ y31.toInt → y31.toInt ≤ 16 → y29.toInt - y31.toInt + 1 ≤ 0 → -y31.toInt + 16 < (n40 : Int) → En 4 92 none mr_178 (P_178 σ0 a b p sg) 40 [(0, .ref 0), (1, .int a), (2, .int b), (3, .int z27), (4, .int y29), (5, .int y30), (6, .int y31)] [] σ32 := by
        intro n40
        induction n40 with
        | zero =>
          intro σ32 y29 y30 y31 h33 h34 h35 h36 h37 h38 h39 h40 h41 h42 h43 h44
          first | exact (q_511f6d33ac h44 h42).elim | (exfalso; omega)
        | succ n40 ih40 =>
          intro σ32 y29 y30 y31 h33 h34 h35 h36 h37 h38 h39 h40 h41 h42 h43 h44
          refine En_Ps 2 (pc' := 43) (lv' := [(0, .ref 0), (1, .int a), (2, .int b), (3, .int z27), (4, .int y29), (5, .int y30), (6, .int y31)]) (st' := [.ref 0, .int y31]) rfl ?_
          refine En_getK (j := 9) h35 rfl rfl rfl tgz_0 (by decide +kernel) ?_
          refine En_callV rfl rfl rfl rfl rfl rfl rfl rfl hp (by decide +kernel) rfl (c_51 σ32 h33 p hp sg h36 (by first | exact q_a555021d16 hp0 | omega)) (by decide) (by decide) (fun v46 σ47 h45 => ?_)
          obtain ⟨h48, h49, z51, rfl, h50⟩ := h45
          have h52 := Fr_trans h34 h49 (by decide +kernel)
          refine En_icGe _ rfl rfl rfl (fun h53 => ?_) (fun h53 => ?_)
          · refine En_Ps 1 (pc' := 94) (lv' := [(0, .ref 0), (1, .int a), (2, .int b), (3, .int z27), (4, .int y29), (5, .int y30), (6, .int y31)]) (st' := [.int y29]) rfl ?_
            exact En_ret (v := some (.int y29)) rfl rfl rfl ⟨h48, h52, y29, rfl, ⟨by first | exact q_fe58cd40d0 h37 | omega, by first | exact q_867a9ac627 h38 | omega⟩⟩
          · refine En_Ps 3 (pc' := 56) (lv' := [(0, .ref 0), (1, .int a), (2, .int b), (3, .int z27), (4, .int y29), (5, .int y30), (6, .int y31)]) (st' := [.int ((y31 ^^^ b))]) rfl ?_
            refine En_hav (fun z54 => ?_)
            refine En_callS rfl rfl rfl rfl rfl rfl rfl rfl rfl (c_7 σ47 h48 z54) (by decide) (by decide) (fun v56 σ57 h55 => ?_)
            obtain ⟨h58, h59, z61, rfl, h60⟩ := h55
            have h62 := Fr_trans h52 h59 (by decide +kernel)
            refine En_Ps 3 (pc' := 64) (lv' := [(7, .int z61), (0, .ref 0), (1, .int a), (2, .int b), (3, .int z27), (4, .int y29), (5, .int y30), (6, .int y31)]) (st' := [.int y31, .int z27]) rfl ?_
            refine En_callS rfl rfl rfl rfl rfl rfl rfl rfl rfl (c_108 σ57 h58 z27 y31) (by decide) (by decide) (fun v64 σ65 h63 => ?_)
            obtain ⟨h66, h67, z69, rfl, h68⟩ := h63
            have h70 := Fr_trans h62 h67 (by decide +kernel)
            refine En_Ps 1 (pc' := 68) (lv' := [(7, .int z61), (0, .ref 0), (1, .int a), (2, .int b), (3, .int z27), (4, .int y29), (5, .int y30), (6, .int y31)]) (st' := [.int ((Int32.ofInt 1)), .int z69]) rfl ?_
            refine En_icNe _ rfl (by decide : (Int32.ofInt 1).toInt = 1) rfl (fun h71 => ?_) (fun h71 => ?_)
            · refine En_Ps 1 (pc' := 89) (lv' := [(6, .int ((y31 + Int32.ofInt 1))), (7, .int z61), (0, .ref 0), (1, .int a), (2, .int b), (3, .int z27), (4, .int y29), (5, .int y30)]) (st' := []) rfl ?_
              refine En_lv1 (addI rfl (by decide : (Int32.ofInt 1).toInt = 1) (by first | exact q_465ab79ac1 h41 | omega) (by first | exact q_f3f8e04381 h42 | omega)) (fun z72 h73 => ?_)
              refine En_Ps 1 (pc' := 40) (lv' := [(6, .int z72), (7, .int z61), (0, .ref 0), (1, .int a), (2, .int b), (3, .int z27), (4, .int y29), (5, .int y30)]) (st' := []) rfl ?_
              refine En_lv (lv := [(0, .ref 0), (1, .int a), (2, .int b), (3, .int z27), (4, .int y29), (5, .int y30), (6, .int z72)]) ⟨rfl, rfl, rfl, rfl, rfl, rfl, rfl, trivial⟩ ?_
              exact ih40 σ65 y29 y30 z72 h66 h70 ((h67 _ _ (inW tgz_0 (by decide +kernel))).trans ((h59 _ _ (inW tgz_0 (by decide +kernel))).trans ((h49 _ _ (inW tgz_0 (by decide +kernel))).trans h35))) ((h67 _ _ (inW hp (by decide +kernel))).trans ((h59 _ _ (inW hp (by decide +kernel))).trans ((h49 _ _ (inW hp (by decide +kernel))).trans h36))) (by first | exact q_77b189e83d h37 | omega) (by first | exact q_5a4d8a7e08 h38 | omega) (by first | exact q_58e6e51dcc h39 | omega) (by first | exact q_d9092b5ca1 h40 | omega) (by first | exact q_35104ce9d3 h73 h41 | omega) (by first | exact q_34dc714687 h73 h53 h50.2 | omega) (by first | exact q_6591527e3e h43 h73 | omega) (by first | exact q_c5d740bdff h73 h44 | omega)
            · refine En_Ps 2 (pc' := 75) (lv' := [(7, .int z61), (0, .ref 0), (1, .int a), (2, .int b), (3, .int z27), (4, .int y29), (5, .int y30), (6, .int y31)]) (st' := [.int y30, .int z61]) rfl ?_
              refine En_icGe _ rfl rfl rfl (fun h74 => ?_) (fun h74 => ?_)
              · refine En_Ps 1 (pc' := 89) (lv' := [(6, .int ((y31 + Int32.ofInt 1))), (7, .int z61), (0, .ref 0), (1, .int a), (2, .int b), (3, .int z27), (4, .int y29), (5, .int y30)]) (st' := []) rfl ?_
                refine En_lv1 (addI rfl (by decide : (Int32.ofInt 1).toInt = 1) (by first | exact q_465ab79ac1 h41 | omega) (by first | exact q_f3f8e04381 h42 | omega)) (fun z75 h76 => ?_)
                refine En_Ps 1 (pc' := 40) (lv' := [(6, .int z75), (7, .int z61), (0, .ref 0), (1, .int a), (2, .int b), (3, .int z27), (4, .int y29), (5, .int y30)]) (st' := []) rfl ?_
                refine En_lv (lv := [(0, .ref 0), (1, .int a), (2, .int b), (3, .int z27), (4, .int y29), (5, .int y30), (6, .int z75)]) ⟨rfl, rfl, rfl, rfl, rfl, rfl, rfl, trivial⟩ ?_
                exact ih40 σ65 y29 y30 z75 h66 h70 ((h67 _ _ (inW tgz_0 (by decide +kernel))).trans ((h59 _ _ (inW tgz_0 (by decide +kernel))).trans ((h49 _ _ (inW tgz_0 (by decide +kernel))).trans h35))) ((h67 _ _ (inW hp (by decide +kernel))).trans ((h59 _ _ (inW hp (by decide +kernel))).trans ((h49 _ _ (inW hp (by decide +kernel))).trans h36))) (by first | exact q_77b189e83d h37 | omega) (by first | exact q_5a4d8a7e08 h38 | omega) (by first | exact q_58e6e51dcc h39 | omega) (by first | exact q_d9092b5ca1 h40 | omega) (by first | exact q_35104ce9d3 h76 h41 | omega) (by first | exact q_34dc714687 h76 h53 h50.2 | omega) (by first | exact q_6591527e3e h43 h76 | omega) (by first | exact q_c5d740bdff h76 h44 | omega)
              · refine En_Ps 5 (pc' := 89) (lv' := [(6, .int ((y31 + Int32.ofInt 1))), (4, .int y31), (5, .int z61), (7, .int z61), (0, .ref 0), (1, .int a), (2, .int b), (3, .int z27)]) (st' := []) rfl ?_
                refine En_lv1 (addI rfl (by decide : (Int32.ofInt 1).toInt = 1) (by first | exact q_465ab79ac1 h41 | omega) (by first | exact q_f3f8e04381 h42 | omega)) (fun z77 h78 => ?_)
                refine En_Ps 1 (pc' := 40) (lv' := [(6, .int z77), (4, .int y31), (5, .int z61), (7, .int z61), (0, .ref 0), (1, .int a), (2, .int b), (3, .int z27)]) (st' := []) rfl ?_
                refine En_lv (lv := [(0, .ref 0), (1, .int a), (2, .int b), (3, .int z27), (4, .int y31), (5, .int z61), (6, .int z77)]) ⟨rfl, rfl, rfl, rfl, rfl, rfl, rfl, trivial⟩ ?_
                exact ih40 σ65 y31 z61 z77 h66 h70 ((h67 _ _ (inW tgz_0 (by decide +kernel))).trans ((h59 _ _ (inW tgz_0 (by decide +kernel))).trans ((h49 _ _ (inW tgz_0 (by decide +kernel))).trans h35))) ((h67 _ _ (inW hp (by decide +kernel))).trans ((h59 _ _ (inW hp (by decide +kernel))).trans ((h49 _ _ (inW hp (by decide +kernel))).trans h36))) (by first | exact q_5b439548fc h41 | omega) (by first | exact q_c15b485600 h53 h50.2 | omega) (by first | exact q_ef1e8e38bf h60.1 | omega) (by first | exact q_126a3d8de2 h74 h40 | omega) (by first | exact q_35104ce9d3 h78 h41 | omega) (by first | exact q_34dc714687 h78 h53 h50.2 | omega) (by first | exact q_2fedec469a h78 | omega) (by first | exact q_c5d740bdff h78 h44 | omega)
      have := (by decide : (Int32.ofInt (-1)).toInt = -1)
      have := (by decide : (Int32.ofInt 5).toInt = 5)
      have := (by decide : (Int32.ofInt 0).toInt = 0)
      refine En_lv (lv := [(0, .ref 0), (1, .int a), (2, .int b), (3, .int z27), (4, .int ((Int32.ofInt (-1)))), (5, .int ((Int32.ofInt 5))), (6, .int ((Int32.ofInt 0)))]) ⟨rfl, rfl, rfl, rfl, rfl, rfl, rfl, trivial⟩ ?_
      exact key40 (Int.toNat (16) + 1) σ23 ((Int32.ofInt (-1))) ((Int32.ofInt 5)) ((Int32.ofInt 0)) h24 h28 ((h25 _ _ (inW tgz_0 (by decide +kernel))).trans ((h16 _ _ (inW tgz_0 (by decide +kernel))).trans ((h5 _ _ (inW tgz_0 (by decide +kernel))).trans h_p))) ((h25 _ _ (inW hp (by decide +kernel))).trans ((h16 _ _ (inW hp (by decide +kernel))).trans ((h5 _ _ (inW hp (by decide +kernel))).trans h_sg))) (by decide) (by decide) (by decide) (by decide) (by decide) (by decide) (by omega) (by first | exact toN_lt _ | omega)
    · refine En_Ps 1 (pc' := 24) (lv' := [(0, .ref 0), (1, .int a), (2, .int b)]) (st' := [.int (((Int8.ofInt (-2)).toInt32))]) rfl ?_
      refine En_top (by decide : ((Int8.ofInt (-2)).toInt32).toInt = -2) (fun z79 h80 => ?_)
      exact En_ret (v := some (.int z79)) rfl rfl rfl ⟨h15, h19, z79, rfl, ⟨by first | exact q_f35c5d346c h80 | omega, by first | exact q_12a74e12a3 h80 | omega⟩⟩
/-- DoorSchool.tries(II)I -/
abbrev P_179 (σ0 : SG) (a : Int32) (b : Int32) (p : Nat) (sg : Int32) : PO := fun v σ => WT σ ∧ Fr [] σ0 σ ∧ ∃ ret : Int32, v = some (.int ret) ∧ -ret.toInt - 2 ≤ 0 ∧ ret.toInt - 63 ≤ 0
set_option maxRecDepth 10000 in
set_option maxHeartbeats 4000000 in
theorem c_179 (σ0 : SG) (hσ0 : WT σ0) (a : Int32) (b : Int32) (p : Nat) (hp : TG p = 18) (h_p : (σ0 0)[9]? = some (.ref p)) (sg : Int32) (h_sg : (σ0 p)[1]? = some (.int sg)) (hp0 : -sg.toInt ≤ 0) : En 5 119 none mr_179 (P_179 σ0 a b p sg) 0 [(0, .ref 0), (1, .int a), (2, .int b)] [] σ0 := by
  obtain ⟨hl_sg, hu_sg⟩ := WT_int hσ0 (g := 18) hp (by decide +kernel) (l := (-1)) (u := 4) (by decide +kernel) h_sg
  have hF0 : Fr [] σ0 σ0 := Fr_rfl
  refine En_Ps 3 (pc' := 3) (lv' := [(0, .ref 0), (1, .int a), (2, .int b)]) (st' := [.int b, .int a, .ref 0]) rfl ?_
  refine En_callV rfl rfl rfl rfl rfl rfl rfl rfl tgz_0 (by decide +kernel) rfl (c_178 σ0 hσ0 a b p hp h_p sg h_sg (by first | exact q_a555021d16 hp0 | omega)) (by decide) (by decide) (fun v2 σ3 h1 => ?_)
  obtain ⟨h4, h5, z7, rfl, h6⟩ := h1
  have h8 := Fr_trans hF0 h5 (by decide +kernel)
  refine En_Ps 2 (pc' := 8) (lv' := [(3, .int z7), (0, .ref 0), (1, .int a), (2, .int b)]) (st' := [.int z7]) rfl ?_
  refine En_iGe _ rfl rfl (fun h9 => ?_) (fun h9 => ?_)
  · refine En_Ps 3 (pc' := 18) (lv' := [(3, .int z7), (0, .ref 0), (1, .int a), (2, .int b)]) (st' := [.int ((z7 ^^^ b))]) rfl ?_
    refine En_hav (fun z10 => ?_)
    refine En_callS rfl rfl rfl rfl rfl rfl rfl rfl rfl (c_7 σ3 h4 z10) (by decide) (by decide) (fun v12 σ13 h11 => ?_)
    obtain ⟨h14, h15, z17, rfl, h16⟩ := h11
    have h18 := Fr_trans h8 h15 (by decide +kernel)
    exact En_ret (v := some (.int z17)) rfl rfl rfl ⟨h14, h18, z17, rfl, ⟨by first | exact q_70a249c7f8 h16.1 | omega, by first | exact q_4b9206e141 h16.2 | omega⟩⟩
  · refine En_Ps 2 (pc' := 21) (lv' := [(3, .int z7), (0, .ref 0), (1, .int a), (2, .int b)]) (st' := [.int z7]) rfl ?_
    exact En_ret (v := some (.int z7)) rfl rfl rfl ⟨h4, h8, z7, rfl, ⟨by first | exact q_0dccbb4f83 h6.1 | omega, by first | exact q_133b9801a0 h9 | omega⟩⟩
/-- DoorSchool.way(II)I -/
abbrev P_182 (σ0 : SG) (a : Int32) (b : Int32) (p : Nat) (sg : Int32) : PO := fun v σ => WT σ ∧ Fr [] σ0 σ ∧ ∃ ret : Int32, v = some (.int ret) ∧ -ret.toInt - 2 ≤ 0 ∧ ret.toInt - 17 ≤ 0
set_option maxRecDepth 10000 in
set_option maxHeartbeats 4000000 in
theorem c_182 (σ0 : SG) (hσ0 : WT σ0) (a : Int32) (b : Int32) (p : Nat) (hp : TG p = 18) (h_p : (σ0 0)[9]? = some (.ref p)) (sg : Int32) (h_sg : (σ0 p)[1]? = some (.int sg)) (hp0 : -sg.toInt ≤ 0) : En 4 92 none mr_182 (P_182 σ0 a b p sg) 0 [(0, .ref 0), (1, .int a), (2, .int b)] [] σ0 := by
  obtain ⟨hl_sg, hu_sg⟩ := WT_int hσ0 (g := 18) hp (by decide +kernel) (l := (-1)) (u := 4) (by decide +kernel) h_sg
  have hF0 : Fr [] σ0 σ0 := Fr_rfl
  refine En_Ps 1 (pc' := 1) (lv' := [(0, .ref 0), (1, .int a), (2, .int b)]) (st' := [.ref 0]) rfl ?_
  refine En_getK (j := 9) h_p rfl rfl rfl tgz_0 (by decide +kernel) ?_
  refine En_Ps 1 (pc' := 5) (lv' := [(0, .ref 0), (1, .int a), (2, .int b)]) (st' := [.int a, .ref p]) rfl ?_
  refine En_callV rfl rfl rfl rfl rfl rfl rfl rfl hp (by decide +kernel) rfl (c_47 σ0 hσ0 p hp a) (by decide) (by decide) (fun v2 σ3 h1 => ?_)
  obtain ⟨h4, h5, z7, rfl, h6⟩ := h1
  have h8 := Fr_trans hF0 h5 (by decide +kernel)
  refine En_iEq _ rfl rfl (fun h9 => ?_) (fun h9 => ?_)
  · refine En_Ps 1 (pc' := 20) (lv' := [(0, .ref 0), (1, .int a), (2, .int b)]) (st' := [.int (((Int8.ofInt (-2)).toInt32))]) rfl ?_
    refine En_top (by decide : ((Int8.ofInt (-2)).toInt32).toInt = -2) (fun z10 h11 => ?_)
    exact En_ret (v := some (.int z10)) rfl rfl rfl ⟨h4, h8, z10, rfl, ⟨by first | exact q_f35c5d346c h11 | omega, by first | exact q_b87250905e h11 | omega⟩⟩
  · refine En_Ps 1 (pc' := 12) (lv' := [(0, .ref 0), (1, .int a), (2, .int b)]) (st' := [.int b]) rfl ?_
    refine En_callS rfl rfl rfl rfl rfl rfl rfl rfl rfl (c_149 σ3 h4 b) (by decide) (by decide) (fun v13 σ14 h12 => ?_)
    obtain ⟨h15, h16, z18, rfl, h17⟩ := h12
    have h19 := Fr_trans h8 h16 (by decide +kernel)
    refine En_iNe _ rfl rfl (fun h20 => ?_) (fun h20 => ?_)
    · refine En_Ps 6 (pc' := 30) (lv' := [(5, .int ((Int32.ofInt 0))), (4, .int (((Int8.ofInt 17).toInt32))), (3, .int ((Int32.ofInt (-1)))), (0, .ref 0), (1, .int a), (2, .int b)]) (st' := []) rfl ?_
      have key30 : ∀ (n30 : Nat) (σ24 : SG) (y21 : Int32) (y22 : Int32) (y23 : Int32), WT σ24 → Fr [] σ0 σ24 → (σ24 0)[9]? = some (.ref p) → (σ24 p)[1]? = some (.int sg) → (-1) ≤ y21.toInt → y21.toInt ≤ 2 → 0 ≤ y22.toInt → y22.toInt ≤ 17 → 0 ≤ y23.toInt → y23.toInt ≤ 3 → y21.toInt - y23.toInt + 1 ≤ 0 → -y23.toInt + 3 < (n30 : Int) → En 4 92 none mr_182 (P_182 σ0 a b p sg) 30 [(0, .ref 0), (1, .int a), (2, .int b), (3, .int y21), (4, .int y22), (5, .int y23)] [] σ24 := by
        intro n30
        induction n30 with
        | zero =>
          intro σ24 y21 y22 y23 h25 h26 h27 h28 h29 h30 h31 h32 h33 h34 h35 h36
          first | exact (q_9f1e7068c9 h36 h34).elim | (exfalso; omega)
        | succ n30 ih30 =>
          intro σ24 y21 y22 y23 h25 h26 h27 h28 h29 h30 h31 h32 h33 h34 h35 h36
          refine En_Ps 2 (pc' := 33) (lv' := [(0, .ref 0), (1, .int a), (2, .int b), (3, .int y21), (4, .int y22), (5, .int y23)]) (st' := [.int ((Int32.ofInt 3)), .int y23]) rfl ?_
          refine En_icGe _ rfl (by decide : (Int32.ofInt 3).toInt = 3) rfl (fun h37 => ?_) (fun h37 => ?_)
          · refine En_Ps 1 (pc' := 74) (lv' := [(0, .ref 0), (1, .int a), (2, .int b), (3, .int y21), (4, .int y22), (5, .int y23)]) (st' := [.int b]) rfl ?_
            refine En_iNe _ rfl rfl (fun h38 => ?_) (fun h38 => ?_)
            · refine En_Ps 1 (pc' := 83) (lv' := [(0, .ref 0), (1, .int a), (2, .int b), (3, .int y21), (4, .int y22), (5, .int y23)]) (st' := [.int y22]) rfl ?_
              exact En_ret (v := some (.int y22)) rfl rfl rfl ⟨h25, h26, y22, rfl, ⟨by first | exact q_ea7f0ffdb1 h31 | omega, by first | exact q_49910fdb8e h32 | omega⟩⟩
            · refine En_Ps 2 (pc' := 83) (lv' := [(0, .ref 0), (1, .int a), (2, .int b), (3, .int y21), (4, .int y22), (5, .int y23)]) (st' := [.int y21]) rfl ?_
              exact En_ret (v := some (.int y21)) rfl rfl rfl ⟨h25, h26, y21, rfl, ⟨by first | exact q_fe58cd40d0 h29 | omega, by first | exact q_3a9328797d h30 | omega⟩⟩
          · refine En_Ps 3 (pc' := 40) (lv' := [(0, .ref 0), (1, .int a), (2, .int b), (3, .int y21), (4, .int y22), (5, .int y23)]) (st' := [.int y23, .int a, .ref 0]) rfl ?_
            refine En_callV rfl rfl rfl rfl rfl rfl rfl rfl tgz_0 (by decide +kernel) rfl (c_184 σ24 h25 a y23 (geI rfl (by omega)) (leI rfl (by omega)) (geI rfl (by first | exact q_58e6e51dcc h33 | omega)) (leI rfl (by first | exact q_f1519f12c0 h37 | omega)) p hp h27 sg h28 (by first | exact q_a555021d16 hp0 | omega)) (by decide) (by decide) (fun v40 σ41 h39 => ?_)
            obtain ⟨h42, h43, z45, rfl, h44⟩ := h39
            have h46 := Fr_trans h26 h43 (by decide +kernel)
            refine En_Ps 1 (pc' := 44) (lv' := [(0, .ref 0), (1, .int a), (2, .int b), (3, .int y21), (4, .int y22), (5, .int y23)]) (st' := [.ref 0, .int z45]) rfl ?_
            refine En_callV rfl rfl rfl rfl rfl rfl rfl rfl tgz_0 (by decide +kernel) rfl (c_160 σ41 h42 p hp ((h43 _ _ (inW tgz_0 (by decide +kernel))).trans h27) sg ((h43 _ _ (inW hp (by decide +kernel))).trans h28) (by first | exact q_a555021d16 hp0 | omega)) (by decide) (by decide) (fun v48 σ49 h47 => ?_)
            obtain ⟨h50, h51, z53, rfl, h52⟩ := h47
            have h54 := Fr_trans h46 h51 (by decide +kernel)
            refine En_Ps 1 (pc' := 48) (lv' := [(0, .ref 0), (1, .int a), (2, .int b), (3, .int y21), (4, .int y22), (5, .int y23)]) (st' := [.int ((z45 ^^^ z53))]) rfl ?_
            refine En_hav (fun z55 => ?_)
            refine En_callS rfl rfl rfl rfl rfl rfl rfl rfl rfl (c_7 σ49 h50 z55) (by decide) (by decide) (fun v57 σ58 h56 => ?_)
            obtain ⟨h59, h60, z62, rfl, h61⟩ := h56
            have h63 := Fr_trans h54 h60 (by decide +kernel)
            refine En_Ps 3 (pc' := 57) (lv' := [(6, .int z62), (0, .ref 0), (1, .int a), (2, .int b), (3, .int y21), (4, .int y22), (5, .int y23)]) (st' := [.int y22, .int z62]) rfl ?_
            refine En_icGe _ rfl rfl rfl (fun h64 => ?_) (fun h64 => ?_)
            · refine En_Ps 1 (pc' := 70) (lv' := [(5, .int ((y23 + Int32.ofInt 1))), (6, .int z62), (0, .ref 0), (1, .int a), (2, .int b), (3, .int y21), (4, .int y22)]) (st' := []) rfl ?_
              refine En_lv1 (addI rfl (by decide : (Int32.ofInt 1).toInt = 1) (by first | exact q_465ab79ac1 h33 | omega) (by first | exact q_6ae830b01d h37 | omega)) (fun z65 h66 => ?_)
              refine En_Ps 1 (pc' := 30) (lv' := [(5, .int z65), (6, .int z62), (0, .ref 0), (1, .int a), (2, .int b), (3, .int y21), (4, .int y22)]) (st' := []) rfl ?_
              refine En_lv (lv := [(0, .ref 0), (1, .int a), (2, .int b), (3, .int y21), (4, .int y22), (5, .int z65)]) ⟨rfl, rfl, rfl, rfl, rfl, rfl, trivial⟩ ?_
              exact ih30 σ58 y21 y22 z65 h59 h63 ((h60 _ _ (inW tgz_0 (by decide +kernel))).trans ((h51 _ _ (inW tgz_0 (by decide +kernel))).trans ((h43 _ _ (inW tgz_0 (by decide +kernel))).trans h27))) ((h60 _ _ (inW hp (by decide +kernel))).trans ((h51 _ _ (inW hp (by decide +kernel))).trans ((h43 _ _ (inW hp (by decide +kernel))).trans h28))) (by first | exact q_77b189e83d h29 | omega) (by first | exact q_a85463bd0d h30 | omega) (by first | exact q_58e6e51dcc h31 | omega) (by first | exact q_009443cf7f h32 | omega) (by first | exact q_35104ce9d3 h66 h33 | omega) (by first | exact q_84805d5d8e h66 h37 | omega) (by first | exact q_6591527e3e h35 h66 | omega) (by first | exact q_6272716eb4 h66 h36 | omega)
            · refine En_Ps 5 (pc' := 70) (lv' := [(5, .int ((y23 + Int32.ofInt 1))), (3, .int y23), (4, .int z62), (6, .int z62), (0, .ref 0), (1, .int a), (2, .int b)]) (st' := []) rfl ?_
              refine En_lv1 (addI rfl (by decide : (Int32.ofInt 1).toInt = 1) (by first | exact q_465ab79ac1 h33 | omega) (by first | exact q_6ae830b01d h37 | omega)) (fun z67 h68 => ?_)
              refine En_Ps 1 (pc' := 30) (lv' := [(5, .int z67), (3, .int y23), (4, .int z62), (6, .int z62), (0, .ref 0), (1, .int a), (2, .int b)]) (st' := []) rfl ?_
              refine En_lv (lv := [(0, .ref 0), (1, .int a), (2, .int b), (3, .int y23), (4, .int z62), (5, .int z67)]) ⟨rfl, rfl, rfl, rfl, rfl, rfl, trivial⟩ ?_
              exact ih30 σ58 y23 z62 z67 h59 h63 ((h60 _ _ (inW tgz_0 (by decide +kernel))).trans ((h51 _ _ (inW tgz_0 (by decide +kernel))).trans ((h43 _ _ (inW tgz_0 (by decide +kernel))).trans h27))) ((h60 _ _ (inW hp (by decide +kernel))).trans ((h51 _ _ (inW hp (by decide +kernel))).trans ((h43 _ _ (inW hp (by decide +kernel))).trans h28))) (by first | exact q_5b439548fc h33 | omega) (by first | exact q_f1519f12c0 h37 | omega) (by first | exact q_ef1e8e38bf h61.1 | omega) (by first | exact q_5f93834205 h64 h32 | omega) (by first | exact q_35104ce9d3 h68 h33 | omega) (by first | exact q_84805d5d8e h68 h37 | omega) (by first | exact q_2fedec469a h68 | omega) (by first | exact q_6272716eb4 h68 h36 | omega)
      have := (by decide : (Int32.ofInt (-1)).toInt = -1)
      have := (by decide : ((Int8.ofInt 17).toInt32).toInt = 17)
      have := (by decide : (Int32.ofInt 0).toInt = 0)
      refine En_lv (lv := [(0, .ref 0), (1, .int a), (2, .int b), (3, .int ((Int32.ofInt (-1)))), (4, .int (((Int8.ofInt 17).toInt32))), (5, .int ((Int32.ofInt 0)))]) ⟨rfl, rfl, rfl, rfl, rfl, rfl, trivial⟩ ?_
      exact key30 (Int.toNat (3) + 1) σ14 ((Int32.ofInt (-1))) (((Int8.ofInt 17).toInt32)) ((Int32.ofInt 0)) h15 h19 ((h16 _ _ (inW tgz_0 (by decide +kernel))).trans ((h5 _ _ (inW tgz_0 (by decide +kernel))).trans h_p)) ((h16 _ _ (inW hp (by decide +kernel))).trans ((h5 _ _ (inW hp (by decide +kernel))).trans h_sg)) (by decide) (by decide) (by decide) (by decide) (by decide) (by decide) (by omega) (by first | exact toN_lt _ | omega)
    · refine En_Ps 1 (pc' := 20) (lv' := [(0, .ref 0), (1, .int a), (2, .int b)]) (st' := [.int (((Int8.ofInt (-2)).toInt32))]) rfl ?_
      refine En_top (by decide : ((Int8.ofInt (-2)).toInt32).toInt = -2) (fun z69 h70 => ?_)
      exact En_ret (v := some (.int z69)) rfl rfl rfl ⟨h15, h19, z69, rfl, ⟨by first | exact q_f35c5d346c h70 | omega, by first | exact q_b87250905e h70 | omega⟩⟩

