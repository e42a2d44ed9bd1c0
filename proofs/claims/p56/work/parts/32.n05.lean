/-- DoorSchool$Rules.deedsOf(II)I -/
abbrev P_77ax (σ0 : SG) (a : Int32) (b : Int32) (kk : Int32) : PO := fun v σ => WT σ ∧ Fr [] σ0 σ ∧ ∃ ret : Int32, v = some (.int ret) ∧ -ret.toInt ≤ 0 ∧ ret.toInt - 65535 ≤ 0 ∧ ret.toInt = DOf a.toInt b.toInt kk.toInt.toNat
set_option maxRecDepth 10000 in
set_option maxHeartbeats 4000000 in
theorem c_77ax (σ0 : SG) (hσ0 : WT σ0) (a : Int32) (b : Int32) (hl_a : 0 ≤ a.toInt) (hu_a : a.toInt ≤ 15) (kk : Int32) (h_kk : (σ0 4)[0]? = some (.int kk)) : En 0 0 none mr_77 (P_77ax σ0 a b kk) 0 [(0, .ref 4), (1, .int a), (2, .int b)] [] σ0 := by
  obtain ⟨hl_kk, hu_kk⟩ := WT_int hσ0 (g := 4) (by decide +kernel) (by decide +kernel) (l := 0) (u := 16) (by decide +kernel) h_kk
  have hF0 : Fr [] σ0 σ0 := Fr_rfl
  refine En_Ps 4 (pc' := 5) (lv' := [(4, .int ((Int32.ofInt 0))), (3, .int ((Int32.ofInt 0))), (0, .ref 4), (1, .int a), (2, .int b)]) (st' := []) rfl ?_
  have key5 : ∀ (n5 : Nat) (y1 : Int32) (y2 : Int32), 0 ≤ y1.toInt → y1.toInt ≤ 65535 → 0 ≤ y2.toInt → y2.toInt ≤ 16 → y2.toInt - kk.toInt ≤ 0 → kk.toInt - y2.toInt < (n5 : Int) → y1.toInt = DOf a.toInt b.toInt (y2.toInt).toNat → En 0 0 none mr_77 (P_77ax σ0 a b kk) 5 [(0, .ref 4), (1, .int a), (2, .int b), (3, .int y1), (4, .int y2)] [] σ0 := by
    intro n5
    induction n5 with
    | zero =>
      intro y1 y2 h6 h7 h8 h9 h10 h11 h12
      first | exact (q_14257feae7 h10 h11).elim | (exfalso; omega)
    | succ n5 ih5 =>
      intro y1 y2 h6 h7 h8 h9 h10 h11 h12
      refine En_Ps 2 (pc' := 8) (lv' := [(0, .ref 4), (1, .int a), (2, .int b), (3, .int y1), (4, .int y2)]) (st' := [.ref 4, .int y2]) rfl ?_
      refine En_getK (j := 0) h_kk rfl rfl rfl tgz_4 (by decide +kernel) ?_
      refine En_icGe _ rfl rfl rfl (fun h13 => ?_) (fun h13 => ?_)
      · refine En_Ps 1 (pc' := 36) (lv' := [(0, .ref 4), (1, .int a), (2, .int b), (3, .int y1), (4, .int y2)]) (st' := [.int y1]) rfl ?_
        exact En_ret (v := some (.int y1)) rfl rfl rfl ⟨hσ0, hF0, y1, rfl, ⟨by first | exact q_c803b490ef h6 | omega, by first | exact q_e7edf0f95a h7 | omega, DOf_e h12 (by omega) (by omega)⟩⟩
      · refine En_Ps 3 (pc' := 18) (lv' := [(0, .ref 4), (1, .int a), (2, .int b), (3, .int y1), (4, .int y2)]) (st' := [.int ((y2 &&& a))]) rfl ?_
        refine En_nam (fun z14 h15 => ?_)
        have h16 : z14.toInt = aN y2.toInt a.toInt := and_v h15 rfl rfl (by omega) (by omega)
        have := aN_le (X := y2.toInt) (Y := a.toInt) (by omega) (by omega)
        refine En_Ps 1 (pc' := 19) (lv' := [(0, .ref 4), (1, .int a), (2, .int b), (3, .int y1), (4, .int y2)]) (st' := [.int b, .int z14]) rfl ?_
        refine En_icNe _ rfl rfl rfl (fun h17 => ?_) (fun h17 => ?_)
        · refine En_Ps 1 (pc' := 32) (lv' := [(4, .int ((y2 + Int32.ofInt 1))), (0, .ref 4), (1, .int a), (2, .int b), (3, .int y1)]) (st' := []) rfl ?_
          refine En_lv1 (addI rfl (by decide : (Int32.ofInt 1).toInt = 1) (by first | exact q_465ab79ac1 h8 | omega) (by first | exact q_f3f8e04381 h9 | omega)) (fun z18 h19 => ?_)
          refine En_Ps 1 (pc' := 5) (lv' := [(4, .int z18), (0, .ref 4), (1, .int a), (2, .int b), (3, .int y1)]) (st' := []) rfl ?_
          refine En_lv (lv := [(0, .ref 4), (1, .int a), (2, .int b), (3, .int y1), (4, .int z18)]) ⟨rfl, rfl, rfl, rfl, rfl, trivial⟩ ?_
          exact ih5 y1 z18 (by first | exact q_58e6e51dcc h6 | omega) (by first | exact q_36eb0a70bf h7 | omega) (by first | exact q_35104ce9d3 h19 h8 | omega) (by first | exact q_eba8fd3b5f h19 h13 hu_kk | omega) (by first | exact q_ae2dbf4292 h13 h19 | omega) (by first | exact q_8d03a5a7cb h19 h11 | omega) (DOf_n (by omega) h12 (by omega) (by omega) (by omega))
        · refine En_Ps 4 (pc' := 27) (lv' := [(0, .ref 4), (1, .int a), (2, .int b), (3, .int y1), (4, .int y2)]) (st' := [.int ((((Int32.ofInt 1)) <<< (y2 &&& 31))), .int y1]) rfl ?_
          refine En_nam (fun z20 h21 => ?_)
          have h22 : z20.toInt = pI y2.toInt := shl_v h21 rfl (by omega) (by omega)
          have := pI_pos y2.toInt
          have : pI y2.toInt ≤ 32768 := pI_mono (Y := 15) (by omega)
          refine En_Ps 1 (pc' := 28) (lv' := [(0, .ref 4), (1, .int a), (2, .int b), (3, .int y1), (4, .int y2)]) (st' := [.int ((y1 ||| z20))]) rfl ?_
          refine En_nam (fun z23 h24 => ?_)
          have h25 : z23.toInt = oN y1.toInt z20.toInt := or_v h24 rfl rfl (by omega) (by omega)
          have := oN_lt (X := y1.toInt) (Y := z20.toInt) 16 (by omega) (by omega) (Int.lt_of_le_of_lt (by omega : _ ≤ (65535 : Int)) (by decide)) (Int.lt_of_le_of_lt (by omega : _ ≤ (65535 : Int)) (by decide))
          have two16 : ((2 ^ 16 : Nat) : Int) = 65536 := by decide
          refine En_Ps 2 (pc' := 32) (lv' := [(4, .int ((y2 + Int32.ofInt 1))), (3, .int z23), (0, .ref 4), (1, .int a), (2, .int b)]) (st' := []) rfl ?_
          refine En_lv1 (addI rfl (by decide : (Int32.ofInt 1).toInt = 1) (by first | exact q_465ab79ac1 h8 | omega) (by first | exact q_f3f8e04381 h9 | omega)) (fun z26 h27 => ?_)
          refine En_Ps 1 (pc' := 5) (lv' := [(4, .int z26), (3, .int z23), (0, .ref 4), (1, .int a), (2, .int b)]) (st' := []) rfl ?_
          refine En_lv (lv := [(0, .ref 4), (1, .int a), (2, .int b), (3, .int z23), (4, .int z26)]) ⟨rfl, rfl, rfl, rfl, rfl, trivial⟩ ?_
          exact ih5 z23 z26 (by omega) (by omega) (by first | exact q_35104ce9d3 h27 h8 | omega) (by first | exact q_eba8fd3b5f h27 h13 hu_kk | omega) (by first | exact q_ae2dbf4292 h13 h27 | omega) (by first | exact q_8d03a5a7cb h27 h11 | omega) ((by first | exact DOf_y (q := z20.toInt) (by omega) h12 (by omega) (by omega) (by omega) (by omega) | exact DOf_z (q := z20.toInt) (by omega) h12 (by omega) (by omega) (by omega) (by omega) (by omega)))
  have := (by decide : (Int32.ofInt 0).toInt = 0)
  have := (by decide : (Int32.ofInt 0).toInt = 0)
  refine En_lv (lv := [(0, .ref 4), (1, .int a), (2, .int b), (3, .int ((Int32.ofInt 0))), (4, .int ((Int32.ofInt 0)))]) ⟨rfl, rfl, rfl, rfl, rfl, trivial⟩ ?_
  exact key5 (Int.toNat (kk.toInt) + 1) ((Int32.ofInt 0)) ((Int32.ofInt 0)) (by decide) (by decide) (by decide) (by decide) (by omega) (by first | exact toN_lt _ | omega) (DOf_0 (by omega) (by omega))
/-- DoorSchool$Rules.addAllOf(I)V -/
abbrev P_76x (σ0 : SG) (n : Int) (a : Int32) (kk : Int32) (sz : Int32) : PO := fun v σ => WT σ ∧ Fr [(4, 1), (5, 0), (6, 0), (7, 0)] σ0 σ ∧ ∃ sz1 : Int32, (σ 4)[1]? = some (.int sz1) ∧ v = none ∧ -sz1.toInt ≤ 0 ∧ sz1.toInt - 81 ≤ 0 ∧ sz1.toInt - sz.toInt - 16 ≤ 0 ∧ (RN kk.toInt n (a.toInt + 1) sz1.toInt ∧ TB σ 5 6 7 kk.toInt sz1.toInt)
set_option maxRecDepth 10000 in
set_option maxHeartbeats 4000000 in
theorem c_76x {n : Int} (σ0 : SG) (hσ0 : WT σ0) (a : Int32) (hl_a : 0 ≤ a.toInt) (hu_a : a.toInt ≤ 15) (kk : Int32) (h_kk : (σ0 4)[0]? = some (.int kk)) (sz : Int32) (h_sz : (σ0 4)[1]? = some (.int sz)) (hN : RN kk.toInt n a.toInt sz.toInt) (hm : a.toInt < kk.toInt) (hb : bcI a.toInt = n) (hT : TB σ0 5 6 7 kk.toInt sz.toInt) (hK : P2 kk.toInt) : En 1 24 none mr_76 (P_76x σ0 n a kk sz) 0 [(0, .ref 4), (1, .int a)] [] σ0 := by
  obtain ⟨hl_kk, hu_kk⟩ := WT_int hσ0 (g := 4) (by decide +kernel) (by decide +kernel) (l := 0) (u := 16) (by decide +kernel) h_kk
  obtain ⟨hl_sz, hu_sz⟩ := WT_int hσ0 (g := 4) (by decide +kernel) (by decide +kernel) (l := 0) (u := 81) (by decide +kernel) h_sz
  have hF0 : Fr [(4, 1), (5, 0), (6, 0), (7, 0)] σ0 σ0 := Fr_rfl
  refine En_Ps 2 (pc' := 2) (lv' := [(2, .int ((Int32.ofInt 0))), (0, .ref 4), (1, .int a)]) (st' := []) rfl ?_
  have key2 : ∀ (n2 : Nat) (σ3 : SG) (y1 : Int32) (y2 : Int32), WT σ3 → Fr [(4, 1), (5, 0), (6, 0), (7, 0)] σ0 σ3 → (σ3 4)[0]? = some (.int kk) → (σ3 4)[1]? = some (.int y2) → 0 ≤ y1.toInt → y1.toInt ≤ 16 → 0 ≤ y2.toInt → y2.toInt ≤ 81 → y1.toInt - a.toInt - 1 ≤ 0 → -sz.toInt - y1.toInt + y2.toInt ≤ 0 → -y1.toInt + 16 < (n2 : Int) → RV kk.toInt n a.toInt y1.toInt y2.toInt → TB σ3 5 6 7 kk.toInt y2.toInt → En 1 24 none mr_76 (P_76x σ0 n a kk sz) 2 [(0, .ref 4), (1, .int a), (2, .int y1)] [] σ3 := by
    intro n2
    induction n2 with
    | zero =>
      intro σ3 y1 y2 h4 h5 h6 h7 h8 h9 h10 h11 h12 h13 h14 h15 h16
      first | exact (q_511f6d33ac h14 h9).elim | (exfalso; omega)
    | succ n2 ih2 =>
      intro σ3 y1 y2 h4 h5 h6 h7 h8 h9 h10 h11 h12 h13 h14 h15 h16
      refine En_Ps 2 (pc' := 4) (lv' := [(0, .ref 4), (1, .int a), (2, .int y1)]) (st' := [.int a, .int y1]) rfl ?_
      refine En_icGt _ rfl rfl rfl (fun h17 => ?_) (fun h17 => ?_)
      · exact En_ret (v := none) rfl rfl rfl ⟨h4, h5, y2, h7, rfl, ⟨by first | exact q_c803b490ef h10 | omega, by first | exact q_96a57adcaf h11 | omega, by first | exact q_23c634d40a h13 h9 | omega, ⟨RN_x h15 (by omega) rfl rfl (by omega), TB_eq h16 (by omega)⟩⟩⟩
      · refine En_Ps 1 (pc' := 8) (lv' := [(0, .ref 4), (1, .int a), (2, .int y1)]) (st' := [.ref 4]) rfl ?_
        refine En_getK (j := 1) h7 rfl rfl rfl tgz_4 (by decide +kernel) ?_
        have h18 := RV_le h15 (by omega)
        refine En_Ps 1 (pc' := 13) (lv' := [(0, .ref 4), (1, .int a), (2, .int y1)]) (st' := [.int (((Int8.ofInt 81).toInt32)), .int y2]) rfl ?_
        refine En_icGe _ rfl (by decide : ((Int8.ofInt 81).toInt32).toInt = 81) rfl (fun hx => by exfalso; omega) (fun h19 => ?_)
        refine En_Ps 4 (pc' := 20) (lv' := [(0, .ref 4), (1, .int a), (2, .int y1)]) (st' := [.int ((a ^^^ ((Int32.ofInt (-1))))), .int y1]) rfl ?_
        refine En_nam (fun z20 h21 => ?_)
        refine En_Ps 1 (pc' := 21) (lv' := [(0, .ref 4), (1, .int a), (2, .int y1)]) (st' := [.int ((y1 &&& z20))]) rfl ?_
        refine En_nam (fun z22 h23 => ?_)
        obtain ⟨h24, h25⟩ := andn_rng h23 rfl (by omega) (by omega : _ ≤ (15 : Int))
        refine En_iNe _ rfl rfl (fun h26 => ?_) (fun h26 => ?_)
        · have := sub_sb h23 h21 rfl rfl (by omega) (by omega) (by omega) (by omega)
          refine En_Ps 1 (pc' := 72) (lv' := [(2, .int ((y1 + Int32.ofInt 1))), (0, .ref 4), (1, .int a)]) (st' := []) rfl ?_
          refine En_lv1 (addI rfl (by decide : (Int32.ofInt 1).toInt = 1) (by first | exact q_465ab79ac1 h8 | omega) (by first | exact q_f3f8e04381 h9 | omega)) (fun z27 h28 => ?_)
          refine En_Ps 1 (pc' := 2) (lv' := [(2, .int z27), (0, .ref 4), (1, .int a)]) (st' := []) rfl ?_
          refine En_lv (lv := [(0, .ref 4), (1, .int a), (2, .int z27)]) ⟨rfl, rfl, rfl, trivial⟩ ?_
          exact ih2 σ3 z27 y2 h4 h5 h6 h7 (by first | exact q_35104ce9d3 h28 h8 | omega) (by first | exact q_3d3df992fe h28 h17 hu_a | omega) (by first | exact q_58e6e51dcc h10 | omega) (by first | exact q_8d9f3dc7f1 h19 | omega) (by first | exact q_521b808ea1 h17 h28 | omega) (by first | exact q_affce3384d h13 h28 | omega) (by first | exact q_c5d740bdff h28 h14 | omega) (RV_not h15 (by omega) (by omega) rfl rfl (by omega) (by omega)) (TB_eq h16 (by omega))
        · obtain ⟨h29, h30⟩ := andn_zero h23 h21 h26 rfl rfl (by omega)
          have := sub_sb h23 h21 rfl rfl (by omega) (by omega) (by omega) (by omega)
          refine En_Ps 1 (pc' := 25) (lv' := [(0, .ref 4), (1, .int a), (2, .int y1)]) (st' := [.ref 4]) rfl ?_
          refine En_getU (j := 2) (u := 5) (g' := 5) (q := 0) rfl rfl rfl tgz_4 (by decide +kernel) h4 (by decide +kernel) (by decide +kernel) (fun h31 => ?_)
          refine En_Ps 1 (pc' := 29) (lv' := [(0, .ref 4), (1, .int a), (2, .int y1)]) (st' := [.ref 4, .ref 5]) rfl ?_
          refine En_getK (j := 1) h7 rfl rfl rfl tgz_4 (by decide +kernel) ?_
          refine En_Ps 1 (pc' := 33) (lv' := [(0, .ref 4), (1, .int a), (2, .int y1)]) (st' := [.int a, .int y2, .ref 5]) rfl ?_
          refine En_iast (l := 0) (u := 15) rfl rfl tgz_5 (by decide +kernel) (by first | exact q_58e6e51dcc h10 | omega) (lnI (by decide +kernel : LN _ = 81) (by first | exact q_3c107d4d4e h19 | omega)) (FTsgl (by decide +kernel)) (rngI rfl (by first | exact q_58e6e51dcc hl_a | omega) (by first | exact q_5a4d8a7e08 hu_a | omega)) h4 h5 (by decide +kernel) (fun σ33 h34 h35 h36 h37 => ?_)
          refine En_Ps 1 (pc' := 35) (lv' := [(0, .ref 4), (1, .int a), (2, .int y1)]) (st' := [.ref 4]) rfl ?_
          refine En_getU (j := 3) (u := 6) (g' := 6) (q := 0) rfl rfl rfl tgz_4 (by decide +kernel) h34 (by decide +kernel) (by decide +kernel) (fun h38 => ?_)
          refine En_Ps 1 (pc' := 39) (lv' := [(0, .ref 4), (1, .int a), (2, .int y1)]) (st' := [.ref 4, .ref 6]) rfl ?_
          refine En_getK (j := 1) ((h37 _ _ (Or.inl (neTG tgz_4 tgz_5 (by decide)))).trans h7) rfl rfl rfl tgz_4 (by decide +kernel) ?_
          refine En_Ps 1 (pc' := 43) (lv' := [(0, .ref 4), (1, .int a), (2, .int y1)]) (st' := [.int y1, .int y2, .ref 6]) rfl ?_
          refine En_iast (l := 0) (u := 15) rfl rfl tgz_6 (by decide +kernel) (by first | exact q_58e6e51dcc h10 | omega) (lnI (by decide +kernel : LN _ = 81) (by first | exact q_3c107d4d4e h19 | omega)) (FTsgl (by decide +kernel)) (rngI rfl (by first | exact q_58e6e51dcc h8 | omega) (by first | exact q_c91fdb11f1 h17 hu_a | omega)) h34 h35 (by decide +kernel) (fun σ40 h41 h42 h43 h44 => ?_)
          refine En_Ps 1 (pc' := 45) (lv' := [(0, .ref 4), (1, .int a), (2, .int y1)]) (st' := [.ref 4]) rfl ?_
          refine En_getU (j := 4) (u := 7) (g' := 7) (q := 0) rfl rfl rfl tgz_4 (by decide +kernel) h41 (by decide +kernel) (by decide +kernel) (fun h45 => ?_)
          refine En_Ps 1 (pc' := 49) (lv' := [(0, .ref 4), (1, .int a), (2, .int y1)]) (st' := [.ref 4, .ref 7]) rfl ?_
          refine En_getK (j := 1) ((h44 _ _ (Or.inl (neTG tgz_4 tgz_6 (by decide)))).trans ((h37 _ _ (Or.inl (neTG tgz_4 tgz_5 (by decide)))).trans h7)) rfl rfl rfl tgz_4 (by decide +kernel) ?_
          refine En_Ps 3 (pc' := 55) (lv' := [(0, .ref 4), (1, .int a), (2, .int y1)]) (st' := [.int y1, .int a, .ref 4, .int y2, .ref 7]) rfl ?_
          refine En_callV rfl rfl rfl rfl rfl rfl rfl rfl tgz_4 (by decide +kernel) rfl (c_77ax σ40 h41 a y1 (geI rfl (by first | exact q_58e6e51dcc hl_a | omega)) (leI rfl (by first | exact q_5a4d8a7e08 hu_a | omega)) kk ((h44 _ _ (Or.inl (neTG tgz_4 tgz_6 (by decide)))).trans ((h37 _ _ (Or.inl (neTG tgz_4 tgz_5 (by decide)))).trans h6))) (by decide) (by decide) (fun v48 σ49 h47 => ?_)
          obtain ⟨h50, h51, z53, rfl, h52⟩ := h47
          have h54 := h52.2.2
          obtain rfl : σ40 = σ49 := Fr_nil h51
          refine En_iast (l := (-2147483648)) (u := 2147483647) rfl rfl tgz_7 (by decide +kernel) (by first | exact q_58e6e51dcc h10 | omega) (lnI (by decide +kernel : LN _ = 81) (by first | exact q_3c107d4d4e h19 | omega)) (FTsgl (by decide +kernel)) (fullI _) h41 h42 (by decide +kernel) (fun σ55 h56 h57 h58 h59 => ?_)
          refine En_Ps 2 (pc' := 61) (lv' := [(0, .ref 4), (1, .int a), (2, .int y1)]) (st' := [.ref 4, .ref 4]) rfl ?_
          refine En_getK (j := 1) ((h59 _ _ (Or.inl (neTG tgz_4 tgz_7 (by decide)))).trans ((h44 _ _ (Or.inl (neTG tgz_4 tgz_6 (by decide)))).trans ((h37 _ _ (Or.inl (neTG tgz_4 tgz_5 (by decide)))).trans h7))) rfl rfl rfl tgz_4 (by decide +kernel) ?_
          refine En_Ps 2 (pc' := 66) (lv' := [(0, .ref 4), (1, .int a), (2, .int y1)]) (st' := [.int ((y2 + ((Int32.ofInt 1)))), .ref 4]) rfl ?_
          refine En_top (addI rfl (by decide : (Int32.ofInt 1).toInt = 1) (by first | exact q_465ab79ac1 h10 | omega) (by first | exact q_3491810b60 h19 | omega)) (fun z60 h61 => ?_)
          refine En_put (j := 1) rfl rfl rfl tgz_4 (by decide +kernel) rfl (vI (l := 0) (u := 81) (by decide +kernel) rfl (by first | exact q_35104ce9d3 h61 h10 | omega) (by first | exact q_47b60a236e h61 h19 | omega)) h56 h57 (by decide +kernel) (fun σ62 h63 h64 h65 h66 => ?_)
          refine En_Ps 1 (pc' := 72) (lv' := [(2, .int ((y1 + Int32.ofInt 1))), (0, .ref 4), (1, .int a)]) (st' := []) rfl ?_
          refine En_lv1 (addI rfl (by decide : (Int32.ofInt 1).toInt = 1) (by first | exact q_465ab79ac1 h8 | omega) (by first | exact q_f3f8e04381 h9 | omega)) (fun z67 h68 => ?_)
          refine En_Ps 1 (pc' := 2) (lv' := [(2, .int z67), (0, .ref 4), (1, .int a)]) (st' := []) rfl ?_
          refine En_lv (lv := [(0, .ref 4), (1, .int a), (2, .int z67)]) ⟨rfl, rfl, rfl, trivial⟩ ?_
          exact ih2 σ62 z67 z60 h63 h64 ((h66 _ _ (Or.inr (by decide))).trans ((h59 _ _ (Or.inl (neTG tgz_4 tgz_7 (by decide)))).trans ((h44 _ _ (Or.inl (neTG tgz_4 tgz_6 (by decide)))).trans ((h37 _ _ (Or.inl (neTG tgz_4 tgz_5 (by decide)))).trans h6)))) h65 (by first | exact q_35104ce9d3 h68 h8 | omega) (by first | exact q_3d3df992fe h68 h17 hu_a | omega) (by first | exact q_35104ce9d3 h61 h10 | omega) (by first | exact q_47b60a236e h61 h19 | omega) (by first | exact q_521b808ea1 h17 h68 | omega) (by first | exact q_1ead1c75dd h13 h61 h68 | omega) (by first | exact q_c5d740bdff h68 h14 | omega) (RV_put h15 (by omega) (by omega) rfl rfl (by omega) (by omega)) (TB_ne (TB_put h16 hK h15 (by omega) (by omega) h36 h37 h43 h44 h58 h59 (by decide) (by decide) (by decide) (by omega) (by omega) (by omega) (by omega) (by omega) (by omega) (by omega) (by omega)) h66 (by decide) (by decide) (by decide))
  have := (by decide : (Int32.ofInt 0).toInt = 0)
  refine En_lv (lv := [(0, .ref 4), (1, .int a), (2, .int ((Int32.ofInt 0)))]) ⟨rfl, rfl, rfl, trivial⟩ ?_
  exact key2 (Int.toNat (16) + 1) σ0 ((Int32.ofInt 0)) sz hσ0 hF0 h_kk h_sz (by decide) (by decide) (by first | exact q_58e6e51dcc hl_sz | omega) (by first | exact q_938d18a0b8 hu_sz | omega) (by omega) (by omega) (by first | exact toN_lt _ | omega) (RV_in hN hm hb rfl rfl (by omega) (by omega)) (hT)
/-- DoorSchool$Rules.prepare(I)V -/
abbrev P_82x (σ0 : SG) (a : Int32) : PO := fun v σ => WT σ ∧ Fr [(4, 0), (4, 1), (5, 0), (6, 0), (7, 0)] σ0 σ ∧ v = none ∧ RULx σ a.toInt
set_option maxRecDepth 10000 in
set_option maxHeartbeats 4000000 in
theorem c_82x (σ0 : SG) (hσ0 : WT σ0) (a : Int32) (hl_a : 0 ≤ a.toInt) (hu_a : a.toInt ≤ 4) : En 2 46 none mr_82 (P_82x σ0 a) 0 [(0, .ref 4), (1, .int a)] [] σ0 := by
  have hF0 : Fr [(4, 0), (4, 1), (5, 0), (6, 0), (7, 0)] σ0 σ0 := Fr_rfl
  refine En_Ps 4 (pc' := 4) (lv' := [(0, .ref 4), (1, .int a)]) (st' := [.int ((((Int32.ofInt 1)) <<< (a &&& 31))), .ref 4]) rfl ?_
  refine En_nam (fun z1 h2 => ?_)
  have h3 : z1.toInt = pI a.toInt := shl_v h2 rfl (by omega) (by omega)
  have := pI_pos a.toInt
  have : pI a.toInt ≤ 16 := pI_mono (Y := 4) (by omega)
  refine En_put (j := 0) rfl rfl rfl tgz_4 (by decide +kernel) rfl (vI (l := 0) (u := 16) (by decide +kernel) rfl (by omega) (by omega)) hσ0 hF0 (by decide +kernel) (fun σ4 h5 h6 h7 h8 => ?_)
  refine En_Ps 2 (pc' := 9) (lv' := [(0, .ref 4), (1, .int a)]) (st' := [.int ((Int32.ofInt 0)), .ref 4]) rfl ?_
  refine En_put (j := 1) rfl rfl rfl tgz_4 (by decide +kernel) rfl (vI (l := 0) (u := 81) (by decide +kernel) (by decide : (Int32.ofInt 0).toInt = 0) (by decide) (by decide)) h5 h6 (by decide +kernel) (fun σ9 h10 h11 h12 h13 => ?_)
  refine En_Ps 2 (pc' := 14) (lv' := [(2, .int ((Int32.ofInt 0))), (0, .ref 4), (1, .int a)]) (st' := []) rfl ?_
  have key14 : ∀ (n14 : Nat) (σ16 : SG) (y14 : Int32) (y15 : Int32), WT σ16 → Fr [(4, 0), (4, 1), (5, 0), (6, 0), (7, 0)] σ0 σ16 → (σ16 4)[0]? = some (.int z1) → (σ16 4)[1]? = some (.int y15) → 0 ≤ y14.toInt → y14.toInt ≤ 5 → 0 ≤ y15.toInt → y15.toInt ≤ 81 → y14.toInt - a.toInt - 1 ≤ 0 → -y14.toInt + 5 < (n14 : Int) → RN z1.toInt y14.toInt 0 y15.toInt → TB σ16 5 6 7 z1.toInt y15.toInt → En 2 46 none mr_82 (P_82x σ0 a) 14 [(0, .ref 4), (1, .int a), (2, .int y14)] [] σ16 := by
    intro n14
    induction n14 with
    | zero =>
      intro σ16 y14 y15 h17 h18 h19 h20 h21 h22 h23 h24 h25 h26 h27 h28
      first | exact (q_94ef5d5129 h26 h22).elim | (exfalso; omega)
    | succ n14 ih14 =>
      intro σ16 y14 y15 h17 h18 h19 h20 h21 h22 h23 h24 h25 h26 h27 h28
      refine En_Ps 2 (pc' := 16) (lv' := [(0, .ref 4), (1, .int a), (2, .int y14)]) (st' := [.int a, .int y14]) rfl ?_
      refine En_icGt _ rfl rfl rfl (fun h29 => ?_) (fun h29 => ?_)
      · exact En_ret (v := none) rfl rfl rfl ⟨h17, h18, rfl, (by have ek : z1.toInt = pI a.toInt := (by omega); have er := RN_end (s := a.toInt) (by omega) (by omega) ek h27 (by omega) rfl; exact ⟨(ci_at (j := 0) h19 rfl).trans ek, (ci_at (j := 1) h20 rfl).trans er, by rw [← ek, ← er]; exact h28⟩)⟩
      · refine En_Ps 2 (pc' := 21) (lv' := [(3, .int ((Int32.ofInt 0))), (0, .ref 4), (1, .int a), (2, .int y14)]) (st' := []) rfl ?_
        have key21 : ∀ (n21 : Nat) (σ32 : SG) (y30 : Int32) (y31 : Int32), WT σ32 → Fr [(4, 0), (4, 1), (5, 0), (6, 0), (7, 0)] σ0 σ32 → (σ32 4)[0]? = some (.int z1) → (σ32 4)[1]? = some (.int y31) → 0 ≤ y30.toInt → y30.toInt ≤ 16 → 0 ≤ y31.toInt → y31.toInt ≤ 81 → y30.toInt - z1.toInt ≤ 0 → z1.toInt - y30.toInt < (n21 : Int) → RN z1.toInt y14.toInt y30.toInt y31.toInt → TB σ32 5 6 7 z1.toInt y31.toInt → En 2 46 none mr_82 (P_82x σ0 a) 21 [(0, .ref 4), (1, .int a), (2, .int y14), (3, .int y30)] [] σ32 := by
          intro n21
          induction n21 with
          | zero =>
            intro σ32 y30 y31 h33 h34 h35 h36 h37 h38 h39 h40 h41 h42 h43 h44
            first | exact (q_14257feae7 h41 h42).elim | (exfalso; omega)
          | succ n21 ih21 =>
            intro σ32 y30 y31 h33 h34 h35 h36 h37 h38 h39 h40 h41 h42 h43 h44
            refine En_Ps 2 (pc' := 23) (lv' := [(0, .ref 4), (1, .int a), (2, .int y14), (3, .int y30)]) (st' := [.ref 4, .int y30]) rfl ?_
            refine En_getK (j := 0) h35 rfl rfl rfl tgz_4 (by decide +kernel) ?_
            refine En_icGe _ rfl rfl rfl (fun h45 => ?_) (fun h45 => ?_)
            · refine En_Ps 1 (pc' := 51) (lv' := [(2, .int ((y14 + Int32.ofInt 1))), (0, .ref 4), (1, .int a), (3, .int y30)]) (st' := []) rfl ?_
              refine En_lv1 (addI rfl (by decide : (Int32.ofInt 1).toInt = 1) (by first | exact q_465ab79ac1 h21 | omega) (by first | exact q_aeda34609f h22 | omega)) (fun z46 h47 => ?_)
              refine En_Ps 1 (pc' := 14) (lv' := [(2, .int z46), (0, .ref 4), (1, .int a), (3, .int y30)]) (st' := []) rfl ?_
              refine En_lv (lv := [(0, .ref 4), (1, .int a), (2, .int z46)]) ⟨rfl, rfl, rfl, trivial⟩ ?_
              exact ih14 σ32 z46 y31 h33 h34 h35 h36 (by first | exact q_35104ce9d3 h47 h21 | omega) (by first | exact q_45f670d5d5 h47 h29 hu_a | omega) (by first | exact q_58e6e51dcc h39 | omega) (by first | exact q_938d18a0b8 h40 | omega) (by first | exact q_521b808ea1 h29 h47 | omega) (by first | exact q_4f8c136792 h47 h26 | omega) (RN_n h43 (by omega) (by omega) (by omega) rfl (by omega)) (TB_eq h44 (by omega))
            · refine En_Ps 1 (pc' := 30) (lv' := [(0, .ref 4), (1, .int a), (2, .int y14), (3, .int y30)]) (st' := [.int y30]) rfl ?_
              refine En_callS rfl rfl rfl rfl rfl rfl rfl rfl rfl (c_7ax σ32 h33 y30 (geI rfl (by first | exact q_58e6e51dcc h37 | omega)) (leI rfl (by omega))) (by decide) (by decide) (fun v49 σ50 h48 => ?_)
              obtain ⟨h51, h52, z54, rfl, h53⟩ := h48
              have h55 := h53.2.2
              obtain rfl : σ32 = σ50 := Fr_nil h52
              refine En_Ps 1 (pc' := 34) (lv' := [(0, .ref 4), (1, .int a), (2, .int y14), (3, .int y30)]) (st' := [.int y14, .int z54]) rfl ?_
              refine En_icNe _ rfl rfl rfl (fun h56 => ?_) (fun h56 => ?_)
              · refine En_Ps 1 (pc' := 45) (lv' := [(3, .int ((y30 + Int32.ofInt 1))), (0, .ref 4), (1, .int a), (2, .int y14)]) (st' := []) rfl ?_
                refine En_lv1 (addI rfl (by decide : (Int32.ofInt 1).toInt = 1) (by first | exact q_465ab79ac1 h37 | omega) (by first | exact q_f3f8e04381 h38 | omega)) (fun z57 h58 => ?_)
                refine En_Ps 1 (pc' := 21) (lv' := [(3, .int z57), (0, .ref 4), (1, .int a), (2, .int y14)]) (st' := []) rfl ?_
                refine En_lv (lv := [(0, .ref 4), (1, .int a), (2, .int y14), (3, .int z57)]) ⟨rfl, rfl, rfl, rfl, trivial⟩ ?_
                exact ih21 σ32 z57 y31 h33 h34 h35 h36 (by first | exact q_35104ce9d3 h58 h37 | omega) (by omega) (by first | exact q_58e6e51dcc h39 | omega) (by first | exact q_938d18a0b8 h40 | omega) (by first | exact q_ae2dbf4292 h45 h58 | omega) (by first | exact q_8d03a5a7cb h58 h42 | omega) (RN_skip h43 (by omega) (by omega) (by omega) (by omega) (by omega)) (TB_eq h44 (by omega))
              · refine En_Ps 2 (pc' := 39) (lv' := [(0, .ref 4), (1, .int a), (2, .int y14), (3, .int y30)]) (st' := [.int y30, .ref 4]) rfl ?_
                refine En_callV rfl rfl rfl rfl rfl rfl rfl rfl tgz_4 (by decide +kernel) rfl (c_76x σ32 h33 y30 (geI rfl (by first | exact q_58e6e51dcc h37 | omega)) (leI rfl (by omega)) z1 h35 y31 h36 h43 (by omega) (by omega) h44 (by rw [show z1.toInt = pI a.toInt by omega]; exact P2_pI (by omega) (by omega))) (by decide) (by decide) (fun v60 σ61 h59 => ?_)
                obtain ⟨h62, h63, z65, h66, rfl, h64⟩ := h59
                have h67 := h64.2.2.2
                have h68 := Fr_trans h34 h63 (by decide +kernel)
                refine En_Ps 1 (pc' := 45) (lv' := [(3, .int ((y30 + Int32.ofInt 1))), (0, .ref 4), (1, .int a), (2, .int y14)]) (st' := []) rfl ?_
                refine En_lv1 (addI rfl (by decide : (Int32.ofInt 1).toInt = 1) (by first | exact q_465ab79ac1 h37 | omega) (by first | exact q_f3f8e04381 h38 | omega)) (fun z69 h70 => ?_)
                refine En_Ps 1 (pc' := 21) (lv' := [(3, .int z69), (0, .ref 4), (1, .int a), (2, .int y14)]) (st' := []) rfl ?_
                refine En_lv (lv := [(0, .ref 4), (1, .int a), (2, .int y14), (3, .int z69)]) ⟨rfl, rfl, rfl, rfl, trivial⟩ ?_
                exact ih21 σ61 z69 z65 h62 h68 ((h63 _ _ (inW tgz_4 (by decide +kernel))).trans h35) h66 (by first | exact q_35104ce9d3 h70 h37 | omega) (by omega) (by first | exact q_ef1e8e38bf h64.1 | omega) (by first | exact q_e0af57759e h64.2.1 | omega) (by first | exact q_ae2dbf4292 h45 h70 | omega) (by first | exact q_8d03a5a7cb h70 h42 | omega) (RN_eq h67.1 (by omega) (by omega) (by omega)) (TB_eq h67.2 (by omega))
        have := (by decide : (Int32.ofInt 0).toInt = 0)
        refine En_lv (lv := [(0, .ref 4), (1, .int a), (2, .int y14), (3, .int ((Int32.ofInt 0)))]) ⟨rfl, rfl, rfl, rfl, trivial⟩ ?_
        exact key21 (Int.toNat (z1.toInt) + 1) σ16 ((Int32.ofInt 0)) y15 h17 h18 h19 h20 (by decide) (by decide) (by first | exact q_58e6e51dcc h23 | omega) (by first | exact q_938d18a0b8 h24 | omega) (by omega) (by first | exact toN_lt _ | omega) (RN_eq h27 (by omega) (by omega) (by omega)) (TB_eq h28 (by omega))
  have := (by decide : (Int32.ofInt 0).toInt = 0)
  have := (by decide : (Int32.ofInt 0).toInt = 0)
  refine En_lv (lv := [(0, .ref 4), (1, .int a), (2, .int ((Int32.ofInt 0)))]) ⟨rfl, rfl, rfl, trivial⟩ ?_
  exact key14 (Int.toNat (5) + 1) σ9 ((Int32.ofInt 0)) ((Int32.ofInt 0)) h10 h11 ((h13 _ _ (Or.inr (by decide))).trans h7) h12 (by decide) (by decide) (by decide) (by decide) (by omega) (by first | exact toN_lt _ | omega) (RN_0 (by have := pI_rng (s := a.toInt) (by omega) (by omega); constructor <;> omega) (by omega) rfl (by omega)) (TB_0 (by omega))
/-- DoorSchool$Tape.append(I)V -/
abbrev P_90x (σ0 : SG) (a : Int32) (m : Int32) : PO := fun v σ => WT σ ∧ Fr [(1, 1), (2, 0)] σ0 σ ∧ ∃ m1 : Int32, (σ 1)[1]? = some (.int m1) ∧ v = none ∧ -m1.toInt + 4 ≤ 0 ∧ m1.toInt - 1600 ≤ 0 ∧ -m1.toInt + m.toInt ≤ 0 ∧ m1.toInt - m.toInt - 4 ≤ 0 ∧ Imp (m.toInt - 1596 ≤ 0) (m1.toInt - m.toInt - 4 ≤ 0 ∧ -m1.toInt + m.toInt + 4 ≤ 0) ∧ APB σ0 σ 2 m.toInt (m1.toInt - m.toInt) a
set_option maxRecDepth 10000 in
set_option maxHeartbeats 4000000 in
theorem c_90x (σ0 : SG) (hσ0 : WT σ0) (a : Int32) (m : Int32) (h_m : (σ0 1)[1]? = some (.int m)) : En 0 0 none mr_90 (P_90x σ0 a m) 0 [(0, .ref 1), (1, .int a)] [] σ0 := by
  obtain ⟨hl_m, hu_m⟩ := WT_int hσ0 (g := 1) (by decide +kernel) (by decide +kernel) (l := 0) (u := 1600) (by decide +kernel) h_m
  have hF0 : Fr [(1, 1), (2, 0)] σ0 σ0 := Fr_rfl
  refine En_Ps 2 (pc' := 3) (lv' := [(2, .int (((Int8.ofInt 24).toInt32))), (0, .ref 1), (1, .int a)]) (st' := []) rfl ?_
  have key3 : ∀ (n3 : Nat) (σ3 : SG) (y1 : Int32) (y2 : Int32), WT σ3 → Fr [(1, 1), (2, 0)] σ0 σ3 → (σ3 1)[1]? = some (.int y2) → (-8) ≤ y1.toInt → y1.toInt ≤ 24 → 0 ≤ y2.toInt → y2.toInt ≤ 1600 → y1.toInt + 8 * y2.toInt - 8 * m.toInt - 24 ≤ 0 → 8 * m.toInt - y1.toInt - 8 * y2.toInt + 24 ≤ 0 → y1.toInt + 8 < (n3 : Int) → APB σ0 σ3 2 m.toInt (y2.toInt - m.toInt) a → En 0 0 none mr_90 (P_90x σ0 a m) 3 [(0, .ref 1), (1, .int a), (2, .int y1)] [] σ3 := by
    intro n3
    induction n3 with
    | zero =>
      intro σ3 y1 y2 h4 h5 h6 h7 h8 h9 h10 h11 h12 h13 h14
      first | exact (q_aaa8ec4ef7 h7 h13).elim | (exfalso; omega)
    | succ n3 ih3 =>
      intro σ3 y1 y2 h4 h5 h6 h7 h8 h9 h10 h11 h12 h13 h14
      refine En_Ps 1 (pc' := 4) (lv' := [(0, .ref 1), (1, .int a), (2, .int y1)]) (st' := [.int y1]) rfl ?_
      refine En_iLt _ rfl rfl (fun h15 => ?_) (fun h15 => ?_)
      · exact En_ret (v := none) rfl rfl rfl ⟨h4, h5, y2, h6, rfl, ⟨by first | exact q_8eb5dc48db h12 hl_m h15 | omega, by first | exact q_5a08281576 h10 | omega, by first | exact q_e38c9d072d h12 h15 | omega, by first | exact q_fff200e16d h11 h7 | omega, fun hh => by first | exact ⟨q_fff200e16d h11 h7, q_782153f87a h12 h15⟩ | omega, APB_c h14 (by omega)⟩⟩
      · refine En_Ps 1 (pc' := 8) (lv' := [(0, .ref 1), (1, .int a), (2, .int y1)]) (st' := [.ref 1]) rfl ?_
        refine En_getK (j := 1) h6 rfl rfl rfl tgz_1 (by decide +kernel) ?_
        refine En_Ps 1 (pc' := 12) (lv' := [(0, .ref 1), (1, .int a), (2, .int y1)]) (st' := [.ref 1, .int y2]) rfl ?_
        refine En_getU (j := 0) (u := 2) (g' := 2) (q := 0) rfl rfl rfl tgz_1 (by decide +kernel) h4 (by decide +kernel) (by decide +kernel) (fun h16 => ?_)
        refine En_alenN (n := 1600) rfl tgz_2 (by decide +kernel) (by decide +kernel) h4 ?_
        refine En_icGe _ rfl (by decide : (Int32.ofNat 1600).toInt = 1600) rfl (fun h18 => ?_) (fun h18 => ?_)
        · exact En_ret (v := none) rfl rfl rfl ⟨h4, h5, y2, h6, rfl, ⟨by first | exact q_11a59a8b8a h18 | omega, by first | exact q_5a08281576 h10 | omega, by first | exact q_b4fb6b5916 hu_m h18 | omega, by first | exact q_e822212b76 h11 h15 | omega, fun hh => by first | exact ⟨q_e822212b76 h11 h15, q_0ac42f1f87 hh h18⟩ | omega, APB_c h14 (by omega)⟩⟩
        · refine En_Ps 1 (pc' := 20) (lv' := [(0, .ref 1), (1, .int a), (2, .int y1)]) (st' := [.ref 1]) rfl ?_
          refine En_getK (j := 0) h16 rfl rfl rfl tgz_1 (by decide +kernel) ?_
          refine En_Ps 1 (pc' := 24) (lv' := [(0, .ref 1), (1, .int a), (2, .int y1)]) (st' := [.ref 1, .ref 2]) rfl ?_
          refine En_getK (j := 1) h6 rfl rfl rfl tgz_1 (by decide +kernel) ?_
          refine En_Ps 4 (pc' := 31) (lv' := [(0, .ref 1), (1, .int a), (2, .int y1)]) (st' := [.int ((((a.toUInt32 >>> (y1.toUInt32 &&& Int32.toUInt32 31)).toInt32).toInt8.toInt32)), .int y2, .ref 2]) rfl ?_
          refine En_nam (fun z19 h20 => ?_)
          have h21 := b4_u (j := y2.toInt - m.toInt) h20 (by omega) (by omega) (by omega)
          have h22 := b4_rng a (y2.toInt - m.toInt)
          refine En_bast (l := (-128)) (u := 127) rfl rfl tgz_2 (by decide +kernel) (narB rfl (by omega) (by omega)) (by first | exact q_58e6e51dcc h9 | omega) (lnI (by decide +kernel : LN _ = 1600) (by first | exact q_91d929c3b7 h18 | omega)) (FTsgl (by decide +kernel)) (rngI rfl (by omega) (by omega)) h4 h5 (by decide +kernel) (fun σ23 h24 h25 h26 h27 => ?_)
          have h28 := APB_s (J := y2.toInt) (y := y2.toInt - m.toInt) (y' := y2.toInt - m.toInt + 1) h14 h26 h27 (by omega) (by omega) (by omega) h21 rfl
          refine En_Ps 2 (pc' := 34) (lv' := [(0, .ref 1), (1, .int a), (2, .int y1)]) (st' := [.ref 1, .ref 1]) rfl ?_
          refine En_getK (j := 1) ((h27 _ _ (Or.inl (neTG tgz_1 tgz_2 (by decide)))).trans h6) rfl rfl rfl tgz_1 (by decide +kernel) ?_
          refine En_Ps 2 (pc' := 39) (lv' := [(0, .ref 1), (1, .int a), (2, .int y1)]) (st' := [.int ((y2 + ((Int32.ofInt 1)))), .ref 1]) rfl ?_
          refine En_top (addI rfl (by decide : (Int32.ofInt 1).toInt = 1) (by first | exact q_465ab79ac1 h9 | omega) (by first | exact q_65d0e719f1 h18 | omega)) (fun z29 h30 => ?_)
          refine En_put (j := 1) rfl rfl rfl tgz_1 (by decide +kernel) rfl (vI (l := 0) (u := 1600) (by decide +kernel) rfl (by first | exact q_35104ce9d3 h30 h9 | omega) (by first | exact q_bd0a0ef61b h30 h18 | omega)) h24 h25 (by decide +kernel) (fun σ31 h32 h33 h34 h35 => ?_)
          have h36 := APB_ne h28 h35 (by decide)
          refine En_Ps 1 (pc' := 45) (lv' := [(2, .int ((y1 + Int32.ofInt (-8)))), (0, .ref 1), (1, .int a)]) (st' := []) rfl ?_
          refine En_lv1 (addI rfl (by decide : (Int32.ofInt (-8)).toInt = -8) (by first | exact q_ec6288e748 h15 | omega) (by first | exact q_42504f709a h8 | omega)) (fun z37 h38 => ?_)
          refine En_Ps 1 (pc' := 3) (lv' := [(2, .int z37), (0, .ref 1), (1, .int a)]) (st' := []) rfl ?_
          refine En_lv (lv := [(0, .ref 1), (1, .int a), (2, .int z37)]) ⟨rfl, rfl, rfl, trivial⟩ ?_
          exact ih3 σ31 z37 z29 h32 h33 h34 (by first | exact q_f421fefebe h38 h15 | omega) (by first | exact q_23be4890e8 h38 h8 | omega) (by first | exact q_35104ce9d3 h30 h9 | omega) (by first | exact q_bd0a0ef61b h30 h18 | omega) (by first | exact q_afee5e327f h11 h30 h38 | omega) (by first | exact q_5330391d26 h12 h30 h38 | omega) (by first | exact q_c7d998f5aa h38 h13 | omega) (APB_c h36 (by omega))
  have := (by decide : ((Int8.ofInt 24).toInt32).toInt = 24)
  refine En_lv (lv := [(0, .ref 1), (1, .int a), (2, .int (((Int8.ofInt 24).toInt32)))]) ⟨rfl, rfl, rfl, trivial⟩ ?_
  exact key3 (Int.toNat (32) + 1) σ0 (((Int8.ofInt 24).toInt32)) m hσ0 hF0 h_m (by decide) (by decide) (by first | exact q_58e6e51dcc hl_m | omega) (by first | exact q_246f9048f8 hu_m | omega) (by omega) (by omega) (by first | exact toN_lt _ | omega) (APB_0 (by omega))
/-- DoorSchool.back(I)I -/
abbrev P_105x (σ0 : SG) (a : Int32) (p : Nat) (sg : Int32) (p2 : Nat) : PO := fun v σ => WT σ ∧ Fr [(4, 0), (4, 1), (5, 0), (6, 0), (7, 0), (18, 0), (18, 1), (18, 2), (18, 3), (18, 6), (18, 7), (18, 8), (18, 11), (18, 14), (20, 2), (21, 0), (22, 0), (23, 0), (24, 0), (25, 0), (26, 0), (27, 0), (28, 1), (28, 2), (28, 3)] σ0 σ ∧ ∃ ret : Int32, v = some (.int ret) ∧ -ret.toInt - 6 ≤ 0 ∧ ret.toInt ≤ 0 ∧ (INVc σ ∧ BCK (ci σ0 71 a.toInt) a.toInt ret.toInt ∧ BKC σ0 σ p a.toInt (ci σ0 71 a.toInt) ∧ RBK σ0 σ p a.toInt (ci σ0 71 a.toInt))
set_option maxRecDepth 10000 in
set_option maxHeartbeats 4000000 in
theorem c_105x (σ0 : SG) (hσ0 : WT σ0) (a : Int32) (p : Nat) (hp : TG p = 18) (h_p : (σ0 0)[9]? = some (.ref p)) (sg : Int32) (h_sg : (σ0 p)[1]? = some (.int sg)) (p2 : Nat) (hp2 : TG p2 = 18) (h_p2 : (σ0 0)[10]? = some (.ref p2)) (hp0 : -sg.toInt ≤ 0) (hne : p ≠ p2) (hP : PLA p) (hX : FXP σ0 p) (hM : IMX σ0) : En 4 124 none mr_105 (P_105x σ0 a p sg p2) 0 [(0, .ref 0), (1, .int a)] [] σ0 := by
  obtain ⟨hl_sg, hu_sg⟩ := WT_int hσ0 (g := 18) hp (by decide +kernel) (l := (-1)) (u := 4) (by decide +kernel) h_sg
  have hF0 : Fr [(4, 0), (4, 1), (5, 0), (6, 0), (7, 0), (18, 0), (18, 1), (18, 2), (18, 3), (18, 6), (18, 7), (18, 8), (18, 11), (18, 14), (20, 2), (21, 0), (22, 0), (23, 0), (24, 0), (25, 0), (26, 0), (27, 0), (28, 1), (28, 2), (28, 3)] σ0 σ0 := Fr_rfl
  refine En_Ps 1 (pc' := 1) (lv' := [(0, .ref 0), (1, .int a)]) (st' := [.int a]) rfl ?_
  refine En_iLt _ rfl rfl (fun h1 => ?_) (fun h1 => ?_)
  · refine En_Ps 1 (pc' := 11) (lv' := [(0, .ref 0), (1, .int a)]) (st' := [.int (((Int8.ofInt (-2)).toInt32))]) rfl ?_
    refine En_top (by decide : ((Int8.ofInt (-2)).toInt32).toInt = -2) (fun z2 h3 => ?_)
    exact En_ret (v := some (.int z2)) rfl rfl rfl ⟨hσ0, hF0, z2, rfl, ⟨by first | exact q_2583522324 h3 | omega, by first | exact q_bbb39ffa1e h3 | omega, ⟨⟨p, p2, sg, hp, hp2, h_p, h_p2, hne, h_sg, (by omega)⟩, BCK_2 (by omega) (by omega), BKC_no (by omega), ⟨fun _ _ _ => by exfalso; omega, fun _ => RSAM_0⟩⟩⟩⟩
  · refine En_Ps 2 (pc' := 6) (lv' := [(0, .ref 0), (1, .int a)]) (st' := [.int ((Int32.ofInt 3)), .int a]) rfl ?_
    refine En_icLt _ rfl (by decide : (Int32.ofInt 3).toInt = 3) rfl (fun h4 => ?_) (fun h4 => ?_)
    · refine En_Ps 1 (pc' := 13) (lv' := [(0, .ref 0), (1, .int a)]) (st' := [.ref 0]) rfl ?_
      refine En_getU (j := 8) (u := 71) (g' := 30) (q := 0) rfl rfl rfl tgz_0 (by decide +kernel) hσ0 (by decide +kernel) (by decide +kernel) (fun h5 => ?_)
      refine En_Ps 1 (pc' := 17) (lv' := [(0, .ref 0), (1, .int a)]) (st' := [.int a, .ref 71]) rfl ?_
      refine En_bald (l := 0) (u := 1) rfl rfl tgz_71 (by decide +kernel) hσ0 (by first | exact q_58e6e51dcc h1 | omega) (lnI (by decide +kernel : LN _ = 3) (by first | exact q_59613c85e7 h4 | omega)) (FTsgl (by decide +kernel)) (fun z8 h7 h9 h10 => ?_)
      have h11 := ci_at h7 (rfl : a.toInt = a.toInt)
      refine En_iNe _ rfl rfl (fun h12 => ?_) (fun h12 => ?_)
      · refine En_Ps 1 (pc' := 25) (lv' := [(0, .ref 0), (1, .int a)]) (st' := [.ref 0]) rfl ?_
        refine En_getK (j := 9) h_p rfl rfl rfl tgz_0 (by decide +kernel) ?_
        refine En_Ps 1 (pc' := 29) (lv' := [(0, .ref 0), (1, .int a)]) (st' := [.ref 0, .ref p]) rfl ?_
        refine En_getU (j := 7) (u := 70) (g' := 29) (q := 0) rfl rfl rfl tgz_0 (by decide +kernel) hσ0 (by decide +kernel) (by decide +kernel) (fun h13 => ?_)
        refine En_Ps 1 (pc' := 33) (lv' := [(0, .ref 0), (1, .int a)]) (st' := [.int a, .ref 70, .ref p]) rfl ?_
        refine En_aald (g' := 31) (u := 0) rfl rfl tgz_70 (by decide +kernel) hσ0 (by first | exact q_58e6e51dcc h1 | omega) (lnI (by decide +kernel : LN _ = 3) (by first | exact q_59613c85e7 h4 | omega)) (FTsgl (by decide +kernel)) (fun a16 h15 ha16 => ?_)
        have h17 : a16 = 72 + 26 * (a.toInt).toNat := ref_uniq h15 (hM (a.toInt).toNat (by omega)).1
        refine En_callV rfl rfl rfl rfl rfl rfl rfl rfl hp (by decide +kernel) rfl (c_53bx σ0 hσ0 p hp a16 ha16 (by rw [h17]; exact (SEP_i (by omega) hP).2) hX (by rw [h17]; exact (hM (a.toInt).toNat (by omega)).2)) (by decide) (by decide) (fun v19 σ20 h18 => ?_)
        obtain ⟨h21, h22, z24, h25, rfl, h23⟩ := h18
        have h26 := h23.2.2
        have h27 := Fr_trans hF0 h22 (by decide +kernel)
        refine En_Ps 1 (pc' := 38) (lv' := [(0, .ref 0), (1, .int a)]) (st' := [.ref 0]) rfl ?_
        refine En_getU (j := 2) (u := 4) (g' := 4) (q := 0) rfl rfl rfl tgz_0 (by decide +kernel) h21 (by decide +kernel) (by decide +kernel) (fun h29 => ?_)
        refine En_Ps 1 (pc' := 42) (lv' := [(0, .ref 0), (1, .int a)]) (st' := [.ref 0, .ref 4]) rfl ?_
        refine En_getK (j := 9) ((h22 _ _ (inW tgz_0 (by decide +kernel))).trans h_p) rfl rfl rfl tgz_0 (by decide +kernel) ?_
        refine En_getK (j := 1) h25 rfl rfl rfl hp (by decide +kernel) ?_
        refine En_callV rfl rfl rfl rfl rfl rfl rfl rfl tgz_4 (by decide +kernel) rfl (c_82x σ20 h21 z24 (geI rfl (by first | exact q_ef1e8e38bf h23.1 | omega)) (leI rfl (by first | exact q_3b0dd79e8e h23.2.1 | omega))) (by decide) (by decide) (fun v32 σ33 h31 => ?_)
        obtain ⟨h34, h35, rfl, h36⟩ := h31
        have h37 := h36
        have h38 := Fr_trans h27 h35 (by decide +kernel)
        refine En_Ps 1 (pc' := 52) (lv' := [(0, .ref 0), (1, .int a)]) (st' := [.int ((Int32.ofInt 0))]) rfl ?_
        refine En_top (by decide : (Int32.ofInt 0).toInt = 0) (fun z39 h40 => ?_)
        exact En_ret (v := some (.int z39)) rfl rfl rfl ⟨h34, h38, z39, rfl, ⟨by first | exact q_49fb6350c2 h40 | omega, by first | exact q_c5d285f1b9 h40 | omega, ⟨⟨p, p2, z24, hp, hp2, ((h35 _ _ (inW tgz_0 (by decide +kernel))).trans ((h22 _ _ (inW tgz_0 (by decide +kernel))).trans h_p)), ((h35 _ _ (inW tgz_0 (by decide +kernel))).trans ((h22 _ _ (inW tgz_0 (by decide +kernel))).trans h_p2)), hne, ((h35 _ _ (inW hp (by decide +kernel))).trans h25), (by omega)⟩, BCK_0 (by omega) (by omega) (by omega) (by omega), BKC_ok (by omega) (by omega) (by omega) h26 h17 h35 (by decide +kernel) (PLA_B hP), ⟨fun _ _ _ => (RULx_eq h37 (ci_at (j := 1) ((h35 _ _ (inW hp (by decide +kernel))).trans h25) rfl)), fun _ => by exfalso; omega⟩⟩⟩⟩
      · refine En_Ps 1 (pc' := 23) (lv' := [(0, .ref 0), (1, .int a)]) (st' := [.int (((Int8.ofInt (-6)).toInt32))]) rfl ?_
        refine En_top (by decide : ((Int8.ofInt (-6)).toInt32).toInt = -6) (fun z41 h42 => ?_)
        exact En_ret (v := some (.int z41)) rfl rfl rfl ⟨hσ0, hF0, z41, rfl, ⟨by first | exact q_597c727cce h42 | omega, by first | exact q_9bcb887de1 h42 | omega, ⟨⟨p, p2, sg, hp, hp2, h_p, h_p2, hne, h_sg, (by omega)⟩, BCK_6 (by omega) (by omega) (by omega) (by omega), BKC_no (by omega), ⟨fun _ _ _ => by exfalso; omega, fun _ => RSAM_0⟩⟩⟩⟩
    · refine En_Ps 1 (pc' := 11) (lv' := [(0, .ref 0), (1, .int a)]) (st' := [.int (((Int8.ofInt (-2)).toInt32))]) rfl ?_
      refine En_top (by decide : ((Int8.ofInt (-2)).toInt32).toInt = -2) (fun z43 h44 => ?_)
      exact En_ret (v := some (.int z43)) rfl rfl rfl ⟨hσ0, hF0, z43, rfl, ⟨by first | exact q_2583522324 h44 | omega, by first | exact q_bbb39ffa1e h44 | omega, ⟨⟨p, p2, sg, hp, hp2, h_p, h_p2, hne, h_sg, (by omega)⟩, BCK_2 (by omega) (by omega), BKC_no (by omega), ⟨fun _ _ _ => by exfalso; omega, fun _ => RSAM_0⟩⟩⟩⟩
/-- DoorSchool.copy(II)I -/
abbrev P_109x (σ0 : SG) (Wv : Int → Int) (a : Int32) (b : Int32) (p : Nat) (sg : Int32) : PO := fun v σ => WT σ ∧ Fr [(28, 3)] σ0 σ ∧ ∃ ret : Int32, v = some (.int ret) ∧ -ret.toInt - 5 ≤ 0 ∧ ret.toInt - 3 ≤ 0 ∧ (KN σ p (cyW Wv a.toInt b.toInt) (act (cyW Wv a.toInt b.toInt)) ∧ OUT σ0 σ p)
set_option maxRecDepth 10000 in
set_option maxHeartbeats 4000000 in
theorem c_109x {Wv : Int → Int} (σ0 : SG) (hσ0 : WT σ0) (a : Int32) (b : Int32) (p : Nat) (hp : TG p = 18) (h_p : (σ0 0)[9]? = some (.ref p)) (sg : Int32) (h_sg : (σ0 p)[1]? = some (.int sg)) (hp0 : -sg.toInt ≤ 0) (hP : PLA p) (hX : FXP σ0 p) (hK : KN σ0 p Wv (act Wv)) : En 1 22 none mr_109 (P_109x σ0 Wv a b p sg) 0 [(0, .ref 0), (1, .int a), (2, .int b)] [] σ0 := by
  obtain ⟨hl_sg, hu_sg⟩ := WT_int hσ0 (g := 18) hp (by decide +kernel) (l := (-1)) (u := 4) (by decide +kernel) h_sg
  have hF0 : Fr [(28, 3)] σ0 σ0 := Fr_rfl
  have t1 : Wv (0) = sg.toInt := KN_v hK (Or.inl (by decide)) (by decide) (by decide) (by rw [lcO_lt (by decide) (by decide), Nat.add_zero]) rfl h_sg
  obtain ⟨z3, h2, h4, h5⟩ := WT_peekI hσ0 hp (by decide +kernel : FT 18 3 = (0, 0, 4)) (by decide +kernel)
  have t6 : Wv (2) = z3.toInt := KN_v hK (Or.inl (by decide)) (by decide) (by decide) (by rw [lcO_lt (by decide) (by decide), Nat.add_zero]) rfl h2
  refine En_Ps 1 (pc' := 1) (lv' := [(0, .ref 0), (1, .int a), (2, .int b)]) (st' := [.ref 0]) rfl ?_
  refine En_getK (j := 9) h_p rfl rfl rfl tgz_0 (by decide +kernel) ?_
  refine En_Ps 1 (pc' := 5) (lv' := [(0, .ref 0), (1, .int a), (2, .int b)]) (st' := [.int a, .ref p]) rfl ?_
  refine En_callV rfl rfl rfl rfl rfl rfl rfl rfl hp (by decide +kernel) rfl (c_47x σ0 hσ0 p hp a z3 h2) (by decide) (by decide) (fun v8 σ9 h7 => ?_)
  obtain ⟨h10, h11, z13, rfl, h12⟩ := h7
  obtain rfl : σ0 = σ9 := Fr_nil h11
  have h14 := Imp_m h12.2.2.1
  have h15 := Imp_m h12.2.2.2.1
  have h16 := Imp_m h12.2.2.2.2.1
  have h17 := Imp_m h12.2.2.2.2.2
  refine En_iEq _ rfl rfl (fun h18 => ?_) (fun h18 => ?_)
  · have h19 := Imp_m h12.2.2.2.2.1 (by first | exact ⟨q_c5d285f1b9 h18, q_a555021d16 h12.1⟩ | omega)
    refine En_Ps 1 (pc' := 34) (lv' := [(0, .ref 0), (1, .int a), (2, .int b)]) (st' := [.int (((Int8.ofInt (-2)).toInt32))]) rfl ?_
    refine En_top (by decide : ((Int8.ofInt (-2)).toInt32).toInt = -2) (fun z20 h21 => ?_)
    exact En_ret (v := some (.int z20)) rfl rfl rfl ⟨hσ0, hF0, z20, rfl, ⟨by first | exact q_f1982a04c6 h21 | omega, by first | exact q_09eb541a79 h21 | omega, (by rw [cyW_n (by omega)]; exact ⟨hK, OUT_0⟩)⟩⟩
  · have h22 := Imp_m h12.2.2.1 (by first | exact q_e3350da514 h18 h12.1 | omega)
    have h23 := Imp_m h12.2.2.2.1 (by first | exact ⟨q_a555021d16 h22.1, q_ef157b5a0e h22.2⟩ | omega)
    have h24 := Imp_m h12.2.2.2.2.2 (by first | exact ⟨q_ad5b726bf8 h12.2.1, q_e3350da514 h18 h12.1⟩ | omega)
    refine En_Ps 2 (pc' := 13) (lv' := [(0, .ref 0), (1, .int a), (2, .int b)]) (st' := [.int a, .int b]) rfl ?_
    refine En_icEq _ rfl rfl rfl (fun h25 => ?_) (fun h25 => ?_)
    · refine En_Ps 1 (pc' := 34) (lv' := [(0, .ref 0), (1, .int a), (2, .int b)]) (st' := [.int (((Int8.ofInt (-2)).toInt32))]) rfl ?_
      refine En_top (by decide : ((Int8.ofInt (-2)).toInt32).toInt = -2) (fun z26 h27 => ?_)
      exact En_ret (v := some (.int z26)) rfl rfl rfl ⟨hσ0, hF0, z26, rfl, ⟨by first | exact q_f1982a04c6 h27 | omega, by first | exact q_09eb541a79 h27 | omega, (by rw [cyW_n (by omega)]; exact ⟨hK, OUT_0⟩)⟩⟩
    · refine En_Ps 2 (pc' := 18) (lv' := [(0, .ref 0), (1, .int a), (2, .int b)]) (st' := [.int ((Int32.ofInt (-1))), .int b]) rfl ?_
      refine En_icEq _ rfl (by decide : (Int32.ofInt (-1)).toInt = -1) rfl (fun h28 => ?_) (fun h28 => ?_)
      · refine En_Ps 1 (pc' := 36) (lv' := [(0, .ref 0), (1, .int a), (2, .int b)]) (st' := [.ref 0]) rfl ?_
        refine En_getK (j := 9) h_p rfl rfl rfl tgz_0 (by decide +kernel) ?_
        refine En_Ps 1 (pc' := 40) (lv' := [(0, .ref 0), (1, .int a), (2, .int b)]) (st' := [.int a, .ref p]) rfl ?_
        refine En_callV rfl rfl rfl rfl rfl rfl rfl rfl hp (by decide +kernel) rfl (c_45x σ0 hσ0 p hp a hP (FXP_fr hP hX hF0 (by decide +kernel)) hK) (by decide) (by decide) (fun v30 σ31 h29 => ?_)
        obtain ⟨h32, h33, z35, rfl, h34⟩ := h29
        have h36 := h34.2.2.2
        obtain rfl : σ0 = σ31 := Fr_nil h33
        have h37 : z35.toInt = cpI Wv a.toInt := h36
        refine En_iNe _ rfl rfl (fun h38 => ?_) (fun h38 => ?_)
        · have h39 := Imp_m h34.2.2.1 (by first | exact ⟨q_ad5b726bf8 h34.2.1, q_e3350da514 h38 h34.1⟩ | omega)
          refine En_Ps 1 (pc' := 69) (lv' := [(0, .ref 0), (1, .int a), (2, .int b)]) (st' := [.int (((Int8.ofInt (-5)).toInt32))]) rfl ?_
          refine En_top (by decide : ((Int8.ofInt (-5)).toInt32).toInt = -5) (fun z40 h41 => ?_)
          exact En_ret (v := some (.int z40)) rfl rfl rfl ⟨hσ0, hF0, z40, rfl, ⟨by first | exact q_715ce6bb90 h41 | omega, by first | exact q_08e77983b4 h41 | omega, (by rw [cyW_n (by omega)]; exact ⟨hK, OUT_0⟩)⟩⟩
        · refine En_Ps 2 (pc' := 48) (lv' := [(0, .ref 0), (1, .int a), (2, .int b)]) (st' := [.int ((Int32.ofInt (-1))), .int b]) rfl ?_
          refine En_icEq _ rfl (by decide : (Int32.ofInt (-1)).toInt = -1) rfl (fun h42 => ?_) (fun hx => by first | exact (q_9d3c087e80 hx h28).elim | (exfalso; omega))
          refine En_Ps 1 (pc' := 71) (lv' := [(0, .ref 0), (1, .int a), (2, .int b)]) (st' := [.ref 0]) rfl ?_
          refine En_getK (j := 9) h_p rfl rfl rfl tgz_0 (by decide +kernel) ?_
          refine En_getR (j := 4) (g' := 19) (u := 0) rfl rfl rfl hp (by decide +kernel) hσ0 (by decide +kernel) (fun a44 h43 ha44 => ?_)
          have t45 : a44 = p + 1 := ref_uniq h43 (FXP_fr hP hX hF0 (by decide +kernel)).1
          refine En_Ps 1 (pc' := 78) (lv' := [(0, .ref 0), (1, .int a), (2, .int b)]) (st' := [.int a, .ref a44]) rfl ?_
          refine En_aald (g' := 28) (u := 0) rfl rfl ha44 (by decide +kernel) hσ0 (by first | exact q_ef1e8e38bf h22.1 | omega) (lnI (by decide +kernel : LN _ = 4) (by first | exact q_7fdbd2bd6a h24.2 | omega)) (FTsgl (by decide +kernel)) (fun a47 h46 ha47 => ?_)
          have t48 : a47 = p + 10 + 4 * (a.toInt).toNat := DRe (d := a.toInt) (FXP_fr hP hX hF0 (by decide +kernel)) t45 h46 (by omega) (by omega)
          have t49 := lc_d (d := a.toInt) (by omega) (by omega)
          refine En_getI (j := 3) (l := (-1)) (u := 3) rfl rfl rfl ha47 (by decide +kernel) hσ0 (by decide +kernel) (fun z51 h50 h52 h53 => ?_)
          have t54 : Wv (13 + 4 * (a.toInt)) = z51.toInt := KN_v hK (Or.inr (Or.inl ⟨by omega, by omega, by omega⟩)) (by omega) (by omega) (by omega) (by omega) h50
          refine En_Ps 2 (pc' := 84) (lv' := [(3, .int z51), (0, .ref 0), (1, .int a), (2, .int b)]) (st' := [.ref 0]) rfl ?_
          refine En_getK (j := 9) h_p rfl rfl rfl tgz_0 (by decide +kernel) ?_
          refine En_getK (j := 4) h43 rfl rfl rfl hp (by decide +kernel) ?_
          refine En_Ps 1 (pc' := 91) (lv' := [(3, .int z51), (0, .ref 0), (1, .int a), (2, .int b)]) (st' := [.int a, .ref a44]) rfl ?_
          refine En_aald (g' := 28) (u := 0) rfl rfl ha44 (by decide +kernel) hσ0 (by first | exact q_ef1e8e38bf h22.1 | omega) (lnI (by decide +kernel : LN _ = 4) (by first | exact q_7fdbd2bd6a h24.2 | omega)) (FTsgl (by decide +kernel)) (fun a56 h55 ha56 => ?_)
          have t57 : a56 = p + 10 + 4 * (a.toInt).toNat := DRe (d := a.toInt) (FXP_fr hP hX hF0 (by decide +kernel)) t45 h55 (by omega) (by omega)
          have t58 := lc_d (d := a.toInt) (by omega) (by omega)
          refine En_Ps 1 (pc' := 93) (lv' := [(3, .int z51), (0, .ref 0), (1, .int a), (2, .int b)]) (st' := [.int b, .ref a56]) rfl ?_
          refine En_put (j := 3) rfl rfl rfl ha56 (by decide +kernel) rfl (vI (l := (-1)) (u := 3) (by decide +kernel) rfl (by first | exact q_2252655278 h28 | omega) (by first | exact q_c8445ed0b4 h28 | omega)) hσ0 hF0 (by decide +kernel) (fun σ59 h60 h61 h62 h63 => ?_)
          refine En_Ps 1 (pc' := 97) (lv' := [(3, .int z51), (0, .ref 0), (1, .int a), (2, .int b)]) (st' := [.int z51]) rfl ?_
          exact En_ret (v := some (.int z51)) rfl rfl rfl ⟨h60, h61, z51, rfl, ⟨by first | exact q_85f91396a5 h52 | omega, by first | exact q_e9a8eec0c4 h53 | omega, (by have l := lc_d (d := a.toInt) (by omega) (by omega); rw [cyW_y (by omega)]; exact KN_one hK (PLA_B hP) (i := 13 + 4 * a.toInt) (v := b.toInt) h62 h63 (by omega) (by omega) ⟨by omega, by omega⟩ rfl (by omega) (Or.inr (Or.inl ⟨by omega, by omega, by omega⟩)))⟩⟩
      · refine En_Ps 1 (pc' := 22) (lv' := [(0, .ref 0), (1, .int a), (2, .int b)]) (st' := [.ref 0]) rfl ?_
        refine En_getK (j := 9) h_p rfl rfl rfl tgz_0 (by decide +kernel) ?_
        refine En_Ps 1 (pc' := 26) (lv' := [(0, .ref 0), (1, .int a), (2, .int b)]) (st' := [.int b, .ref p]) rfl ?_
        refine En_callV rfl rfl rfl rfl rfl rfl rfl rfl hp (by decide +kernel) rfl (c_47x σ0 hσ0 p hp b z3 h2) (by decide) (by decide) (fun v65 σ66 h64 => ?_)
        obtain ⟨h67, h68, z70, rfl, h69⟩ := h64
        obtain rfl : σ0 = σ66 := Fr_nil h68
        have h71 := Imp_m h69.2.2.1
        have h72 := Imp_m h69.2.2.2.1
        have h73 := Imp_m h69.2.2.2.2.1
        have h74 := Imp_m h69.2.2.2.2.2
        refine En_iNe _ rfl rfl (fun h75 => ?_) (fun h75 => ?_)
        · have h76 := Imp_m h69.2.2.1 (by first | exact q_e3350da514 h75 h69.1 | omega)
          have h77 := Imp_m h69.2.2.2.1 (by first | exact ⟨q_a555021d16 h76.1, q_ef157b5a0e h76.2⟩ | omega)
          have h78 := Imp_m h69.2.2.2.2.2 (by first | exact ⟨q_ad5b726bf8 h69.2.1, q_e3350da514 h75 h69.1⟩ | omega)
          refine En_Ps 1 (pc' := 36) (lv' := [(0, .ref 0), (1, .int a), (2, .int b)]) (st' := [.ref 0]) rfl ?_
          refine En_getK (j := 9) h_p rfl rfl rfl tgz_0 (by decide +kernel) ?_
          refine En_Ps 1 (pc' := 40) (lv' := [(0, .ref 0), (1, .int a), (2, .int b)]) (st' := [.int a, .ref p]) rfl ?_
          refine En_callV rfl rfl rfl rfl rfl rfl rfl rfl hp (by decide +kernel) rfl (c_45x σ0 hσ0 p hp a hP (FXP_fr hP hX hF0 (by decide +kernel)) hK) (by decide) (by decide) (fun v80 σ81 h79 => ?_)
          obtain ⟨h82, h83, z85, rfl, h84⟩ := h79
          have h86 := h84.2.2.2
          obtain rfl : σ0 = σ81 := Fr_nil h83
          have h87 : z85.toInt = cpI Wv a.toInt := h86
          refine En_iNe _ rfl rfl (fun h88 => ?_) (fun h88 => ?_)
          · have h89 := Imp_m h84.2.2.1 (by first | exact ⟨q_ad5b726bf8 h84.2.1, q_e3350da514 h88 h84.1⟩ | omega)
            refine En_Ps 1 (pc' := 69) (lv' := [(0, .ref 0), (1, .int a), (2, .int b)]) (st' := [.int (((Int8.ofInt (-5)).toInt32))]) rfl ?_
            refine En_top (by decide : ((Int8.ofInt (-5)).toInt32).toInt = -5) (fun z90 h91 => ?_)
            exact En_ret (v := some (.int z90)) rfl rfl rfl ⟨hσ0, hF0, z90, rfl, ⟨by first | exact q_715ce6bb90 h91 | omega, by first | exact q_08e77983b4 h91 | omega, (by rw [cyW_n (by omega)]; exact ⟨hK, OUT_0⟩)⟩⟩
          · refine En_Ps 2 (pc' := 48) (lv' := [(0, .ref 0), (1, .int a), (2, .int b)]) (st' := [.int ((Int32.ofInt (-1))), .int b]) rfl ?_
            refine En_icEq _ rfl (by decide : (Int32.ofInt (-1)).toInt = -1) rfl (fun hx => by first | exact (q_693db50900 h76.1 hx).elim | (exfalso; omega)) (fun h92 => ?_)
            refine En_Ps 1 (pc' := 52) (lv' := [(0, .ref 0), (1, .int a), (2, .int b)]) (st' := [.ref 0]) rfl ?_
            refine En_getK (j := 9) h_p rfl rfl rfl tgz_0 (by decide +kernel) ?_
            refine En_getR (j := 4) (g' := 19) (u := 0) rfl rfl rfl hp (by decide +kernel) hσ0 (by decide +kernel) (fun a94 h93 ha94 => ?_)
            have t95 : a94 = p + 1 := ref_uniq h93 (FXP_fr hP hX hF0 (by decide +kernel)).1
            refine En_Ps 1 (pc' := 59) (lv' := [(0, .ref 0), (1, .int a), (2, .int b)]) (st' := [.int b, .ref a94]) rfl ?_
            refine En_aald (g' := 28) (u := 0) rfl rfl ha94 (by decide +kernel) hσ0 (by first | exact q_ef1e8e38bf h76.1 | omega) (lnI (by decide +kernel : LN _ = 4) (by first | exact q_7fdbd2bd6a h78.2 | omega)) (FTsgl (by decide +kernel)) (fun a97 h96 ha97 => ?_)
            have t98 : a97 = p + 10 + 4 * (b.toInt).toNat := DRe (d := b.toInt) (FXP_fr hP hX hF0 (by decide +kernel)) t95 h96 (by omega) (by omega)
            have t99 := lc_d (d := b.toInt) (by omega) (by omega)
            refine En_getI (j := 3) (l := (-1)) (u := 3) rfl rfl rfl ha97 (by decide +kernel) hσ0 (by decide +kernel) (fun z101 h100 h102 h103 => ?_)
            have t104 : Wv (13 + 4 * (b.toInt)) = z101.toInt := KN_v hK (Or.inr (Or.inl ⟨by omega, by omega, by omega⟩)) (by omega) (by omega) (by omega) (by omega) h100
            refine En_Ps 1 (pc' := 64) (lv' := [(0, .ref 0), (1, .int a), (2, .int b)]) (st' := [.int ((Int32.ofInt (-1))), .int z101]) rfl ?_
            refine En_icEq _ rfl (by decide : (Int32.ofInt (-1)).toInt = -1) rfl (fun h105 => ?_) (fun h105 => ?_)
            · refine En_Ps 1 (pc' := 71) (lv' := [(0, .ref 0), (1, .int a), (2, .int b)]) (st' := [.ref 0]) rfl ?_
              refine En_getK (j := 9) h_p rfl rfl rfl tgz_0 (by decide +kernel) ?_
              refine En_getK (j := 4) h93 rfl rfl rfl hp (by decide +kernel) ?_
              refine En_Ps 1 (pc' := 78) (lv' := [(0, .ref 0), (1, .int a), (2, .int b)]) (st' := [.int a, .ref a94]) rfl ?_
              refine En_aald (g' := 28) (u := 0) rfl rfl ha94 (by decide +kernel) hσ0 (by first | exact q_ef1e8e38bf h22.1 | omega) (lnI (by decide +kernel : LN _ = 4) (by first | exact q_7fdbd2bd6a h24.2 | omega)) (FTsgl (by decide +kernel)) (fun a107 h106 ha107 => ?_)
              have t108 : a107 = p + 10 + 4 * (a.toInt).toNat := DRe (d := a.toInt) (FXP_fr hP hX hF0 (by decide +kernel)) t95 h106 (by omega) (by omega)
              have t109 := lc_d (d := a.toInt) (by omega) (by omega)
              refine En_getI (j := 3) (l := (-1)) (u := 3) rfl rfl rfl ha107 (by decide +kernel) hσ0 (by decide +kernel) (fun z111 h110 h112 h113 => ?_)
              have t114 : Wv (13 + 4 * (a.toInt)) = z111.toInt := KN_v hK (Or.inr (Or.inl ⟨by omega, by omega, by omega⟩)) (by omega) (by omega) (by omega) (by omega) h110
              refine En_Ps 2 (pc' := 84) (lv' := [(3, .int z111), (0, .ref 0), (1, .int a), (2, .int b)]) (st' := [.ref 0]) rfl ?_
              refine En_getK (j := 9) h_p rfl rfl rfl tgz_0 (by decide +kernel) ?_
              refine En_getK (j := 4) h93 rfl rfl rfl hp (by decide +kernel) ?_
              refine En_Ps 1 (pc' := 91) (lv' := [(3, .int z111), (0, .ref 0), (1, .int a), (2, .int b)]) (st' := [.int a, .ref a94]) rfl ?_
              refine En_aald (g' := 28) (u := 0) rfl rfl ha94 (by decide +kernel) hσ0 (by first | exact q_ef1e8e38bf h22.1 | omega) (lnI (by decide +kernel : LN _ = 4) (by first | exact q_7fdbd2bd6a h24.2 | omega)) (FTsgl (by decide +kernel)) (fun a116 h115 ha116 => ?_)
              have t117 : a116 = p + 10 + 4 * (a.toInt).toNat := DRe (d := a.toInt) (FXP_fr hP hX hF0 (by decide +kernel)) t95 h115 (by omega) (by omega)
              have t118 := lc_d (d := a.toInt) (by omega) (by omega)
              refine En_Ps 1 (pc' := 93) (lv' := [(3, .int z111), (0, .ref 0), (1, .int a), (2, .int b)]) (st' := [.int b, .ref a116]) rfl ?_
              refine En_put (j := 3) rfl rfl rfl ha116 (by decide +kernel) rfl (vI (l := (-1)) (u := 3) (by decide +kernel) rfl (by first | exact q_1ab37740a2 h76.1 | omega) (by first | exact q_87d9217d84 h78.2 | omega)) hσ0 hF0 (by decide +kernel) (fun σ119 h120 h121 h122 h123 => ?_)
              refine En_Ps 1 (pc' := 97) (lv' := [(3, .int z111), (0, .ref 0), (1, .int a), (2, .int b)]) (st' := [.int z111]) rfl ?_
              exact En_ret (v := some (.int z111)) rfl rfl rfl ⟨h120, h121, z111, rfl, ⟨by first | exact q_85f91396a5 h112 | omega, by first | exact q_e9a8eec0c4 h113 | omega, (by have l := lc_d (d := a.toInt) (by omega) (by omega); rw [cyW_y (by omega)]; exact KN_one hK (PLA_B hP) (i := 13 + 4 * a.toInt) (v := b.toInt) h122 h123 (by omega) (by omega) ⟨by omega, by omega⟩ rfl (by omega) (Or.inr (Or.inl ⟨by omega, by omega, by omega⟩)))⟩⟩
            · refine En_Ps 1 (pc' := 69) (lv' := [(0, .ref 0), (1, .int a), (2, .int b)]) (st' := [.int (((Int8.ofInt (-5)).toInt32))]) rfl ?_
              refine En_top (by decide : ((Int8.ofInt (-5)).toInt32).toInt = -5) (fun z124 h125 => ?_)
              exact En_ret (v := some (.int z124)) rfl rfl rfl ⟨hσ0, hF0, z124, rfl, ⟨by first | exact q_715ce6bb90 h125 | omega, by first | exact q_08e77983b4 h125 | omega, (by rw [cyW_n (by omega)]; exact ⟨hK, OUT_0⟩)⟩⟩
        · have h126 := Imp_m h69.2.2.2.2.1 (by first | exact ⟨q_c5d285f1b9 h75, q_a555021d16 h69.1⟩ | omega)
          refine En_Ps 1 (pc' := 34) (lv' := [(0, .ref 0), (1, .int a), (2, .int b)]) (st' := [.int (((Int8.ofInt (-2)).toInt32))]) rfl ?_
          refine En_top (by decide : ((Int8.ofInt (-2)).toInt32).toInt = -2) (fun z127 h128 => ?_)
          exact En_ret (v := some (.int z127)) rfl rfl rfl ⟨hσ0, hF0, z127, rfl, ⟨by first | exact q_f1982a04c6 h128 | omega, by first | exact q_09eb541a79 h128 | omega, (by rw [cyW_n (by omega)]; exact ⟨hK, OUT_0⟩)⟩⟩
/-- DoorSchool.end(I)I -/
abbrev P_118x (σ0 : SG) (a : Int32) (p : Nat) (sg : Int32) (m : Int32) : PO := fun v σ => WT σ ∧ Fr [(1, 1)] σ0 σ ∧ ∃ m1 : Int32, (σ 1)[1]? = some (.int m1) ∧ ∃ ret : Int32, v = some (.int ret) ∧ -ret.toInt - 1 ≤ 0 ∧ ret.toInt - 1600 ≤ 0 ∧ -m1.toInt ≤ 0 ∧ m1.toInt - 1600 ≤ 0 ∧ m1.toInt - m.toInt ≤ 0 ∧ Imp (-a.toInt ≤ 0 ∧ a.toInt - m.toInt ≤ 0) (m1.toInt - a.toInt ≤ 0 ∧ -m1.toInt + a.toInt ≤ 0 ∧ ret.toInt - a.toInt ≤ 0 ∧ -ret.toInt + a.toInt ≤ 0) ∧ Imp (a.toInt + 1 ≤ 0) (m1.toInt - m.toInt ≤ 0 ∧ -m1.toInt + m.toInt ≤ 0 ∧ ret.toInt + 1 ≤ 0 ∧ -ret.toInt - 1 ≤ 0) ∧ Imp (m.toInt - a.toInt + 1 ≤ 0) (m1.toInt - m.toInt ≤ 0 ∧ -m1.toInt + m.toInt ≤ 0 ∧ ret.toInt + 1 ≤ 0 ∧ -ret.toInt - 1 ≤ 0)
set_option maxRecDepth 10000 in
set_option maxHeartbeats 4000000 in
theorem c_118x (σ0 : SG) (hσ0 : WT σ0) (a : Int32) (p : Nat) (hp : TG p = 18) (h_p : (σ0 0)[9]? = some (.ref p)) (sg : Int32) (h_sg : (σ0 p)[1]? = some (.int sg)) (m : Int32) (h_m : (σ0 1)[1]? = some (.int m)) (hp0 : -sg.toInt ≤ 0) : En 0 0 none mr_118 (P_118x σ0 a p sg m) 0 [(0, .ref 0), (1, .int a)] [] σ0 := by
  obtain ⟨hl_sg, hu_sg⟩ := WT_int hσ0 (g := 18) hp (by decide +kernel) (l := (-1)) (u := 4) (by decide +kernel) h_sg
  obtain ⟨hl_m, hu_m⟩ := WT_int hσ0 (g := 1) (by decide +kernel) (by decide +kernel) (l := 0) (u := 1600) (by decide +kernel) h_m
  have hF0 : Fr [(1, 1)] σ0 σ0 := Fr_rfl
  refine En_Ps 1 (pc' := 1) (lv' := [(0, .ref 0), (1, .int a)]) (st' := [.int a]) rfl ?_
  refine En_iLt _ rfl rfl (fun h1 => ?_) (fun h1 => ?_)
  · refine En_Ps 1 (pc' := 16) (lv' := [(0, .ref 0), (1, .int a)]) (st' := [.int ((Int32.ofInt (-1)))]) rfl ?_
    refine En_top (by decide : (Int32.ofInt (-1)).toInt = -1) (fun z2 h3 => ?_)
    exact En_ret (v := some (.int z2)) rfl rfl rfl ⟨hσ0, hF0, m, h_m, z2, rfl, ⟨by first | exact q_6ba54b61e9 h3 | omega, by first | exact q_99664cbdae h3 | omega, by first | exact q_c803b490ef hl_m | omega, by first | exact q_5a08281576 hu_m | omega, by first | exact q_1bb76abeaf | omega, fun hh => by first | exact ⟨q_1108b6a118 h1 hh.1, q_10d278d690 hh.2, q_7d292a1c2b h3 hh.1, q_da50bdb728 h1 h3⟩ | omega, fun hh => by first | exact ⟨q_1bb76abeaf, q_857069189f, q_4eb6dac66d h3, q_6ba54b61e9 h3⟩ | omega, fun hh => by first | exact ⟨q_1bb76abeaf, q_857069189f, q_4eb6dac66d h3, q_6ba54b61e9 h3⟩ | omega⟩⟩
  · refine En_Ps 2 (pc' := 6) (lv' := [(0, .ref 0), (1, .int a)]) (st' := [.ref 0, .int a]) rfl ?_
    refine En_getU (j := 0) (u := 1) (g' := 1) (q := 0) rfl rfl rfl tgz_0 (by decide +kernel) hσ0 (by decide +kernel) (by decide +kernel) (fun h4 => ?_)
    refine En_getK (j := 1) h_m rfl rfl rfl tgz_1 (by decide +kernel) ?_
    refine En_icLe _ rfl rfl rfl (fun h6 => ?_) (fun h6 => ?_)
    · refine En_Ps 1 (pc' := 18) (lv' := [(0, .ref 0), (1, .int a)]) (st' := [.ref 0]) rfl ?_
      refine En_getK (j := 0) h4 rfl rfl rfl tgz_0 (by decide +kernel) ?_
      refine En_Ps 1 (pc' := 22) (lv' := [(0, .ref 0), (1, .int a)]) (st' := [.int a, .ref 1]) rfl ?_
      refine En_put (j := 1) rfl rfl rfl tgz_1 (by decide +kernel) rfl (vI (l := 0) (u := 1600) (by decide +kernel) rfl (by first | exact q_58e6e51dcc h1 | omega) (by first | exact q_eeb85c3030 h6 hu_m | omega)) hσ0 hF0 (by decide +kernel) (fun σ7 h8 h9 h10 h11 => ?_)
      refine En_Ps 1 (pc' := 26) (lv' := [(0, .ref 0), (1, .int a)]) (st' := [.int a]) rfl ?_
      exact En_ret (v := some (.int a)) rfl rfl rfl ⟨h8, h9, a, h10, a, rfl, ⟨by first | exact q_565e7b05df h1 | omega, by first | exact q_50cb7dcfb3 h6 hu_m | omega, by first | exact q_c803b490ef h1 | omega, by first | exact q_50cb7dcfb3 h6 hu_m | omega, by first | exact q_15b82e7ad8 h6 | omega, fun hh => by first | exact ⟨q_1bb76abeaf, q_857069189f, q_1bb76abeaf, q_857069189f⟩ | omega, fun hh => by first | exact ⟨q_15b82e7ad8 h6, q_9ac42d151c h1 hh, q_b60e76ae01 hh, q_565e7b05df h1⟩ | omega, fun hh => by first | exact ⟨q_15b82e7ad8 h6, q_29611673d2 hh, q_63ad617a29 h6 hh, q_565e7b05df h1⟩ | omega⟩⟩
    · refine En_Ps 1 (pc' := 16) (lv' := [(0, .ref 0), (1, .int a)]) (st' := [.int ((Int32.ofInt (-1)))]) rfl ?_
      refine En_top (by decide : (Int32.ofInt (-1)).toInt = -1) (fun z12 h13 => ?_)
      exact En_ret (v := some (.int z12)) rfl rfl rfl ⟨hσ0, hF0, m, h_m, z12, rfl, ⟨by first | exact q_6ba54b61e9 h13 | omega, by first | exact q_99664cbdae h13 | omega, by first | exact q_c803b490ef hl_m | omega, by first | exact q_5a08281576 hu_m | omega, by first | exact q_1bb76abeaf | omega, fun hh => by first | exact ⟨q_74322ff71d h6, q_10d278d690 hh.2, q_59265d2827 h1 h13, q_5ed5f7434d h6 hh.2⟩ | omega, fun hh => by first | exact ⟨q_1bb76abeaf, q_857069189f, q_4eb6dac66d h13, q_6ba54b61e9 h13⟩ | omega, fun hh => by first | exact ⟨q_1bb76abeaf, q_857069189f, q_4eb6dac66d h13, q_6ba54b61e9 h13⟩ | omega⟩⟩
/-- DoorSchool.isZeroOrOne(I)Z -/
abbrev P_149x (σ0 : SG) (a : Int32) : PO := fun v σ => WT σ ∧ Fr [] σ0 σ ∧ ∃ ret : Int32, v = some (.int ret) ∧ -ret.toInt ≤ 0 ∧ ret.toInt - 1 ≤ 0 ∧ Imp (ret.toInt - 1 ≤ 0 ∧ -ret.toInt + 1 ≤ 0) (-a.toInt ≤ 0 ∧ a.toInt - 1 ≤ 0) ∧ ((ret.toInt = 1 ∧ (a.toInt = 0 ∨ a.toInt = 1)) ∨ (ret.toInt = 0 ∧ a.toInt ≠ 0 ∧ a.toInt ≠ 1))
set_option maxRecDepth 10000 in
set_option maxHeartbeats 4000000 in
theorem c_149x (σ0 : SG) (hσ0 : WT σ0) (a : Int32) : En 0 0 none mr_149 (P_149x σ0 a) 0 [(0, .int a)] [] σ0 := by
  have hF0 : Fr [] σ0 σ0 := Fr_rfl
  refine En_Ps 1 (pc' := 1) (lv' := [(0, .int a)]) (st' := [.int a]) rfl ?_
  refine En_iEq _ rfl rfl (fun h1 => ?_) (fun h1 => ?_)
  · refine En_Ps 2 (pc' := 14) (lv' := [(0, .int a)]) (st' := [.int ((Int32.ofInt 1))]) rfl ?_
    refine En_top (by decide : (Int32.ofInt 1).toInt = 1) (fun z2 h3 => ?_)
    exact En_ret (v := some (.int z2)) rfl rfl (retZ rfl rfl (by first | exact q_2b07c97645 h3 | omega) (by first | exact q_d9e7cbb253 h3 | omega)) ⟨hσ0, hF0, z2, rfl, ⟨by first | exact q_ad3eee31ca h3 | omega, by first | exact q_81cf297dc4 h3 | omega, fun hh => by first | exact ⟨q_097a37c2ae h1, q_e269517bee h1⟩ | omega, (by omega)⟩⟩
  · refine En_Ps 2 (pc' := 6) (lv' := [(0, .int a)]) (st' := [.int ((Int32.ofInt 1)), .int a]) rfl ?_
    refine En_icNe _ rfl (by decide : (Int32.ofInt 1).toInt = 1) rfl (fun h4 => ?_) (fun h4 => ?_)
    · refine En_Ps 1 (pc' := 14) (lv' := [(0, .int a)]) (st' := [.int ((Int32.ofInt 0))]) rfl ?_
      refine En_top (by decide : (Int32.ofInt 0).toInt = 0) (fun z5 h6 => ?_)
      exact En_ret (v := some (.int z5)) rfl rfl (retZ rfl rfl (by first | exact q_55451d0a83 h6 | omega) (by first | exact q_87849c3859 h6 | omega)) ⟨hσ0, hF0, z5, rfl, ⟨by first | exact q_097a37c2ae h6 | omega, by first | exact q_e269517bee h6 | omega, fun _ => by omega, (by omega)⟩⟩
    · refine En_Ps 2 (pc' := 14) (lv' := [(0, .int a)]) (st' := [.int ((Int32.ofInt 1))]) rfl ?_
      refine En_top (by decide : (Int32.ofInt 1).toInt = 1) (fun z7 h8 => ?_)
      exact En_ret (v := some (.int z7)) rfl rfl (retZ rfl rfl (by first | exact q_2b07c97645 h8 | omega) (by first | exact q_d9e7cbb253 h8 | omega)) ⟨hσ0, hF0, z7, rfl, ⟨by first | exact q_ad3eee31ca h8 | omega, by first | exact q_81cf297dc4 h8 | omega, fun hh => by first | exact ⟨q_ad3eee31ca h4, q_81cf297dc4 h4⟩ | omega, (by omega)⟩⟩
/-- DoorSchool.fault(I)I -/
abbrev P_121x (σ0 : SG) (a : Int32) (p : Nat) (sg : Int32) (fk : Int32) (fp : Int32) : PO := fun v σ => WT σ ∧ Fr [] σ0 σ ∧ ∃ ret : Int32, v = some (.int ret) ∧ -ret.toInt - 1 ≤ 0 ∧ ret.toInt - 1600 ≤ 0 ∧ Imp (a.toInt ≤ 0 ∧ -a.toInt ≤ 0) (ret.toInt - fk.toInt ≤ 0 ∧ -ret.toInt + fk.toInt ≤ 0) ∧ Imp (a.toInt - 1 ≤ 0 ∧ -a.toInt + 1 ≤ 0) (ret.toInt - fp.toInt ≤ 0 ∧ -ret.toInt + fp.toInt ≤ 0) ∧ Imp (a.toInt + 1 ≤ 0) (ret.toInt + 1 ≤ 0 ∧ -ret.toInt - 1 ≤ 0) ∧ Imp (-a.toInt + 2 ≤ 0) (ret.toInt + 1 ≤ 0 ∧ -ret.toInt - 1 ≤ 0)
set_option maxRecDepth 10000 in
set_option maxHeartbeats 4000000 in
theorem c_121x (σ0 : SG) (hσ0 : WT σ0) (a : Int32) (p : Nat) (hp : TG p = 18) (h_p : (σ0 0)[9]? = some (.ref p)) (sg : Int32) (h_sg : (σ0 p)[1]? = some (.int sg)) (fk : Int32) (h_fk : (σ0 3)[5]? = some (.int fk)) (fp : Int32) (h_fp : (σ0 3)[6]? = some (.int fp)) (hp0 : -sg.toInt ≤ 0) : En 0 0 none mr_121 (P_121x σ0 a p sg fk fp) 0 [(0, .ref 0), (1, .int a)] [] σ0 := by
  obtain ⟨hl_sg, hu_sg⟩ := WT_int hσ0 (g := 18) hp (by decide +kernel) (l := (-1)) (u := 4) (by decide +kernel) h_sg
  obtain ⟨hl_fk, hu_fk⟩ := WT_int hσ0 (g := 3) (by decide +kernel) (by decide +kernel) (l := 0) (u := 3) (by decide +kernel) h_fk
  obtain ⟨hl_fp, hu_fp⟩ := WT_int hσ0 (g := 3) (by decide +kernel) (by decide +kernel) (l := (-1)) (u := 1600) (by decide +kernel) h_fp
  have hF0 : Fr [] σ0 σ0 := Fr_rfl
  refine En_Ps 1 (pc' := 1) (lv' := [(0, .ref 0), (1, .int a)]) (st' := [.int a]) rfl ?_
  refine En_iNe _ rfl rfl (fun h1 => ?_) (fun h1 => ?_)
  · refine En_Ps 2 (pc' := 14) (lv' := [(0, .ref 0), (1, .int a)]) (st' := [.int ((Int32.ofInt 1)), .int a]) rfl ?_
    refine En_icNe _ rfl (by decide : (Int32.ofInt 1).toInt = 1) rfl (fun h2 => ?_) (fun h2 => ?_)
    · refine En_Ps 1 (pc' := 28) (lv' := [(0, .ref 0), (1, .int a)]) (st' := [.int ((Int32.ofInt (-1)))]) rfl ?_
      refine En_top (by decide : (Int32.ofInt (-1)).toInt = -1) (fun z3 h4 => ?_)
      exact En_ret (v := some (.int z3)) rfl rfl rfl ⟨hσ0, hF0, z3, rfl, ⟨by first | exact q_6ba54b61e9 h4 | omega, by first | exact q_99664cbdae h4 | omega, fun _ => by omega, fun _ => by omega, fun hh => by first | exact ⟨q_4eb6dac66d h4, q_6ba54b61e9 h4⟩ | omega, fun hh => by first | exact ⟨q_4eb6dac66d h4, q_6ba54b61e9 h4⟩ | omega⟩⟩
    · refine En_Ps 1 (pc' := 18) (lv' := [(0, .ref 0), (1, .int a)]) (st' := [.ref 0]) rfl ?_
      refine En_getU (j := 1) (u := 3) (g' := 3) (q := 0) rfl rfl rfl tgz_0 (by decide +kernel) hσ0 (by decide +kernel) (by decide +kernel) (fun h5 => ?_)
      refine En_getK (j := 6) h_fp rfl rfl rfl tgz_3 (by decide +kernel) ?_
      refine En_Ps 1 (pc' := 28) (lv' := [(0, .ref 0), (1, .int a)]) (st' := [.int fp]) rfl ?_
      exact En_ret (v := some (.int fp)) rfl rfl rfl ⟨hσ0, hF0, fp, rfl, ⟨by first | exact q_909eef6c0e hl_fp | omega, by first | exact q_5a08281576 hu_fp | omega, fun _ => by omega, fun hh => by first | exact ⟨q_1bb76abeaf, q_857069189f⟩ | omega, fun _ => by omega, fun _ => by omega⟩⟩
  · refine En_Ps 1 (pc' := 5) (lv' := [(0, .ref 0), (1, .int a)]) (st' := [.ref 0]) rfl ?_
    refine En_getU (j := 1) (u := 3) (g' := 3) (q := 0) rfl rfl rfl tgz_0 (by decide +kernel) hσ0 (by decide +kernel) (by decide +kernel) (fun h7 => ?_)
    refine En_getK (j := 5) h_fk rfl rfl rfl tgz_3 (by decide +kernel) ?_
    exact En_ret (v := some (.int fk)) rfl rfl rfl ⟨hσ0, hF0, fk, rfl, ⟨by first | exact q_565e7b05df hl_fk | omega, by first | exact q_d82ac32af9 hu_fk | omega, fun hh => by first | exact ⟨q_1bb76abeaf, q_857069189f⟩ | omega, fun _ => by omega, fun _ => by omega, fun _ => by omega⟩⟩
/-- DoorSchool.feed(IIIII)I -/
abbrev P_122x (σ0 : SG) (a : Int32) (b : Int32) (c : Int32) (d : Int32) (e : Int32) (p : Nat) (sg : Int32) (m : Int32) : PO := fun v σ => WT σ ∧ Fr [(1, 1), (2, 0)] σ0 σ ∧ ∃ m1 : Int32, (σ 1)[1]? = some (.int m1) ∧ ∃ ret : Int32, v = some (.int ret) ∧ -ret.toInt - 1 ≤ 0 ∧ ret.toInt - 1600 ≤ 0 ∧ -m1.toInt + 20 ≤ 0 ∧ m1.toInt - 1600 ≤ 0 ∧ -m1.toInt + m.toInt ≤ 0 ∧ m1.toInt - m.toInt - 20 ≤ 0 ∧ Imp (m.toInt - 1580 ≤ 0) (m1.toInt - m.toInt - 20 ≤ 0 ∧ -m1.toInt + m.toInt + 20 ≤ 0 ∧ ret.toInt - m1.toInt ≤ 0 ∧ -ret.toInt + m1.toInt ≤ 0) ∧ Imp (-m.toInt + 1581 ≤ 0) (m1.toInt - m.toInt ≤ 0 ∧ -m1.toInt + m.toInt ≤ 0 ∧ ret.toInt + 1 ≤ 0 ∧ -ret.toInt - 1 ≤ 0) ∧ ((m.toInt ≤ 1580 → FDP σ0 σ 2 m.toInt 20 a b c d e) ∧ (1580 < m.toInt → ∀ i : Int, ci σ 2 i = ci σ0 2 i))
set_option maxRecDepth 10000 in
set_option maxHeartbeats 4000000 in
theorem c_122x (σ0 : SG) (hσ0 : WT σ0) (a : Int32) (b : Int32) (c : Int32) (d : Int32) (e : Int32) (p : Nat) (hp : TG p = 18) (h_p : (σ0 0)[9]? = some (.ref p)) (sg : Int32) (h_sg : (σ0 p)[1]? = some (.int sg)) (m : Int32) (h_m : (σ0 1)[1]? = some (.int m)) (hp0 : -sg.toInt ≤ 0) : En 1 22 none mr_122 (P_122x σ0 a b c d e p sg m) 0 [(0, .ref 0), (1, .int a), (2, .int b), (3, .int c), (4, .int d), (5, .int e)] [] σ0 := by
  obtain ⟨hl_sg, hu_sg⟩ := WT_int hσ0 (g := 18) hp (by decide +kernel) (l := (-1)) (u := 4) (by decide +kernel) h_sg
  obtain ⟨hl_m, hu_m⟩ := WT_int hσ0 (g := 1) (by decide +kernel) (by decide +kernel) (l := 0) (u := 1600) (by decide +kernel) h_m
  have hF0 : Fr [(1, 1), (2, 0)] σ0 σ0 := Fr_rfl
  refine En_Ps 1 (pc' := 1) (lv' := [(0, .ref 0), (1, .int a), (2, .int b), (3, .int c), (4, .int d), (5, .int e)]) (st' := [.ref 0]) rfl ?_
  refine En_getU (j := 0) (u := 1) (g' := 1) (q := 0) rfl rfl rfl tgz_0 (by decide +kernel) hσ0 (by decide +kernel) (by decide +kernel) (fun h1 => ?_)
  refine En_getK (j := 1) h_m rfl rfl rfl tgz_1 (by decide +kernel) ?_
  refine En_Ps 2 (pc' := 10) (lv' := [(0, .ref 0), (1, .int a), (2, .int b), (3, .int c), (4, .int d), (5, .int e)]) (st' := [.int ((m + (((Int8.ofInt 20).toInt32))))]) rfl ?_
  refine En_top (addI rfl (by decide : ((Int8.ofInt 20).toInt32).toInt = 20) (by first | exact q_b317acd289 hl_m | omega) (by first | exact q_3065489387 hu_m | omega)) (fun z3 h4 => ?_)
  refine En_Ps 1 (pc' := 13) (lv' := [(0, .ref 0), (1, .int a), (2, .int b), (3, .int c), (4, .int d), (5, .int e)]) (st' := [.int (((Int16.ofInt 1600).toInt32)), .int z3]) rfl ?_
  refine En_icLe _ rfl (by decide : ((Int16.ofInt 1600).toInt32).toInt = 1600) rfl (fun h5 => ?_) (fun h5 => ?_)
  · refine En_Ps 1 (pc' := 19) (lv' := [(0, .ref 0), (1, .int a), (2, .int b), (3, .int c), (4, .int d), (5, .int e)]) (st' := [.ref 0]) rfl ?_
    refine En_getK (j := 0) h1 rfl rfl rfl tgz_0 (by decide +kernel) ?_
    refine En_Ps 1 (pc' := 23) (lv' := [(0, .ref 0), (1, .int a), (2, .int b), (3, .int c), (4, .int d), (5, .int e)]) (st' := [.int a, .ref 1]) rfl ?_
    refine En_callV rfl rfl rfl rfl rfl rfl rfl rfl tgz_1 (by decide +kernel) rfl (c_90x σ0 hσ0 a m h_m) (by decide) (by decide) (fun v7 σ8 h6 => ?_)
    obtain ⟨h9, h10, z12, h13, rfl, h11⟩ := h6
    have h14 := h11.2.2.2.2.2
    have h15 := Fr_trans hF0 h10 (by decide +kernel)
    have h16 := Imp_m h11.2.2.2.2.1 (by first | exact q_549c8401b7 h4 h5 | omega)
    refine En_Ps 1 (pc' := 27) (lv' := [(0, .ref 0), (1, .int a), (2, .int b), (3, .int c), (4, .int d), (5, .int e)]) (st' := [.ref 0]) rfl ?_
    refine En_getK (j := 0) ((h10 _ _ (inW tgz_0 (by decide +kernel))).trans h1) rfl rfl rfl tgz_0 (by decide +kernel) ?_
    refine En_Ps 1 (pc' := 31) (lv' := [(0, .ref 0), (1, .int a), (2, .int b), (3, .int c), (4, .int d), (5, .int e)]) (st' := [.int b, .ref 1]) rfl ?_
    refine En_callV rfl rfl rfl rfl rfl rfl rfl rfl tgz_1 (by decide +kernel) rfl (c_90x σ8 h9 b z12 h13) (by decide) (by decide) (fun v18 σ19 h17 => ?_)
    obtain ⟨h20, h21, z23, h24, rfl, h22⟩ := h17
    have h25 := h22.2.2.2.2.2
    have h26 := Fr_trans h15 h21 (by decide +kernel)
    have h27 := Imp_m h22.2.2.2.2.1 (by first | exact q_737f66ec9d h11.2.2.2.1 h4 h5 | omega)
    refine En_Ps 1 (pc' := 35) (lv' := [(0, .ref 0), (1, .int a), (2, .int b), (3, .int c), (4, .int d), (5, .int e)]) (st' := [.ref 0]) rfl ?_
    refine En_getK (j := 0) ((h21 _ _ (inW tgz_0 (by decide +kernel))).trans ((h10 _ _ (inW tgz_0 (by decide +kernel))).trans h1)) rfl rfl rfl tgz_0 (by decide +kernel) ?_
    refine En_Ps 1 (pc' := 39) (lv' := [(0, .ref 0), (1, .int a), (2, .int b), (3, .int c), (4, .int d), (5, .int e)]) (st' := [.int c, .ref 1]) rfl ?_
    refine En_callV rfl rfl rfl rfl rfl rfl rfl rfl tgz_1 (by decide +kernel) rfl (c_90x σ19 h20 c z23 h24) (by decide) (by decide) (fun v29 σ30 h28 => ?_)
    obtain ⟨h31, h32, z34, h35, rfl, h33⟩ := h28
    have h36 := h33.2.2.2.2.2
    have h37 := Fr_trans h26 h32 (by decide +kernel)
    have h38 := Imp_m h33.2.2.2.2.1 (by first | exact q_63199bf400 h22.2.2.2.1 h11.2.2.2.1 h4 h5 | omega)
    refine En_Ps 1 (pc' := 43) (lv' := [(0, .ref 0), (1, .int a), (2, .int b), (3, .int c), (4, .int d), (5, .int e)]) (st' := [.ref 0]) rfl ?_
    refine En_getK (j := 0) ((h32 _ _ (inW tgz_0 (by decide +kernel))).trans ((h21 _ _ (inW tgz_0 (by decide +kernel))).trans ((h10 _ _ (inW tgz_0 (by decide +kernel))).trans h1))) rfl rfl rfl tgz_0 (by decide +kernel) ?_
    refine En_Ps 1 (pc' := 48) (lv' := [(0, .ref 0), (1, .int a), (2, .int b), (3, .int c), (4, .int d), (5, .int e)]) (st' := [.int d, .ref 1]) rfl ?_
    refine En_callV rfl rfl rfl rfl rfl rfl rfl rfl tgz_1 (by decide +kernel) rfl (c_90x σ30 h31 d z34 h35) (by decide) (by decide) (fun v40 σ41 h39 => ?_)
    obtain ⟨h42, h43, z45, h46, rfl, h44⟩ := h39
    have h47 := h44.2.2.2.2.2
    have h48 := Fr_trans h37 h43 (by decide +kernel)
    have h49 := Imp_m h44.2.2.2.2.1 (by first | exact q_7e5cba469b h33.2.2.2.1 h22.2.2.2.1 h11.2.2.2.1 h4 h5 | omega)
    refine En_Ps 1 (pc' := 52) (lv' := [(0, .ref 0), (1, .int a), (2, .int b), (3, .int c), (4, .int d), (5, .int e)]) (st' := [.ref 0]) rfl ?_
    refine En_getK (j := 0) ((h43 _ _ (inW tgz_0 (by decide +kernel))).trans ((h32 _ _ (inW tgz_0 (by decide +kernel))).trans ((h21 _ _ (inW tgz_0 (by decide +kernel))).trans ((h10 _ _ (inW tgz_0 (by decide +kernel))).trans h1)))) rfl rfl rfl tgz_0 (by decide +kernel) ?_
    refine En_Ps 1 (pc' := 57) (lv' := [(0, .ref 0), (1, .int a), (2, .int b), (3, .int c), (4, .int d), (5, .int e)]) (st' := [.int e, .ref 1]) rfl ?_
    refine En_callV rfl rfl rfl rfl rfl rfl rfl rfl tgz_1 (by decide +kernel) rfl (c_90x σ41 h42 e z45 h46) (by decide) (by decide) (fun v51 σ52 h50 => ?_)
    obtain ⟨h53, h54, z56, h57, rfl, h55⟩ := h50
    have h58 := h55.2.2.2.2.2
    have h59 := Fr_trans h48 h54 (by decide +kernel)
    have h60 := Imp_m h55.2.2.2.2.1 (by first | exact q_bcb984a5e1 h44.2.2.2.1 h33.2.2.2.1 h22.2.2.2.1 h11.2.2.2.1 h4 h5 | omega)
    refine En_Ps 1 (pc' := 61) (lv' := [(0, .ref 0), (1, .int a), (2, .int b), (3, .int c), (4, .int d), (5, .int e)]) (st' := [.ref 0]) rfl ?_
    refine En_getK (j := 0) ((h54 _ _ (inW tgz_0 (by decide +kernel))).trans ((h43 _ _ (inW tgz_0 (by decide +kernel))).trans ((h32 _ _ (inW tgz_0 (by decide +kernel))).trans ((h21 _ _ (inW tgz_0 (by decide +kernel))).trans ((h10 _ _ (inW tgz_0 (by decide +kernel))).trans h1))))) rfl rfl rfl tgz_0 (by decide +kernel) ?_
    refine En_getK (j := 1) h57 rfl rfl rfl tgz_1 (by decide +kernel) ?_
    exact En_ret (v := some (.int z56)) rfl rfl rfl ⟨h53, h59, z56, h57, z56, rfl, ⟨by first | exact q_be52155ce6 h55.1 | omega, by first | exact q_76190b61a3 h55.2.1 | omega, by first | exact q_7c7233d48f h60.2 h49.2 h38.2 h27.2 h11.1 | omega, by first | exact q_76190b61a3 h55.2.1 | omega, by first | exact q_2007956020 h16.2 h27.2 h38.2 h49.2 h60.2 | omega, by first | exact q_2bc18f6fdd h11.2.2.2.1 h22.2.2.2.1 h33.2.2.2.1 h44.2.2.2.1 h55.2.2.2.1 | omega, fun hh => by first | exact ⟨q_2bc18f6fdd h11.2.2.2.1 h22.2.2.2.1 h33.2.2.2.1 h44.2.2.2.1 h55.2.2.2.1, q_40bad344e3 h16.2 h27.2 h38.2 h49.2 h60.2, q_1bb76abeaf, q_857069189f⟩ | omega, fun hh => by first | exact ⟨q_c96239e5db hh h4 h5, q_8705a471bc hh h4 h5, q_0a5c54d24c hh h4 h5, q_be52155ce6 h55.1⟩ | omega, ⟨fun _ => FDP_5 (by omega) (APB_d h14 (by omega) (by omega)) (APB_d h25 (by omega) (by omega)) (APB_d h36 (by omega) (by omega)) (APB_d h47 (by omega) (by omega)) (APB_d h58 (by omega) (by omega)), fun h => absurd h (by omega)⟩⟩⟩
  · refine En_Ps 1 (pc' := 17) (lv' := [(0, .ref 0), (1, .int a), (2, .int b), (3, .int c), (4, .int d), (5, .int e)]) (st' := [.int ((Int32.ofInt (-1)))]) rfl ?_
    refine En_top (by decide : (Int32.ofInt (-1)).toInt = -1) (fun z61 h62 => ?_)
    exact En_ret (v := some (.int z61)) rfl rfl rfl ⟨hσ0, hF0, m, h_m, z61, rfl, ⟨by first | exact q_6ba54b61e9 h62 | omega, by first | exact q_99664cbdae h62 | omega, by first | exact q_abdabe92bc h4 h5 | omega, by first | exact q_5a08281576 hu_m | omega, by first | exact q_857069189f | omega, by first | exact q_b37250a010 | omega, fun _ => by omega, fun hh => by first | exact ⟨q_1bb76abeaf, q_857069189f, q_4eb6dac66d h62, q_6ba54b61e9 h62⟩ | omega, ⟨fun h => absurd h (by omega), fun _ _ => rfl⟩⟩⟩

