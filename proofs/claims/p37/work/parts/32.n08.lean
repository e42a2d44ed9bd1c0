/-- DoorSchool$Rules.deedsOf(II)I -/
abbrev P_77ax (σ0 : SG) (a : Int32) (b : Int32) (kk : Int32) : PO := fun v σ => WT σ ∧ Fr [] σ0 σ ∧ ∃ ret : Int32, v = some (.int ret) ∧ -ret.toInt ≤ 0 ∧ ret.toInt - 65535 ≤ 0 ∧ ret.toInt = DOf a.toInt b.toInt kk.toInt.toNat
set_option maxRecDepth 10000 in
set_option maxHeartbeats 4000000 in
theorem c_77ax (σ0 : SG) (hσ0 : WT σ0) (a : Int32) (b : Int32) (hl_a : 0 ≤ a.toInt) (hu_a : a.toInt ≤ 15) (kk : Int32) (h_kk : (σ0 4)[0]? = some (.int kk)) : En 0 0 none mr_77 (P_77ax σ0 a b kk) 0 [(0, .ref 4), (1, .int a), (2, .int b)] [] σ0 := by
  obtain ⟨hl_kk, hu_kk⟩ := WT_int hσ0 (g := 4) (by decide +kernel) (by decide +kernel) (l := 0) (u := 16) (by decide +kernel) h_kk
  have hF0 : Fr [] σ0 σ0 := Fr_rfl
  refine En_Ps 4 (pc' := 5) (lv' := [(4, .int ((Int32.ofInt 0))), (3, .int ((Int32.ofInt 0))), (0, .ref 4), (1, .int a), (2, .int b)]) (st' := []) rfl ?_
  have key5 : ∀ (n5 : Nat) (y1 : Int32) (y2 : Int32), 0 ≤ y1.toInt → y1.toInt ≤ 65535 → 0 ≤ y2.toInt → y2.toInt ≤ 16 → y2.toInt - kk.toInt ≤ 0 → kk.toInt - y2.toInt < (n5 : Int) → y1.toInt = DOf a.toInt b.toInt (y2.toInt).toNat → En 0 0 none mr_77 (P_77ax σ0 a b kk) 5 [(0, .ref 4), (1, .int a), (2, .int b), (3, .int y1), (4, .int y2)] [] σ0 := by
    intro n5
    induction n5 with
    | zero =>
      intro y1 y2 h6 h7 h8 h9 h10 h11 h12
      exfalso; omega
    | succ n5 ih5 =>
      intro y1 y2 h6 h7 h8 h9 h10 h11 h12
      refine En_Ps 2 (pc' := 8) (lv' := [(0, .ref 4), (1, .int a), (2, .int b), (3, .int y1), (4, .int y2)]) (st' := [.ref 4, .int y2]) rfl ?_
      refine En_getK (j := 0) h_kk rfl rfl rfl (by decide +kernel : TG 4 = 4) (by decide +kernel) ?_
      refine En_icGe _ rfl rfl rfl (fun h13 => ?_) (fun h13 => ?_)
      · refine En_Ps 1 (pc' := 36) (lv' := [(0, .ref 4), (1, .int a), (2, .int b), (3, .int y1), (4, .int y2)]) (st' := [.int y1]) rfl ?_
        exact En_ret (v := some (.int y1)) rfl rfl rfl ⟨hσ0, hF0, y1, rfl, ⟨by omega, by omega, DOf_e h12 (by omega) (by omega)⟩⟩
      · refine En_Ps 3 (pc' := 18) (lv' := [(0, .ref 4), (1, .int a), (2, .int b), (3, .int y1), (4, .int y2)]) (st' := [.int ((y2 &&& a))]) rfl ?_
        refine En_nam (fun z14 h15 => ?_)
        have h16 : z14.toInt = aN y2.toInt a.toInt := and_v h15 rfl rfl (by omega) (by omega)
        have := aN_le (X := y2.toInt) (Y := a.toInt) (by omega) (by omega)
        refine En_Ps 1 (pc' := 19) (lv' := [(0, .ref 4), (1, .int a), (2, .int b), (3, .int y1), (4, .int y2)]) (st' := [.int b, .int z14]) rfl ?_
        refine En_icNe _ rfl rfl rfl (fun h17 => ?_) (fun h17 => ?_)
        · refine En_Ps 1 (pc' := 32) (lv' := [(4, .int ((y2 + Int32.ofInt 1))), (0, .ref 4), (1, .int a), (2, .int b), (3, .int y1)]) (st' := []) rfl ?_
          refine En_lv1 (addI rfl (by decide : (Int32.ofInt 1).toInt = 1) (by omega) (by omega)) (fun z18 h19 => ?_)
          refine En_Ps 1 (pc' := 5) (lv' := [(4, .int z18), (0, .ref 4), (1, .int a), (2, .int b), (3, .int y1)]) (st' := []) rfl ?_
          refine En_lv (lv := [(0, .ref 4), (1, .int a), (2, .int b), (3, .int y1), (4, .int z18)]) ⟨rfl, rfl, rfl, rfl, rfl, trivial⟩ ?_
          exact ih5 y1 z18 (by omega) (by omega) (by omega) (by omega) (by omega) (by omega) (DOf_n (by omega) h12 (by omega) (by omega) (by omega))
        · refine En_Ps 4 (pc' := 27) (lv' := [(0, .ref 4), (1, .int a), (2, .int b), (3, .int y1), (4, .int y2)]) (st' := [.int ((((Int32.ofInt 1)) <<< (y2 &&& 31))), .int y1]) rfl ?_
          refine En_nam (fun z20 h21 => ?_)
          have h22 : z20.toInt = pI y2.toInt := shl_v h21 rfl (by omega) (by omega)
          have := pI_pos y2.toInt
          have : pI y2.toInt ≤ 32768 := pI_mono (Y := 15) (by omega)
          refine En_Ps 1 (pc' := 28) (lv' := [(0, .ref 4), (1, .int a), (2, .int b), (3, .int y1), (4, .int y2)]) (st' := [.int ((y1 ||| z20))]) rfl ?_
          refine En_nam (fun z23 h24 => ?_)
          have h25 : z23.toInt = oN y1.toInt z20.toInt := or_v h24 rfl rfl (by omega) (by omega)
          have := oN_lt (X := y1.toInt) (Y := z20.toInt) 16 (by omega) (by omega) (Int.lt_of_le_of_lt (by omega : _ ≤ (65535 : Int)) (by decide)) (Int.lt_of_le_of_lt (by omega : _ ≤ (65535 : Int)) (by decide))
          have two16 : ((2 ^ 16 : Nat) : Int) = 65536 := by decide
          refine En_Ps 2 (pc' := 32) (lv' := [(4, .int ((y2 + Int32.ofInt 1))), (3, .int z23), (0, .ref 4), (1, .int a), (2, .int b)]) (st' := []) rfl ?_
          refine En_lv1 (addI rfl (by decide : (Int32.ofInt 1).toInt = 1) (by omega) (by omega)) (fun z26 h27 => ?_)
          refine En_Ps 1 (pc' := 5) (lv' := [(4, .int z26), (3, .int z23), (0, .ref 4), (1, .int a), (2, .int b)]) (st' := []) rfl ?_
          refine En_lv (lv := [(0, .ref 4), (1, .int a), (2, .int b), (3, .int z23), (4, .int z26)]) ⟨rfl, rfl, rfl, rfl, rfl, trivial⟩ ?_
          exact ih5 z23 z26 (by omega) (by omega) (by omega) (by omega) (by omega) (by omega) ((by first | exact DOf_y (q := z20.toInt) (by omega) h12 (by omega) (by omega) (by omega) (by omega) | exact DOf_z (q := z20.toInt) (by omega) h12 (by omega) (by omega) (by omega) (by omega) (by omega)))
  have := (by decide : (Int32.ofInt 0).toInt = 0)
  have := (by decide : (Int32.ofInt 0).toInt = 0)
  refine En_lv (lv := [(0, .ref 4), (1, .int a), (2, .int b), (3, .int ((Int32.ofInt 0))), (4, .int ((Int32.ofInt 0)))]) ⟨rfl, rfl, rfl, rfl, rfl, trivial⟩ ?_
  exact key5 (Int.toNat (kk.toInt) + 1) ((Int32.ofInt 0)) ((Int32.ofInt 0)) (by omega) (by omega) (by omega) (by omega) (by omega) (by omega) (DOf_0 (by omega) (by omega))
/-- DoorSchool$Rules.addAllOf(I)V -/
abbrev P_76x (σ0 : SG) (n : Int) (a : Int32) (kk : Int32) (sz : Int32) : PO := fun v σ => WT σ ∧ Fr [(4, 1), (5, 0), (6, 0), (7, 0)] σ0 σ ∧ ∃ sz1 : Int32, (σ 4)[1]? = some (.int sz1) ∧ v = none ∧ -sz1.toInt ≤ 0 ∧ sz1.toInt - 81 ≤ 0 ∧ -sz1.toInt + kk.toInt - 16 ≤ 0 ∧ sz1.toInt - kk.toInt - 81 ≤ 0 ∧ -sz1.toInt + sz.toInt - 81 ≤ 0 ∧ sz1.toInt - sz.toInt - 16 ≤ 0 ∧ (RN kk.toInt n (a.toInt + 1) sz1.toInt ∧ TB σ 5 6 7 kk.toInt sz1.toInt)
set_option maxRecDepth 10000 in
set_option maxHeartbeats 4000000 in
theorem c_76x {n : Int} (σ0 : SG) (hσ0 : WT σ0) (a : Int32) (hl_a : 0 ≤ a.toInt) (hu_a : a.toInt ≤ 15) (kk : Int32) (h_kk : (σ0 4)[0]? = some (.int kk)) (sz : Int32) (h_sz : (σ0 4)[1]? = some (.int sz)) (hN : RN kk.toInt n a.toInt sz.toInt) (hm : a.toInt < kk.toInt) (hb : bcI a.toInt = n) (hT : TB σ0 5 6 7 kk.toInt sz.toInt) (hK : P2 kk.toInt) : En 1 24 none mr_76 (P_76x σ0 n a kk sz) 0 [(0, .ref 4), (1, .int a)] [] σ0 := by
  obtain ⟨hl_kk, hu_kk⟩ := WT_int hσ0 (g := 4) (by decide +kernel) (by decide +kernel) (l := 0) (u := 16) (by decide +kernel) h_kk
  obtain ⟨hl_sz, hu_sz⟩ := WT_int hσ0 (g := 4) (by decide +kernel) (by decide +kernel) (l := 0) (u := 81) (by decide +kernel) h_sz
  have hF0 : Fr [(4, 1), (5, 0), (6, 0), (7, 0)] σ0 σ0 := Fr_rfl
  refine En_Ps 2 (pc' := 2) (lv' := [(2, .int ((Int32.ofInt 0))), (0, .ref 4), (1, .int a)]) (st' := []) rfl ?_
  have key2 : ∀ (n2 : Nat) (σ3 : SG) (y1 : Int32) (y2 : Int32), WT σ3 → Fr [(4, 1), (5, 0), (6, 0), (7, 0)] σ0 σ3 → (σ3 4)[0]? = some (.int kk) → (σ3 4)[1]? = some (.int y2) → 0 ≤ y1.toInt → y1.toInt ≤ 16 → 0 ≤ y2.toInt → y2.toInt ≤ 81 → y1.toInt - a.toInt - 1 ≤ 0 → -sz.toInt - y1.toInt + y2.toInt ≤ 0 → -y1.toInt + 16 < (n2 : Int) → RV kk.toInt n a.toInt y1.toInt y2.toInt → TB σ3 5 6 7 kk.toInt y2.toInt → En 1 24 none mr_76 (P_76x σ0 n a kk sz) 2 [(0, .ref 4), (1, .int a), (2, .int y1)] [] σ3 := by
    intro n2
    induction n2 with
    | zero =>
      intro σ3 y1 y2 h4 h5 h6 h7 h8 h9 h10 h11 h12 h13 h14 h15 h16
      exfalso; omega
    | succ n2 ih2 =>
      intro σ3 y1 y2 h4 h5 h6 h7 h8 h9 h10 h11 h12 h13 h14 h15 h16
      refine En_Ps 2 (pc' := 4) (lv' := [(0, .ref 4), (1, .int a), (2, .int y1)]) (st' := [.int a, .int y1]) rfl ?_
      refine En_icGt _ rfl rfl rfl (fun h17 => ?_) (fun h17 => ?_)
      · exact En_ret (v := none) rfl rfl rfl ⟨h4, h5, y2, h7, rfl, ⟨by omega, by omega, by omega, by omega, by omega, by omega, ⟨RN_x h15 (by omega) rfl rfl (by omega), TB_eq h16 (by omega)⟩⟩⟩
      · refine En_Ps 1 (pc' := 8) (lv' := [(0, .ref 4), (1, .int a), (2, .int y1)]) (st' := [.ref 4]) rfl ?_
        refine En_getK (j := 1) h7 rfl rfl rfl (by decide +kernel : TG 4 = 4) (by decide +kernel) ?_
        have h18 := RV_le h15 (by omega)
        refine En_Ps 1 (pc' := 13) (lv' := [(0, .ref 4), (1, .int a), (2, .int y1)]) (st' := [.int (((Int8.ofInt 81).toInt32)), .int y2]) rfl ?_
        refine En_icGe _ rfl (by decide : ((Int8.ofInt 81).toInt32).toInt = 81) rfl (fun hx => by exfalso; omega) (fun h19 => ?_)
        refine En_Ps 4 (pc' := 20) (lv' := [(0, .ref 4), (1, .int a), (2, .int y1)]) (st' := [.int ((a ^^^ ((Int32.ofInt (-1))))), .int y1]) rfl ?_
        refine En_nam (fun z20 h21 => ?_)
        refine En_Ps 1 (pc' := 21) (lv' := [(0, .ref 4), (1, .int a), (2, .int y1)]) (st' := [.int ((y1 &&& z20))]) rfl ?_
        refine En_nam (fun z22 h23 => ?_)
        obtain ⟨h24, h25⟩ := andn_rng h23 rfl (by omega) (by omega : _ ≤ (15 : Int))
        refine En_iNe _ rfl rfl (fun h26 => ?_) (fun h26 => ?_)
        · have := sub_sb h23 h21 rfl rfl (by omega) (by omega) (by omega) (by omega)
          refine En_Ps 1 (pc' := 72) (lv' := [(2, .int ((y1 + Int32.ofInt 1))), (0, .ref 4), (1, .int a)]) (st' := []) rfl ?_
          refine En_lv1 (addI rfl (by decide : (Int32.ofInt 1).toInt = 1) (by omega) (by omega)) (fun z27 h28 => ?_)
          refine En_Ps 1 (pc' := 2) (lv' := [(2, .int z27), (0, .ref 4), (1, .int a)]) (st' := []) rfl ?_
          refine En_lv (lv := [(0, .ref 4), (1, .int a), (2, .int z27)]) ⟨rfl, rfl, rfl, trivial⟩ ?_
          exact ih2 σ3 z27 y2 h4 h5 h6 h7 (by omega) (by omega) (by omega) (by omega) (by omega) (by omega) (by omega) (RV_not h15 (by omega) (by omega) rfl rfl (by omega) (by omega)) (TB_eq h16 (by omega))
        · obtain ⟨h29, h30⟩ := andn_zero h23 h21 h26 rfl rfl (by omega)
          have := sub_sb h23 h21 rfl rfl (by omega) (by omega) (by omega) (by omega)
          refine En_Ps 1 (pc' := 25) (lv' := [(0, .ref 4), (1, .int a), (2, .int y1)]) (st' := [.ref 4]) rfl ?_
          refine En_getU (j := 2) (u := 5) (g' := 5) (q := 0) rfl rfl rfl (by decide +kernel : TG 4 = 4) (by decide +kernel) h4 (by decide +kernel) (by decide +kernel) (fun h31 => ?_)
          refine En_Ps 1 (pc' := 29) (lv' := [(0, .ref 4), (1, .int a), (2, .int y1)]) (st' := [.ref 4, .ref 5]) rfl ?_
          refine En_getK (j := 1) h7 rfl rfl rfl (by decide +kernel : TG 4 = 4) (by decide +kernel) ?_
          refine En_Ps 1 (pc' := 33) (lv' := [(0, .ref 4), (1, .int a), (2, .int y1)]) (st' := [.int a, .int y2, .ref 5]) rfl ?_
          refine En_iast (l := 0) (u := 15) rfl rfl (by decide +kernel : TG 5 = 5) (by decide +kernel) (by omega) (lnI (by decide +kernel : LN _ = 81) (by omega)) (FTsgl (by decide +kernel)) (rngI rfl (by omega) (by omega)) h4 h5 (by decide +kernel) (fun σ33 h34 h35 h36 h37 => ?_)
          refine En_Ps 1 (pc' := 35) (lv' := [(0, .ref 4), (1, .int a), (2, .int y1)]) (st' := [.ref 4]) rfl ?_
          refine En_getU (j := 3) (u := 6) (g' := 6) (q := 0) rfl rfl rfl (by decide +kernel : TG 4 = 4) (by decide +kernel) h34 (by decide +kernel) (by decide +kernel) (fun h38 => ?_)
          refine En_Ps 1 (pc' := 39) (lv' := [(0, .ref 4), (1, .int a), (2, .int y1)]) (st' := [.ref 4, .ref 6]) rfl ?_
          refine En_getK (j := 1) ((h37 _ _ (Or.inl (neTG (by decide +kernel : TG 4 = 4) (by decide +kernel : TG 5 = 5) (by decide)))).trans h7) rfl rfl rfl (by decide +kernel : TG 4 = 4) (by decide +kernel) ?_
          refine En_Ps 1 (pc' := 43) (lv' := [(0, .ref 4), (1, .int a), (2, .int y1)]) (st' := [.int y1, .int y2, .ref 6]) rfl ?_
          refine En_iast (l := 0) (u := 15) rfl rfl (by decide +kernel : TG 6 = 6) (by decide +kernel) (by omega) (lnI (by decide +kernel : LN _ = 81) (by omega)) (FTsgl (by decide +kernel)) (rngI rfl (by omega) (by omega)) h34 h35 (by decide +kernel) (fun σ40 h41 h42 h43 h44 => ?_)
          refine En_Ps 1 (pc' := 45) (lv' := [(0, .ref 4), (1, .int a), (2, .int y1)]) (st' := [.ref 4]) rfl ?_
          refine En_getU (j := 4) (u := 7) (g' := 7) (q := 0) rfl rfl rfl (by decide +kernel : TG 4 = 4) (by decide +kernel) h41 (by decide +kernel) (by decide +kernel) (fun h45 => ?_)
          refine En_Ps 1 (pc' := 49) (lv' := [(0, .ref 4), (1, .int a), (2, .int y1)]) (st' := [.ref 4, .ref 7]) rfl ?_
          refine En_getK (j := 1) ((h44 _ _ (Or.inl (neTG (by decide +kernel : TG 4 = 4) (by decide +kernel : TG 6 = 6) (by decide)))).trans ((h37 _ _ (Or.inl (neTG (by decide +kernel : TG 4 = 4) (by decide +kernel : TG 5 = 5) (by decide)))).trans h7)) rfl rfl rfl (by decide +kernel : TG 4 = 4) (by decide +kernel) ?_
          refine En_Ps 3 (pc' := 55) (lv' := [(0, .ref 4), (1, .int a), (2, .int y1)]) (st' := [.int y1, .int a, .ref 4, .int y2, .ref 7]) rfl ?_
          refine En_callV rfl rfl rfl rfl rfl rfl rfl rfl (by decide +kernel : TG 4 = 4) (by decide +kernel) rfl (c_77ax σ40 h41 a y1 (geI rfl (by omega)) (leI rfl (by omega)) kk ((h44 _ _ (Or.inl (neTG (by decide +kernel : TG 4 = 4) (by decide +kernel : TG 6 = 6) (by decide)))).trans ((h37 _ _ (Or.inl (neTG (by decide +kernel : TG 4 = 4) (by decide +kernel : TG 5 = 5) (by decide)))).trans h6))) (by decide) (by decide) (fun v48 σ49 h47 => ?_)
          obtain ⟨h50, h51, z53, rfl, h52⟩ := h47
          have h54 := h52.2.2
          obtain rfl : σ40 = σ49 := Fr_nil h51
          refine En_iast (l := (-2147483648)) (u := 2147483647) rfl rfl (by decide +kernel : TG 7 = 7) (by decide +kernel) (by omega) (lnI (by decide +kernel : LN _ = 81) (by omega)) (FTsgl (by decide +kernel)) (fullI _) h41 h42 (by decide +kernel) (fun σ55 h56 h57 h58 h59 => ?_)
          refine En_Ps 2 (pc' := 61) (lv' := [(0, .ref 4), (1, .int a), (2, .int y1)]) (st' := [.ref 4, .ref 4]) rfl ?_
          refine En_getK (j := 1) ((h59 _ _ (Or.inl (neTG (by decide +kernel : TG 4 = 4) (by decide +kernel : TG 7 = 7) (by decide)))).trans ((h44 _ _ (Or.inl (neTG (by decide +kernel : TG 4 = 4) (by decide +kernel : TG 6 = 6) (by decide)))).trans ((h37 _ _ (Or.inl (neTG (by decide +kernel : TG 4 = 4) (by decide +kernel : TG 5 = 5) (by decide)))).trans h7))) rfl rfl rfl (by decide +kernel : TG 4 = 4) (by decide +kernel) ?_
          refine En_Ps 2 (pc' := 66) (lv' := [(0, .ref 4), (1, .int a), (2, .int y1)]) (st' := [.int ((y2 + ((Int32.ofInt 1)))), .ref 4]) rfl ?_
          refine En_top (addI rfl (by decide : (Int32.ofInt 1).toInt = 1) (by omega) (by omega)) (fun z60 h61 => ?_)
          refine En_put (j := 1) rfl rfl rfl (by decide +kernel : TG 4 = 4) (by decide +kernel) rfl (vI (l := 0) (u := 81) (by decide +kernel) rfl (by omega) (by omega)) h56 h57 (by decide +kernel) (fun σ62 h63 h64 h65 h66 => ?_)
          refine En_Ps 1 (pc' := 72) (lv' := [(2, .int ((y1 + Int32.ofInt 1))), (0, .ref 4), (1, .int a)]) (st' := []) rfl ?_
          refine En_lv1 (addI rfl (by decide : (Int32.ofInt 1).toInt = 1) (by omega) (by omega)) (fun z67 h68 => ?_)
          refine En_Ps 1 (pc' := 2) (lv' := [(2, .int z67), (0, .ref 4), (1, .int a)]) (st' := []) rfl ?_
          refine En_lv (lv := [(0, .ref 4), (1, .int a), (2, .int z67)]) ⟨rfl, rfl, rfl, trivial⟩ ?_
          exact ih2 σ62 z67 z60 h63 h64 ((h66 _ _ (Or.inr (by decide))).trans ((h59 _ _ (Or.inl (neTG (by decide +kernel : TG 4 = 4) (by decide +kernel : TG 7 = 7) (by decide)))).trans ((h44 _ _ (Or.inl (neTG (by decide +kernel : TG 4 = 4) (by decide +kernel : TG 6 = 6) (by decide)))).trans ((h37 _ _ (Or.inl (neTG (by decide +kernel : TG 4 = 4) (by decide +kernel : TG 5 = 5) (by decide)))).trans h6)))) h65 (by omega) (by omega) (by omega) (by omega) (by omega) (by omega) (by omega) (RV_put h15 (by omega) (by omega) rfl rfl (by omega) (by omega)) (TB_ne (TB_put h16 hK h15 (by omega) (by omega) h36 h37 h43 h44 h58 h59 (by decide) (by decide) (by decide) (by omega) (by omega) (by omega) (by omega) (by omega) (by omega) (by omega) (by omega)) h66 (by decide) (by decide) (by decide))
  have := (by decide : (Int32.ofInt 0).toInt = 0)
  refine En_lv (lv := [(0, .ref 4), (1, .int a), (2, .int ((Int32.ofInt 0)))]) ⟨rfl, rfl, rfl, trivial⟩ ?_
  exact key2 (Int.toNat (16) + 1) σ0 ((Int32.ofInt 0)) sz hσ0 hF0 h_kk h_sz (by omega) (by omega) (by omega) (by omega) (by omega) (by omega) (by omega) (RV_in hN hm hb rfl rfl (by omega) (by omega)) (hT)
/-- DoorSchool$Rules.howMany(II)I -/
abbrev P_79x (σ0 : SG) (a : Int32) (b : Int32) (rz : Int32) : PO := fun v σ => WT σ ∧ Fr [] σ0 σ ∧ ∃ ret : Int32, v = some (.int ret) ∧ -ret.toInt ≤ 0 ∧ ret.toInt - 81 ≤ 0 ∧ ret.toInt = CNT (fun i => AGP (ci σ0 7 i) a.toInt b.toInt) rz.toInt.toNat
set_option maxRecDepth 10000 in
set_option maxHeartbeats 4000000 in
theorem c_79x (σ0 : SG) (hσ0 : WT σ0) (a : Int32) (b : Int32) (hl_a : 0 ≤ a.toInt) (hu_a : a.toInt ≤ 65535) (hl_b : 0 ≤ b.toInt) (hu_b : b.toInt ≤ 65535) (rz : Int32) (h_rz : (σ0 4)[1]? = some (.int rz)) (hD : ∀ i : Int, 0 ≤ i → i < rz.toInt → 0 ≤ ci σ0 7 i ∧ ci σ0 7 i ≤ 65535) : En 1 22 none mr_79 (P_79x σ0 a b rz) 0 [(0, .ref 4), (1, .int a), (2, .int b)] [] σ0 := by
  obtain ⟨hl_rz, hu_rz⟩ := WT_int hσ0 (g := 4) (by decide +kernel) (by decide +kernel) (l := 0) (u := 81) (by decide +kernel) h_rz
  have hF0 : Fr [] σ0 σ0 := Fr_rfl
  refine En_Ps 4 (pc' := 5) (lv' := [(4, .int ((Int32.ofInt 0))), (3, .int ((Int32.ofInt 0))), (0, .ref 4), (1, .int a), (2, .int b)]) (st' := []) rfl ?_
  have key5 : ∀ (n5 : Nat) (y1 : Int32) (y2 : Int32), 0 ≤ y1.toInt → y1.toInt ≤ 81 → 0 ≤ y2.toInt → y2.toInt ≤ 81 → y2.toInt - rz.toInt ≤ 0 → y1.toInt - y2.toInt ≤ 0 → rz.toInt - y2.toInt < (n5 : Int) → y1.toInt = CNT (fun i => AGP (ci σ0 7 i) a.toInt b.toInt) (y2.toInt).toNat → y2.toInt ≤ rz.toInt → En 1 22 none mr_79 (P_79x σ0 a b rz) 5 [(0, .ref 4), (1, .int a), (2, .int b), (3, .int y1), (4, .int y2)] [] σ0 := by
    intro n5
    induction n5 with
    | zero =>
      intro y1 y2 h6 h7 h8 h9 h10 h11 h12 h13 h14
      exfalso; omega
    | succ n5 ih5 =>
      intro y1 y2 h6 h7 h8 h9 h10 h11 h12 h13 h14
      refine En_Ps 2 (pc' := 8) (lv' := [(0, .ref 4), (1, .int a), (2, .int b), (3, .int y1), (4, .int y2)]) (st' := [.ref 4, .int y2]) rfl ?_
      refine En_getK (j := 1) h_rz rfl rfl rfl (by decide +kernel : TG 4 = 4) (by decide +kernel) ?_
      refine En_icGe _ rfl rfl rfl (fun h15 => ?_) (fun h15 => ?_)
      · refine En_Ps 1 (pc' := 39) (lv' := [(0, .ref 4), (1, .int a), (2, .int b), (3, .int y1), (4, .int y2)]) (st' := [.int y1]) rfl ?_
        exact En_ret (v := some (.int y1)) rfl rfl rfl ⟨hσ0, hF0, y1, rfl, ⟨by omega, by omega, CNT_e h13 (by omega) (by omega)⟩⟩
      · refine En_Ps 1 (pc' := 15) (lv' := [(0, .ref 4), (1, .int a), (2, .int b), (3, .int y1), (4, .int y2)]) (st' := [.ref 4]) rfl ?_
        refine En_getU (j := 4) (u := 7) (g' := 7) (q := 0) rfl rfl rfl (by decide +kernel : TG 4 = 4) (by decide +kernel) hσ0 (by decide +kernel) (by decide +kernel) (fun h16 => ?_)
        refine En_Ps 1 (pc' := 20) (lv' := [(0, .ref 4), (1, .int a), (2, .int b), (3, .int y1), (4, .int y2)]) (st' := [.int y2, .ref 7]) rfl ?_
        refine En_iald (l := (-2147483648)) (u := 2147483647) rfl rfl (by decide +kernel : TG 7 = 7) (by decide +kernel) hσ0 (by omega) (lnI (by decide +kernel : LN _ = 81) (by omega)) (FTsgl (by decide +kernel)) (fun z19 h18 h20 h21 => ?_)
        have h22 : ci σ0 7 (y2.toInt) = z19.toInt := ci_at h18 rfl
        have h23 := hD y2.toInt (by omega) (by omega)
        refine En_Ps 2 (pc' := 23) (lv' := [(0, .ref 4), (1, .int a), (2, .int b), (3, .int y1), (4, .int y2)]) (st' := [.int b, .int a, .int z19]) rfl ?_
        refine En_callS rfl rfl rfl rfl rfl rfl rfl rfl rfl (c_100ax σ0 hσ0 z19 a b (geI rfl (by omega)) (leI rfl (by omega)) (geI rfl (by omega)) (leI rfl (by omega)) (geI rfl (by omega)) (leI rfl (by omega))) (by decide) (by decide) (fun v25 σ26 h24 => ?_)
        obtain ⟨h27, h28, z30, rfl, h29⟩ := h24
        have h31 := h29.2.2
        obtain rfl : σ0 = σ26 := Fr_nil h28
        refine En_iEq _ rfl rfl (fun h32 => ?_) (fun h32 => ?_)
        · refine En_Ps 1 (pc' := 35) (lv' := [(4, .int ((y2 + Int32.ofInt 1))), (0, .ref 4), (1, .int a), (2, .int b), (3, .int y1)]) (st' := []) rfl ?_
          refine En_lv1 (addI rfl (by decide : (Int32.ofInt 1).toInt = 1) (by omega) (by omega)) (fun z33 h34 => ?_)
          refine En_Ps 1 (pc' := 5) (lv' := [(4, .int z33), (0, .ref 4), (1, .int a), (2, .int b), (3, .int y1)]) (st' := []) rfl ?_
          refine En_lv (lv := [(0, .ref 4), (1, .int a), (2, .int b), (3, .int y1), (4, .int z33)]) ⟨rfl, rfl, rfl, rfl, rfl, trivial⟩ ?_
          exact ih5 y1 z33 (by omega) (by omega) (by omega) (by omega) (by omega) (by omega) (by omega) ((by first | exact CNT_y (by omega) h13 (AGP_of h22 (by omega) (by omega)) (by omega) (by omega) | exact CNT_n (by omega) h13 (AGP_no h22 (by omega)) (by omega) (by omega))) ((by omega))
        · refine En_Ps 1 (pc' := 32) (lv' := [(3, .int ((y1 + Int32.ofInt 1))), (0, .ref 4), (1, .int a), (2, .int b), (4, .int y2)]) (st' := []) rfl ?_
          refine En_lv1 (addI rfl (by decide : (Int32.ofInt 1).toInt = 1) (by omega) (by omega)) (fun z35 h36 => ?_)
          refine En_Ps 1 (pc' := 35) (lv' := [(4, .int ((y2 + Int32.ofInt 1))), (3, .int z35), (0, .ref 4), (1, .int a), (2, .int b)]) (st' := []) rfl ?_
          refine En_lv1 (addI rfl (by decide : (Int32.ofInt 1).toInt = 1) (by omega) (by omega)) (fun z37 h38 => ?_)
          refine En_Ps 1 (pc' := 5) (lv' := [(4, .int z37), (3, .int z35), (0, .ref 4), (1, .int a), (2, .int b)]) (st' := []) rfl ?_
          refine En_lv (lv := [(0, .ref 4), (1, .int a), (2, .int b), (3, .int z35), (4, .int z37)]) ⟨rfl, rfl, rfl, rfl, rfl, trivial⟩ ?_
          exact ih5 z35 z37 (by omega) (by omega) (by omega) (by omega) (by omega) (by omega) (by omega) ((by first | exact CNT_y (by omega) h13 (AGP_of h22 (by omega) (by omega)) (by omega) (by omega) | exact CNT_n (by omega) h13 (AGP_no h22 (by omega)) (by omega) (by omega))) ((by omega))
  have := (by decide : (Int32.ofInt 0).toInt = 0)
  have := (by decide : (Int32.ofInt 0).toInt = 0)
  refine En_lv (lv := [(0, .ref 4), (1, .int a), (2, .int b), (3, .int ((Int32.ofInt 0))), (4, .int ((Int32.ofInt 0)))]) ⟨rfl, rfl, rfl, rfl, rfl, trivial⟩ ?_
  exact key5 (Int.toNat (rz.toInt) + 1) ((Int32.ofInt 0)) ((Int32.ofInt 0)) (by omega) (by omega) (by omega) (by omega) (by omega) (by omega) (by omega) (CNT_0 (by omega) (by omega)) ((by omega))
/-- DoorSchool$Rules.placeOf(I)I -/
abbrev P_81x (σ0 : SG) (a : Int32) (rz : Int32) : PO := fun v σ => WT σ ∧ Fr [] σ0 σ ∧ ∃ ret : Int32, v = some (.int ret) ∧ -ret.toInt - 1 ≤ 0 ∧ ret.toInt - 80 ≤ 0 ∧ ret.toInt = FIR (fun i => ci σ0 7 i = a.toInt) rz.toInt.toNat
set_option maxRecDepth 10000 in
set_option maxHeartbeats 4000000 in
theorem c_81x (σ0 : SG) (hσ0 : WT σ0) (a : Int32) (rz : Int32) (h_rz : (σ0 4)[1]? = some (.int rz)) : En 0 0 none mr_81 (P_81x σ0 a rz) 0 [(0, .ref 4), (1, .int a)] [] σ0 := by
  obtain ⟨hl_rz, hu_rz⟩ := WT_int hσ0 (g := 4) (by decide +kernel) (by decide +kernel) (l := 0) (u := 81) (by decide +kernel) h_rz
  have hF0 : Fr [] σ0 σ0 := Fr_rfl
  refine En_Ps 2 (pc' := 2) (lv' := [(2, .int ((Int32.ofInt 0))), (0, .ref 4), (1, .int a)]) (st' := []) rfl ?_
  have key2 : ∀ (n2 : Nat) (y1 : Int32), 0 ≤ y1.toInt → y1.toInt ≤ 81 → y1.toInt - rz.toInt ≤ 0 → rz.toInt - y1.toInt < (n2 : Int) → NOP (fun i => ci σ0 7 i = a.toInt) y1.toInt → En 0 0 none mr_81 (P_81x σ0 a rz) 2 [(0, .ref 4), (1, .int a), (2, .int y1)] [] σ0 := by
    intro n2
    induction n2 with
    | zero =>
      intro y1 h5 h6 h7 h8 h9
      exfalso; omega
    | succ n2 ih2 =>
      intro y1 h5 h6 h7 h8 h9
      refine En_Ps 2 (pc' := 4) (lv' := [(0, .ref 4), (1, .int a), (2, .int y1)]) (st' := [.ref 4, .int y1]) rfl ?_
      refine En_getK (j := 1) h_rz rfl rfl rfl (by decide +kernel : TG 4 = 4) (by decide +kernel) ?_
      refine En_icGe _ rfl rfl rfl (fun h10 => ?_) (fun h10 => ?_)
      · refine En_Ps 1 (pc' := 29) (lv' := [(0, .ref 4), (1, .int a), (2, .int y1)]) (st' := [.int ((Int32.ofInt (-1)))]) rfl ?_
        refine En_top (by decide : (Int32.ofInt (-1)).toInt = -1) (fun z11 h12 => ?_)
        exact En_ret (v := some (.int z11)) rfl rfl rfl ⟨hσ0, hF0, z11, rfl, ⟨by omega, by omega, NOP_n h9 (by omega) (by omega) (by omega)⟩⟩
      · refine En_Ps 1 (pc' := 11) (lv' := [(0, .ref 4), (1, .int a), (2, .int y1)]) (st' := [.ref 4]) rfl ?_
        refine En_getU (j := 4) (u := 7) (g' := 7) (q := 0) rfl rfl rfl (by decide +kernel : TG 4 = 4) (by decide +kernel) hσ0 (by decide +kernel) (by decide +kernel) (fun h13 => ?_)
        refine En_Ps 1 (pc' := 15) (lv' := [(0, .ref 4), (1, .int a), (2, .int y1)]) (st' := [.int y1, .ref 7]) rfl ?_
        refine En_iald (l := (-2147483648)) (u := 2147483647) rfl rfl (by decide +kernel : TG 7 = 7) (by decide +kernel) hσ0 (by omega) (lnI (by decide +kernel : LN _ = 81) (by omega)) (FTsgl (by decide +kernel)) (fun z16 h15 h17 h18 => ?_)
        have h19 : ci σ0 7 (y1.toInt) = z16.toInt := ci_at h15 rfl
        refine En_Ps 1 (pc' := 17) (lv' := [(0, .ref 4), (1, .int a), (2, .int y1)]) (st' := [.int a, .int z16]) rfl ?_
        refine En_icNe _ rfl rfl rfl (fun h20 => ?_) (fun h20 => ?_)
        · refine En_Ps 1 (pc' := 25) (lv' := [(2, .int ((y1 + Int32.ofInt 1))), (0, .ref 4), (1, .int a)]) (st' := []) rfl ?_
          refine En_lv1 (addI rfl (by decide : (Int32.ofInt 1).toInt = 1) (by omega) (by omega)) (fun z21 h22 => ?_)
          refine En_Ps 1 (pc' := 2) (lv' := [(2, .int z21), (0, .ref 4), (1, .int a)]) (st' := []) rfl ?_
          refine En_lv (lv := [(0, .ref 4), (1, .int a), (2, .int z21)]) ⟨rfl, rfl, rfl, trivial⟩ ?_
          exact ih2 z21 (by omega) (by omega) (by omega) (by omega) (NOP_s h9 (by show ¬ (ci σ0 7 _ = a.toInt); rw [h19]; omega) (by omega))
        · refine En_Ps 1 (pc' := 21) (lv' := [(0, .ref 4), (1, .int a), (2, .int y1)]) (st' := [.int y1]) rfl ?_
          exact En_ret (v := some (.int y1)) rfl rfl rfl ⟨hσ0, hF0, y1, rfl, ⟨by omega, by omega, NOP_y h9 (by omega) (by show ci σ0 7 _ = a.toInt; rw [h19]; omega) (by omega) (by omega)⟩⟩
  have := (by decide : (Int32.ofInt 0).toInt = 0)
  refine En_lv (lv := [(0, .ref 4), (1, .int a), (2, .int ((Int32.ofInt 0)))]) ⟨rfl, rfl, rfl, trivial⟩ ?_
  exact key2 (Int.toNat (rz.toInt) + 1) ((Int32.ofInt 0)) (by omega) (by omega) (by omega) (by omega) (NOP_0 (by omega))
/-- DoorSchool$Rules.prepare(I)V -/
abbrev P_82x (σ0 : SG) (a : Int32) : PO := fun v σ => WT σ ∧ Fr [(4, 0), (4, 1), (5, 0), (6, 0), (7, 0)] σ0 σ ∧ v = none ∧ RULx σ a.toInt
set_option maxRecDepth 10000 in
set_option maxHeartbeats 4000000 in
theorem c_82x (σ0 : SG) (hσ0 : WT σ0) (a : Int32) (hl_a : 0 ≤ a.toInt) (hu_a : a.toInt ≤ 4) : En 2 46 none mr_82 (P_82x σ0 a) 0 [(0, .ref 4), (1, .int a)] [] σ0 := by
  have hF0 : Fr [(4, 0), (4, 1), (5, 0), (6, 0), (7, 0)] σ0 σ0 := Fr_rfl
  refine En_Ps 4 (pc' := 4) (lv' := [(0, .ref 4), (1, .int a)]) (st' := [.int ((((Int32.ofInt 1)) <<< (a &&& 31))), .ref 4]) rfl ?_
  refine En_nam (fun z1 h2 => ?_)
  have h3 : z1.toInt = pI a.toInt := shl_v h2 rfl (by omega) (by omega)
  have := pI_pos a.toInt
  have : pI a.toInt ≤ 16 := pI_mono (Y := 4) (by omega)
  refine En_put (j := 0) rfl rfl rfl (by decide +kernel : TG 4 = 4) (by decide +kernel) rfl (vI (l := 0) (u := 16) (by decide +kernel) rfl (by omega) (by omega)) hσ0 hF0 (by decide +kernel) (fun σ4 h5 h6 h7 h8 => ?_)
  refine En_Ps 2 (pc' := 9) (lv' := [(0, .ref 4), (1, .int a)]) (st' := [.int ((Int32.ofInt 0)), .ref 4]) rfl ?_
  refine En_put (j := 1) rfl rfl rfl (by decide +kernel : TG 4 = 4) (by decide +kernel) rfl (vI (l := 0) (u := 81) (by decide +kernel) (by decide : (Int32.ofInt 0).toInt = 0) (by omega) (by omega)) h5 h6 (by decide +kernel) (fun σ9 h10 h11 h12 h13 => ?_)
  refine En_Ps 2 (pc' := 14) (lv' := [(2, .int ((Int32.ofInt 0))), (0, .ref 4), (1, .int a)]) (st' := []) rfl ?_
  have key14 : ∀ (n14 : Nat) (σ16 : SG) (y14 : Int32) (y15 : Int32), WT σ16 → Fr [(4, 0), (4, 1), (5, 0), (6, 0), (7, 0)] σ0 σ16 → (σ16 4)[0]? = some (.int z1) → (σ16 4)[1]? = some (.int y15) → 0 ≤ y14.toInt → y14.toInt ≤ 5 → 0 ≤ y15.toInt → y15.toInt ≤ 81 → y14.toInt - a.toInt - 1 ≤ 0 → -y14.toInt + 5 < (n14 : Int) → RN z1.toInt y14.toInt 0 y15.toInt → TB σ16 5 6 7 z1.toInt y15.toInt → En 2 46 none mr_82 (P_82x σ0 a) 14 [(0, .ref 4), (1, .int a), (2, .int y14)] [] σ16 := by
    intro n14
    induction n14 with
    | zero =>
      intro σ16 y14 y15 h17 h18 h19 h20 h21 h22 h23 h24 h25 h26 h27 h28
      exfalso; omega
    | succ n14 ih14 =>
      intro σ16 y14 y15 h17 h18 h19 h20 h21 h22 h23 h24 h25 h26 h27 h28
      refine En_Ps 2 (pc' := 16) (lv' := [(0, .ref 4), (1, .int a), (2, .int y14)]) (st' := [.int a, .int y14]) rfl ?_
      refine En_icGt _ rfl rfl rfl (fun h29 => ?_) (fun h29 => ?_)
      · exact En_ret (v := none) rfl rfl rfl ⟨h17, h18, rfl, (by have ek : z1.toInt = pI a.toInt := (by omega); have er := RN_end (s := a.toInt) (by omega) (by omega) ek h27 (by omega) rfl; exact ⟨(ci_at (j := 0) h19 rfl).trans ek, (ci_at (j := 1) h20 rfl).trans er, by rw [← ek, ← er]; exact h28⟩)⟩
      · refine En_Ps 2 (pc' := 21) (lv' := [(3, .int ((Int32.ofInt 0))), (0, .ref 4), (1, .int a), (2, .int y14)]) (st' := []) rfl ?_
        have key21 : ∀ (n21 : Nat) (σ32 : SG) (y30 : Int32) (y31 : Int32), WT σ32 → Fr [(4, 0), (4, 1), (5, 0), (6, 0), (7, 0)] σ0 σ32 → (σ32 4)[0]? = some (.int z1) → (σ32 4)[1]? = some (.int y31) → 0 ≤ y30.toInt → y30.toInt ≤ 16 → 0 ≤ y31.toInt → y31.toInt ≤ 81 → y30.toInt - z1.toInt ≤ 0 → z1.toInt - y30.toInt < (n21 : Int) → RN z1.toInt y14.toInt y30.toInt y31.toInt → TB σ32 5 6 7 z1.toInt y31.toInt → En 2 46 none mr_82 (P_82x σ0 a) 21 [(0, .ref 4), (1, .int a), (2, .int y14), (3, .int y30)] [] σ32 := by
          intro n21
          induction n21 with
          | zero =>
            intro σ32 y30 y31 h33 h34 h35 h36 h37 h38 h39 h40 h41 h42 h43 h44
            exfalso; omega
          | succ n21 ih21 =>
            intro σ32 y30 y31 h33 h34 h35 h36 h37 h38 h39 h40 h41 h42 h43 h44
            refine En_Ps 2 (pc' := 23) (lv' := [(0, .ref 4), (1, .int a), (2, .int y14), (3, .int y30)]) (st' := [.ref 4, .int y30]) rfl ?_
            refine En_getK (j := 0) h35 rfl rfl rfl (by decide +kernel : TG 4 = 4) (by decide +kernel) ?_
            refine En_icGe _ rfl rfl rfl (fun h45 => ?_) (fun h45 => ?_)
            · refine En_Ps 1 (pc' := 51) (lv' := [(2, .int ((y14 + Int32.ofInt 1))), (0, .ref 4), (1, .int a), (3, .int y30)]) (st' := []) rfl ?_
              refine En_lv1 (addI rfl (by decide : (Int32.ofInt 1).toInt = 1) (by omega) (by omega)) (fun z46 h47 => ?_)
              refine En_Ps 1 (pc' := 14) (lv' := [(2, .int z46), (0, .ref 4), (1, .int a), (3, .int y30)]) (st' := []) rfl ?_
              refine En_lv (lv := [(0, .ref 4), (1, .int a), (2, .int z46)]) ⟨rfl, rfl, rfl, trivial⟩ ?_
              exact ih14 σ32 z46 y31 h33 h34 h35 h36 (by omega) (by omega) (by omega) (by omega) (by omega) (by omega) (RN_n h43 (by omega) (by omega) (by omega) rfl (by omega)) (TB_eq h44 (by omega))
            · refine En_Ps 1 (pc' := 30) (lv' := [(0, .ref 4), (1, .int a), (2, .int y14), (3, .int y30)]) (st' := [.int y30]) rfl ?_
              refine En_callS rfl rfl rfl rfl rfl rfl rfl rfl rfl (c_7ax σ32 h33 y30 (geI rfl (by omega)) (leI rfl (by omega))) (by decide) (by decide) (fun v49 σ50 h48 => ?_)
              obtain ⟨h51, h52, z54, rfl, h53⟩ := h48
              have h55 := h53.2.2
              obtain rfl : σ32 = σ50 := Fr_nil h52
              refine En_Ps 1 (pc' := 34) (lv' := [(0, .ref 4), (1, .int a), (2, .int y14), (3, .int y30)]) (st' := [.int y14, .int z54]) rfl ?_
              refine En_icNe _ rfl rfl rfl (fun h56 => ?_) (fun h56 => ?_)
              · refine En_Ps 1 (pc' := 45) (lv' := [(3, .int ((y30 + Int32.ofInt 1))), (0, .ref 4), (1, .int a), (2, .int y14)]) (st' := []) rfl ?_
                refine En_lv1 (addI rfl (by decide : (Int32.ofInt 1).toInt = 1) (by omega) (by omega)) (fun z57 h58 => ?_)
                refine En_Ps 1 (pc' := 21) (lv' := [(3, .int z57), (0, .ref 4), (1, .int a), (2, .int y14)]) (st' := []) rfl ?_
                refine En_lv (lv := [(0, .ref 4), (1, .int a), (2, .int y14), (3, .int z57)]) ⟨rfl, rfl, rfl, rfl, trivial⟩ ?_
                exact ih21 σ32 z57 y31 h33 h34 h35 h36 (by omega) (by omega) (by omega) (by omega) (by omega) (by omega) (RN_skip h43 (by omega) (by omega) (by omega) (by omega) (by omega)) (TB_eq h44 (by omega))
              · refine En_Ps 2 (pc' := 39) (lv' := [(0, .ref 4), (1, .int a), (2, .int y14), (3, .int y30)]) (st' := [.int y30, .ref 4]) rfl ?_
                refine En_callV rfl rfl rfl rfl rfl rfl rfl rfl (by decide +kernel : TG 4 = 4) (by decide +kernel) rfl (c_76x σ32 h33 y30 (geI rfl (by omega)) (leI rfl (by omega)) z1 h35 y31 h36 h43 (by omega) (by omega) h44 (by rw [show z1.toInt = pI a.toInt by omega]; exact P2_pI (by omega) (by omega))) (by decide) (by decide) (fun v60 σ61 h59 => ?_)
                obtain ⟨h62, h63, z65, h66, rfl, h64⟩ := h59
                have h67 := h64.2.2.2.2.2.2
                have h68 := Fr_trans h34 h63 (by decide +kernel)
                refine En_Ps 1 (pc' := 45) (lv' := [(3, .int ((y30 + Int32.ofInt 1))), (0, .ref 4), (1, .int a), (2, .int y14)]) (st' := []) rfl ?_
                refine En_lv1 (addI rfl (by decide : (Int32.ofInt 1).toInt = 1) (by omega) (by omega)) (fun z69 h70 => ?_)
                refine En_Ps 1 (pc' := 21) (lv' := [(3, .int z69), (0, .ref 4), (1, .int a), (2, .int y14)]) (st' := []) rfl ?_
                refine En_lv (lv := [(0, .ref 4), (1, .int a), (2, .int y14), (3, .int z69)]) ⟨rfl, rfl, rfl, rfl, trivial⟩ ?_
                exact ih21 σ61 z69 z65 h62 h68 ((h63 _ _ (inW (by decide +kernel : TG 4 = 4) (by decide +kernel))).trans h35) h66 (by omega) (by omega) (by omega) (by omega) (by omega) (by omega) (RN_eq h67.1 (by omega) (by omega) (by omega)) (TB_eq h67.2 (by omega))
        have := (by decide : (Int32.ofInt 0).toInt = 0)
        refine En_lv (lv := [(0, .ref 4), (1, .int a), (2, .int y14), (3, .int ((Int32.ofInt 0)))]) ⟨rfl, rfl, rfl, rfl, trivial⟩ ?_
        exact key21 (Int.toNat (z1.toInt) + 1) σ16 ((Int32.ofInt 0)) y15 h17 h18 h19 h20 (by omega) (by omega) (by omega) (by omega) (by omega) (by omega) (RN_eq h27 (by omega) (by omega) (by omega)) (TB_eq h28 (by omega))
  have := (by decide : (Int32.ofInt 0).toInt = 0)
  have := (by decide : (Int32.ofInt 0).toInt = 0)
  refine En_lv (lv := [(0, .ref 4), (1, .int a), (2, .int ((Int32.ofInt 0)))]) ⟨rfl, rfl, rfl, trivial⟩ ?_
  exact key14 (Int.toNat (5) + 1) σ9 ((Int32.ofInt 0)) ((Int32.ofInt 0)) h10 h11 ((h13 _ _ (Or.inr (by decide))).trans h7) h12 (by omega) (by omega) (by omega) (by omega) (by omega) (by omega) (RN_0 (by have := pI_rng (s := a.toInt) (by omega) (by omega); constructor <;> omega) (by omega) rfl (by omega)) (TB_0 (by omega))
/-- DoorSchool$Tape.append(I)V -/
abbrev P_90x (σ0 : SG) (a : Int32) (m : Int32) : PO := fun v σ => WT σ ∧ Fr [(1, 1), (2, 0)] σ0 σ ∧ ∃ m1 : Int32, (σ 1)[1]? = some (.int m1) ∧ v = none ∧ -m1.toInt + 4 ≤ 0 ∧ m1.toInt - 1600 ≤ 0 ∧ -m1.toInt + m.toInt ≤ 0 ∧ m1.toInt - m.toInt - 4 ≤ 0 ∧ Imp (m.toInt - 1596 ≤ 0) (m1.toInt - m.toInt - 4 ≤ 0 ∧ -m1.toInt + m.toInt + 4 ≤ 0) ∧ APB σ0 σ 2 m.toInt (m1.toInt - m.toInt) a
set_option maxRecDepth 10000 in
set_option maxHeartbeats 4000000 in
theorem c_90x (σ0 : SG) (hσ0 : WT σ0) (a : Int32) (m : Int32) (h_m : (σ0 1)[1]? = some (.int m)) : En 0 0 none mr_90 (P_90x σ0 a m) 0 [(0, .ref 1), (1, .int a)] [] σ0 := by
  obtain ⟨hl_m, hu_m⟩ := WT_int hσ0 (g := 1) (by decide +kernel) (by decide +kernel) (l := 0) (u := 1600) (by decide +kernel) h_m
  have hF0 : Fr [(1, 1), (2, 0)] σ0 σ0 := Fr_rfl
  refine En_Ps 2 (pc' := 3) (lv' := [(2, .int (((Int8.ofInt 24).toInt32))), (0, .ref 1), (1, .int a)]) (st' := []) rfl ?_
  have key3 : ∀ (n3 : Nat) (σ3 : SG) (y1 : Int32) (y2 : Int32), WT σ3 → Fr [(1, 1), (2, 0)] σ0 σ3 → (σ3 1)[1]? = some (.int y2) → (-8) ≤ y1.toInt → y1.toInt ≤ 24 → 0 ≤ y2.toInt → y2.toInt ≤ 1600 → y1.toInt + 8 * y2.toInt - 8 * m.toInt - 24 ≤ 0 → 8 * m.toInt - y1.toInt - 8 * y2.toInt + 24 ≤ 0 → y1.toInt + 8 < (n3 : Int) → APB σ0 σ3 2 m.toInt (y2.toInt - m.toInt) a → En 0 0 none mr_90 (P_90x σ0 a m) 3 [(0, .ref 1), (1, .int a), (2, .int y1)] [] σ3 := by
    intro n3
    induction n3 with
    | zero =>
      intro σ3 y1 y2 h4 h5 h6 h7 h8 h9 h10 h11 h12 h13 h14
      exfalso; omega
    | succ n3 ih3 =>
      intro σ3 y1 y2 h4 h5 h6 h7 h8 h9 h10 h11 h12 h13 h14
      refine En_Ps 1 (pc' := 4) (lv' := [(0, .ref 1), (1, .int a), (2, .int y1)]) (st' := [.int y1]) rfl ?_
      refine En_iLt _ rfl rfl (fun h15 => ?_) (fun h15 => ?_)
      · exact En_ret (v := none) rfl rfl rfl ⟨h4, h5, y2, h6, rfl, ⟨by omega, by omega, by omega, by omega, fun _ => by omega, APB_c h14 (by omega)⟩⟩
      · refine En_Ps 1 (pc' := 8) (lv' := [(0, .ref 1), (1, .int a), (2, .int y1)]) (st' := [.ref 1]) rfl ?_
        refine En_getK (j := 1) h6 rfl rfl rfl (by decide +kernel : TG 1 = 1) (by decide +kernel) ?_
        refine En_Ps 1 (pc' := 12) (lv' := [(0, .ref 1), (1, .int a), (2, .int y1)]) (st' := [.ref 1, .int y2]) rfl ?_
        refine En_getU (j := 0) (u := 2) (g' := 2) (q := 0) rfl rfl rfl (by decide +kernel : TG 1 = 1) (by decide +kernel) h4 (by decide +kernel) (by decide +kernel) (fun h16 => ?_)
        refine En_alenN (n := 1600) rfl (by decide +kernel : TG 2 = 2) (by decide +kernel) (by decide +kernel) h4 ?_
        refine En_icGe _ rfl (by decide : (Int32.ofNat 1600).toInt = 1600) rfl (fun h18 => ?_) (fun h18 => ?_)
        · exact En_ret (v := none) rfl rfl rfl ⟨h4, h5, y2, h6, rfl, ⟨by omega, by omega, by omega, by omega, fun _ => by omega, APB_c h14 (by omega)⟩⟩
        · refine En_Ps 1 (pc' := 20) (lv' := [(0, .ref 1), (1, .int a), (2, .int y1)]) (st' := [.ref 1]) rfl ?_
          refine En_getK (j := 0) h16 rfl rfl rfl (by decide +kernel : TG 1 = 1) (by decide +kernel) ?_
          refine En_Ps 1 (pc' := 24) (lv' := [(0, .ref 1), (1, .int a), (2, .int y1)]) (st' := [.ref 1, .ref 2]) rfl ?_
          refine En_getK (j := 1) h6 rfl rfl rfl (by decide +kernel : TG 1 = 1) (by decide +kernel) ?_
          refine En_Ps 4 (pc' := 31) (lv' := [(0, .ref 1), (1, .int a), (2, .int y1)]) (st' := [.int ((((a.toUInt32 >>> (y1.toUInt32 &&& Int32.toUInt32 31)).toInt32).toInt8.toInt32)), .int y2, .ref 2]) rfl ?_
          refine En_nam (fun z19 h20 => ?_)
          have h21 := b4_u (j := y2.toInt - m.toInt) h20 (by omega) (by omega) (by omega)
          have h22 := b4_rng a (y2.toInt - m.toInt)
          refine En_bast (l := (-128)) (u := 127) rfl rfl (by decide +kernel : TG 2 = 2) (by decide +kernel) (narB rfl (by omega) (by omega)) (by omega) (lnI (by decide +kernel : LN _ = 1600) (by omega)) (FTsgl (by decide +kernel)) (rngI rfl (by omega) (by omega)) h4 h5 (by decide +kernel) (fun σ23 h24 h25 h26 h27 => ?_)
          have h28 := APB_s (J := y2.toInt) (y := y2.toInt - m.toInt) (y' := y2.toInt - m.toInt + 1) h14 h26 h27 (by omega) (by omega) (by omega) h21 rfl
          refine En_Ps 2 (pc' := 34) (lv' := [(0, .ref 1), (1, .int a), (2, .int y1)]) (st' := [.ref 1, .ref 1]) rfl ?_
          refine En_getK (j := 1) ((h27 _ _ (Or.inl (neTG (by decide +kernel : TG 1 = 1) (by decide +kernel : TG 2 = 2) (by decide)))).trans h6) rfl rfl rfl (by decide +kernel : TG 1 = 1) (by decide +kernel) ?_
          refine En_Ps 2 (pc' := 39) (lv' := [(0, .ref 1), (1, .int a), (2, .int y1)]) (st' := [.int ((y2 + ((Int32.ofInt 1)))), .ref 1]) rfl ?_
          refine En_top (addI rfl (by decide : (Int32.ofInt 1).toInt = 1) (by omega) (by omega)) (fun z29 h30 => ?_)
          refine En_put (j := 1) rfl rfl rfl (by decide +kernel : TG 1 = 1) (by decide +kernel) rfl (vI (l := 0) (u := 1600) (by decide +kernel) rfl (by omega) (by omega)) h24 h25 (by decide +kernel) (fun σ31 h32 h33 h34 h35 => ?_)
          have h36 := APB_ne h28 h35 (by decide)
          refine En_Ps 1 (pc' := 45) (lv' := [(2, .int ((y1 + Int32.ofInt (-8)))), (0, .ref 1), (1, .int a)]) (st' := []) rfl ?_
          refine En_lv1 (addI rfl (by decide : (Int32.ofInt (-8)).toInt = -8) (by omega) (by omega)) (fun z37 h38 => ?_)
          refine En_Ps 1 (pc' := 3) (lv' := [(2, .int z37), (0, .ref 1), (1, .int a)]) (st' := []) rfl ?_
          refine En_lv (lv := [(0, .ref 1), (1, .int a), (2, .int z37)]) ⟨rfl, rfl, rfl, trivial⟩ ?_
          exact ih3 σ31 z37 z29 h32 h33 h34 (by omega) (by omega) (by omega) (by omega) (by omega) (by omega) (by omega) (APB_c h36 (by omega))
  have := (by decide : ((Int8.ofInt 24).toInt32).toInt = 24)
  refine En_lv (lv := [(0, .ref 1), (1, .int a), (2, .int (((Int8.ofInt 24).toInt32)))]) ⟨rfl, rfl, rfl, trivial⟩ ?_
  exact key3 (Int.toNat (32) + 1) σ0 (((Int8.ofInt 24).toInt32)) m hσ0 hF0 h_m (by omega) (by omega) (by omega) (by omega) (by omega) (by omega) (by omega) (APB_0 (by omega))
/-- DoorSchool.doneBy(I)I -/
abbrev P_114ax (σ0 : SG) (Wv : Int → Int) (a : Int32) (p : Nat) (sg : Int32) : PO := fun v σ => WT σ ∧ Fr [] σ0 σ ∧ ∃ ret : Int32, v = some (.int ret) ∧ -ret.toInt ≤ 0 ∧ ret.toInt - 65535 ≤ 0 ∧ ret.toInt = DDw Wv a.toInt
set_option maxRecDepth 10000 in
set_option maxHeartbeats 4000000 in
theorem c_114ax {Wv : Int → Int} (σ0 : SG) (hσ0 : WT σ0) (a : Int32) (hl_a : 0 ≤ a.toInt) (hu_a : a.toInt ≤ 3) (p : Nat) (hp : TG p = 18) (h_p : (σ0 0)[9]? = some (.ref p)) (sg : Int32) (h_sg : (σ0 p)[1]? = some (.int sg)) (hp0 : -sg.toInt ≤ 0) (hP : PLA p) (hX : FXP σ0 p) (hK : KN σ0 p Wv (act Wv)) (hB : WFw Wv) (hT : TWN Wv) (hd : a.toInt < Wv 2) (hQ : RULx σ0 (Wv 0)) : En 3 70 none mr_114 (P_114ax σ0 Wv a p sg) 0 [(0, .ref 0), (1, .int a)] [] σ0 := by
  obtain ⟨hl_sg, hu_sg⟩ := WT_int hσ0 (g := 18) hp (by decide +kernel) (l := (-1)) (u := 4) (by decide +kernel) h_sg
  have hF0 : Fr [] σ0 σ0 := Fr_rfl
  have t1 : Wv (0) = sg.toInt := KN_v hK (Or.inl (by decide)) (by omega) (by omega) (by rw [lcO_lt (by decide) (by decide), Nat.add_zero]) rfl h_sg
  refine En_Ps 1 (pc' := 1) (lv' := [(0, .ref 0), (1, .int a)]) (st' := [.ref 0]) rfl ?_
  refine En_getK (j := 9) h_p rfl rfl rfl (by decide +kernel : TG 0 = 0) (by decide +kernel) ?_
  refine En_Ps 1 (pc' := 5) (lv' := [(0, .ref 0), (1, .int a)]) (st' := [.int a, .ref p]) rfl ?_
  refine En_callV rfl rfl rfl rfl rfl rfl rfl rfl hp (by decide +kernel) rfl (c_52x σ0 hσ0 p hp a (geI rfl (by omega)) (leI rfl (by omega)) hP (FXP_fr hP hX hF0 (by decide +kernel)) (KN_aD (d := 4) hK) (by omega)) (by decide) (by decide) (fun v3 σ4 h2 => ?_)
  obtain ⟨h5, h6, a8, ha8, rfl, h7⟩ := h2
  have h9 := h7
  obtain rfl : σ0 = σ4 := Fr_nil h6
  have h10 := hB.2.2.1
  have h11 := rlW_rg hT (by omega) hd (by omega) h9.2
  have t12 := lc_d (d := rlW Wv a.toInt) (by omega) (by omega)
  have h13 := hB.2.2.2.2.2.2 (rlW Wv a.toInt) (by omega) (by omega)
  refine En_Ps 2 (pc' := 10) (lv' := [(2, .ref a8), (0, .ref 0), (1, .int a)]) (st' := [.ref 0]) rfl ?_
  refine En_getU (j := 3) (u := 8) (g' := 8) (q := 0) rfl rfl rfl (by decide +kernel : TG 0 = 0) (by decide +kernel) hσ0 (by decide +kernel) (by decide +kernel) (fun h14 => ?_)
  refine En_Ps 1 (pc' := 14) (lv' := [(2, .ref a8), (0, .ref 0), (1, .int a)]) (st' := [.ref a8, .ref 8]) rfl ?_
  refine En_getI (j := 1) (l := 0) (u := 2) rfl rfl rfl ha8 (by decide +kernel) hσ0 (by decide +kernel) (fun z17 h16 h18 h19 => ?_)
  have t20 : Wv (10 + 4 * (rlW Wv a.toInt)) = z17.toInt := KN_v hK (Or.inr (Or.inl ⟨by omega, by omega, by omega⟩)) (by omega) (by omega) (by omega) (by omega) h16
  refine En_Ps 1 (pc' := 18) (lv' := [(2, .ref a8), (0, .ref 0), (1, .int a)]) (st' := [.ref a8, .int z17, .ref 8]) rfl ?_
  refine En_getR (j := 0) (g' := 20) (u := 0) rfl rfl rfl ha8 (by decide +kernel) hσ0 (by decide +kernel) (fun a22 h21 ha22 => ?_)
  have t23 : a22 = p + 11 + 4 * (rlW Wv a.toInt).toNat := DLc (d := rlW Wv a.toInt) (FXP_fr hP hX hF0 (by decide +kernel)) h9.1 h21 (by omega) (by omega)
  obtain ⟨z25, h24, h26, h27⟩ := WT_peekI hσ0 (by decide +kernel : TG 4 = 4) (by decide +kernel : FT 4 0 = (0, 0, 16)) (by decide +kernel)
  obtain ⟨z29, h28, h30, h31⟩ := WT_peekI hσ0 (by decide +kernel : TG 4 = 4) (by decide +kernel : FT 4 1 = (0, 0, 81)) (by decide +kernel)
  have h32 : z25.toInt = pI (Wv 0) := (ci_at (j := 0) h24 rfl).symm.trans hQ.1
  have h33 : z29.toInt = nR (Wv 0) := (ci_at (j := 1) h28 rfl).symm.trans hQ.2.1
  have h34 := pI_rng (s := Wv 0) (by omega) (by omega)
  have h35 := nR_rg (s := Wv 0) (by omega) (by omega)
  obtain ⟨a37, h36, ha37⟩ := WT_peekR (g := 20) (j := 0) (g' := 21) (u := 0) hσ0 ha22 (by decide +kernel) (by decide +kernel)
  have t38 : a37 = p + 12 + 4 * (rlW Wv a.toInt).toNat := DKk (d := rlW Wv a.toInt) (FXP_fr hP hX hF0 (by decide +kernel)) t23 h36 (by omega) (by omega)
  obtain ⟨a40, h39, ha40⟩ := WT_peekR (g := 20) (j := 1) (g' := 22) (u := 0) hσ0 ha22 (by decide +kernel) (by decide +kernel)
  have t41 : a40 = p + 13 + 4 * (rlW Wv a.toInt).toNat := DKo (d := rlW Wv a.toInt) (FXP_fr hP hX hF0 (by decide +kernel)) t23 h39 (by omega) (by omega)
  obtain ⟨z43, h42, h44, h45⟩ := WT_peekI hσ0 ha22 (by decide +kernel : FT 20 2 = (0, 0, 13)) (by decide +kernel)
  have t46 : Wv (12 + 4 * (rlW Wv a.toInt)) = z43.toInt := KN_v hK (Or.inr (Or.inl ⟨by omega, by omega, by omega⟩)) (by omega) (by omega) (by omega) (by omega) h42
  refine En_callV rfl rfl rfl rfl rfl rfl rfl rfl (by decide +kernel : TG 8 = 8) (by decide +kernel) rfl (c_22x σ0 hσ0 z17 a22 ha22 (geI rfl (by omega)) (leI rfl (by omega)) a37 ha37 h36 a40 ha40 h39 z43 h42 z25 h24 z29 h28 (fun i i0 i1 => TB_rg hQ.2.2 (by omega) i i0 (by omega))) (by decide) (by decide) (fun v48 σ49 h47 => ?_)
  obtain ⟨h50, h51, z53, rfl, h52⟩ := h47
  have h54 := h52
  obtain rfl : σ0 = σ49 := Fr_nil h51
  have h55 : z53.toInt = DDw Wv a.toInt := DDw_of (r := rlW Wv a.toInt) rfl t20 t46 h32 h33 (by omega) (KN_lk hK (by omega) (by omega) (by omega) t46.symm (by omega) t38) (KN_lo hK (by omega) (by omega) (by omega) t46.symm (by omega) t41) (fun i i0 i1 => TB_D hQ.2.2 i i0 (by omega)) h54
  have h56 := DDw_rg (w := Wv) (d := a.toInt) (by omega) (by omega)
  exact En_ret (v := some (.int z53)) rfl rfl rfl ⟨hσ0, hF0, z53, rfl, ⟨by omega, by omega, h55⟩⟩
/-- DoorSchool.doneBy(I)I -/
abbrev P_114bx (σ0 : SG) (Wv : Int → Int) (gd : Int) (gn : Int) (gk : Int → Int) (go : Int → Int) (a : Int32) (p : Nat) (sg : Int32) : PO := fun v σ => WT σ ∧ Fr [] σ0 σ ∧ ∃ ret : Int32, v = some (.int ret) ∧ -ret.toInt ≤ 0 ∧ ret.toInt - 65535 ≤ 0 ∧ ret.toInt = DLN Wv gd gn gk go a.toInt
set_option maxRecDepth 10000 in
set_option maxHeartbeats 4000000 in
theorem c_114bx {Wv : Int → Int} {gd : Int} {gn : Int} {gk : Int → Int} {go : Int → Int} (σ0 : SG) (hσ0 : WT σ0) (a : Int32) (hl_a : 0 ≤ a.toInt) (hu_a : a.toInt ≤ 3) (p : Nat) (hp : TG p = 18) (h_p : (σ0 0)[9]? = some (.ref p)) (sg : Int32) (h_sg : (σ0 p)[1]? = some (.int sg)) (hp0 : -sg.toInt ≤ 0) (hP : PLA p) (hX : FXP σ0 p) (hG : DLS σ0 p Wv gd gn gk go) (hB : WFw Wv) (hT : TWN Wv) (hd : a.toInt < Wv 2) (hQ : RULx σ0 (Wv 0)) : En 3 70 none mr_114 (P_114bx σ0 Wv gd gn gk go a p sg) 0 [(0, .ref 0), (1, .int a)] [] σ0 := by
  obtain ⟨hl_sg, hu_sg⟩ := WT_int hσ0 (g := 18) hp (by decide +kernel) (l := (-1)) (u := 4) (by decide +kernel) h_sg
  have hF0 : Fr [] σ0 σ0 := Fr_rfl
  have t1 : Wv (0) = sg.toInt := KN_v hG.1 (Or.inl (by decide)) (by omega) (by omega) (by rw [lcO_lt (by decide) (by decide), Nat.add_zero]) rfl h_sg
  refine En_Ps 1 (pc' := 1) (lv' := [(0, .ref 0), (1, .int a)]) (st' := [.ref 0]) rfl ?_
  refine En_getK (j := 9) h_p rfl rfl rfl (by decide +kernel : TG 0 = 0) (by decide +kernel) ?_
  refine En_Ps 1 (pc' := 5) (lv' := [(0, .ref 0), (1, .int a)]) (st' := [.int a, .ref p]) rfl ?_
  refine En_callV rfl rfl rfl rfl rfl rfl rfl rfl hp (by decide +kernel) rfl (c_52x σ0 hσ0 p hp a (geI rfl (by omega)) (leI rfl (by omega)) hP (FXP_fr hP hX hF0 (by decide +kernel)) hG.1 (by omega)) (by decide) (by decide) (fun v3 σ4 h2 => ?_)
  obtain ⟨h5, h6, a8, ha8, rfl, h7⟩ := h2
  have h9 := h7
  obtain rfl : σ0 = σ4 := Fr_nil h6
  have h10 := hB.2.2.1
  have h11 := rlW_rg hT (by omega) hd (by omega) h9.2
  have t12 := lc_d (d := rlW Wv a.toInt) (by omega) (by omega)
  have h13 := hB.2.2.2.2.2.2 (rlW Wv a.toInt) (by omega) (by omega)
  refine En_Ps 2 (pc' := 10) (lv' := [(2, .ref a8), (0, .ref 0), (1, .int a)]) (st' := [.ref 0]) rfl ?_
  refine En_getU (j := 3) (u := 8) (g' := 8) (q := 0) rfl rfl rfl (by decide +kernel : TG 0 = 0) (by decide +kernel) hσ0 (by decide +kernel) (by decide +kernel) (fun h14 => ?_)
  refine En_Ps 1 (pc' := 14) (lv' := [(2, .ref a8), (0, .ref 0), (1, .int a)]) (st' := [.ref a8, .ref 8]) rfl ?_
  refine En_getI (j := 1) (l := 0) (u := 2) rfl rfl rfl ha8 (by decide +kernel) hσ0 (by decide +kernel) (fun z17 h16 h18 h19 => ?_)
  have t20 : Wv (10 + 4 * (rlW Wv a.toInt)) = z17.toInt := KN_v hG.1 (Or.inr (Or.inl ⟨by omega, by omega, by omega⟩)) (by omega) (by omega) (by omega) (by omega) h16
  refine En_Ps 1 (pc' := 18) (lv' := [(2, .ref a8), (0, .ref 0), (1, .int a)]) (st' := [.ref a8, .int z17, .ref 8]) rfl ?_
  refine En_getR (j := 0) (g' := 20) (u := 0) rfl rfl rfl ha8 (by decide +kernel) hσ0 (by decide +kernel) (fun a22 h21 ha22 => ?_)
  have t23 : a22 = p + 11 + 4 * (rlW Wv a.toInt).toNat := DLc (d := rlW Wv a.toInt) (FXP_fr hP hX hF0 (by decide +kernel)) h9.1 h21 (by omega) (by omega)
  obtain ⟨z25, h24, h26, h27⟩ := WT_peekI hσ0 (by decide +kernel : TG 4 = 4) (by decide +kernel : FT 4 0 = (0, 0, 16)) (by decide +kernel)
  obtain ⟨z29, h28, h30, h31⟩ := WT_peekI hσ0 (by decide +kernel : TG 4 = 4) (by decide +kernel : FT 4 1 = (0, 0, 81)) (by decide +kernel)
  have h32 : z25.toInt = pI (Wv 0) := (ci_at (j := 0) h24 rfl).symm.trans hQ.1
  have h33 : z29.toInt = nR (Wv 0) := (ci_at (j := 1) h28 rfl).symm.trans hQ.2.1
  have h34 := pI_rng (s := Wv 0) (by omega) (by omega)
  have h35 := nR_rg (s := Wv 0) (by omega) (by omega)
  obtain ⟨a37, h36, ha37⟩ := WT_peekR (g := 20) (j := 0) (g' := 21) (u := 0) hσ0 ha22 (by decide +kernel) (by decide +kernel)
  have t38 : a37 = p + 12 + 4 * (rlW Wv a.toInt).toNat := DKk (d := rlW Wv a.toInt) (FXP_fr hP hX hF0 (by decide +kernel)) t23 h36 (by omega) (by omega)
  obtain ⟨a40, h39, ha40⟩ := WT_peekR (g := 20) (j := 1) (g' := 22) (u := 0) hσ0 ha22 (by decide +kernel) (by decide +kernel)
  have t41 : a40 = p + 13 + 4 * (rlW Wv a.toInt).toNat := DKo (d := rlW Wv a.toInt) (FXP_fr hP hX hF0 (by decide +kernel)) t23 h39 (by omega) (by omega)
  obtain ⟨z43, h42, h44, h45⟩ := WT_peekI hσ0 ha22 (by decide +kernel : FT 20 2 = (0, 0, 13)) (by decide +kernel)
  refine En_callV rfl rfl rfl rfl rfl rfl rfl rfl (by decide +kernel : TG 8 = 8) (by decide +kernel) rfl (c_22x σ0 hσ0 z17 a22 ha22 (geI rfl (by omega)) (leI rfl (by omega)) a37 ha37 h36 a40 ha40 h39 z43 h42 z25 h24 z29 h28 (fun i i0 i1 => TB_rg hQ.2.2 (by omega) i i0 (by omega))) (by decide) (by decide) (fun v47 σ48 h46 => ?_)
  obtain ⟨h49, h50, z52, rfl, h51⟩ := h46
  have h53 := h51
  obtain rfl : σ0 = σ48 := Fr_nil h50
  have h54 : z52.toInt = DLN Wv gd gn gk go a.toInt := DLN_of (r := rlW Wv a.toInt) (sz := z43.toInt) hG rfl t20 h32 h33 (by omega) (by omega) (by omega) t23 t38 t41 (ci_at (j := 2) h42 rfl) (by omega) (by omega) (fun i i0 i1 => TB_D hQ.2.2 i i0 (by omega)) h53
  have h55 := DLN_rg (w := Wv) (d := gd) (n := gn) (k := gk) (o := go) (a := a.toInt) (by omega) (by omega)
  exact En_ret (v := some (.int z52)) rfl rfl rfl ⟨hσ0, hF0, z52, rfl, ⟨by omega, by omega, h54⟩⟩
/-- DoorSchool.alike(I)I -/
abbrev P_101x (σ0 : SG) (Wv : Int → Int) (a : Int32) (p : Nat) (sg : Int32) : PO := fun v σ => WT σ ∧ Fr [] σ0 σ ∧ ∃ ret : Int32, v = some (.int ret) ∧ -ret.toInt - 2 ≤ 0 ∧ ret.toInt - 15 ≤ 0 ∧ ret.toInt = akR Wv a.toInt
set_option maxRecDepth 10000 in
set_option maxHeartbeats 4000000 in
theorem c_101x {Wv : Int → Int} (σ0 : SG) (hσ0 : WT σ0) (a : Int32) (p : Nat) (hp : TG p = 18) (h_p : (σ0 0)[9]? = some (.ref p)) (sg : Int32) (h_sg : (σ0 p)[1]? = some (.int sg)) (hp0 : -sg.toInt ≤ 0) (hP : PLA p) (hX : FXP σ0 p) (hK : KN σ0 p Wv (act Wv)) (hB : WFw Wv) (hT : TWN Wv) (hQ : 0 < Wv 7 → RULx σ0 (Wv 0)) (hq : QX Wv) : En 4 92 none mr_101 (P_101x σ0 Wv a p sg) 0 [(0, .ref 0), (1, .int a)] [] σ0 := by
  obtain ⟨hl_sg, hu_sg⟩ := WT_int hσ0 (g := 18) hp (by decide +kernel) (l := (-1)) (u := 4) (by decide +kernel) h_sg
  have hF0 : Fr [] σ0 σ0 := Fr_rfl
  have t1 : Wv (0) = sg.toInt := KN_v hK (Or.inl (by decide)) (by omega) (by omega) (by rw [lcO_lt (by decide) (by decide), Nat.add_zero]) rfl h_sg
  obtain ⟨z3, h2, h4, h5⟩ := WT_peekI hσ0 hp (by decide +kernel : FT 18 3 = (0, 0, 4)) (by decide +kernel)
  have t6 : Wv (2) = z3.toInt := KN_v hK (Or.inl (by decide)) (by omega) (by omega) (by rw [lcO_lt (by decide) (by decide), Nat.add_zero]) rfl h2
  have h7 := hB.2.2.1
  have h8 := hB.1
  have h9 := hB.2.1
  have h10 := hB.2.2.2.1
  refine En_Ps 1 (pc' := 1) (lv' := [(0, .ref 0), (1, .int a)]) (st' := [.ref 0]) rfl ?_
  refine En_getK (j := 9) h_p rfl rfl rfl (by decide +kernel : TG 0 = 0) (by decide +kernel) ?_
  refine En_Ps 1 (pc' := 5) (lv' := [(0, .ref 0), (1, .int a)]) (st' := [.int a, .ref p]) rfl ?_
  refine En_callV rfl rfl rfl rfl rfl rfl rfl rfl hp (by decide +kernel) rfl (c_47x σ0 hσ0 p hp a z3 h2) (by decide) (by decide) (fun v12 σ13 h11 => ?_)
  obtain ⟨h14, h15, z17, rfl, h16⟩ := h11
  obtain rfl : σ0 = σ13 := Fr_nil h15
  have h18 := Imp_m h16.2.2.1
  have h19 := Imp_m h16.2.2.2.1
  have h20 := Imp_m h16.2.2.2.2.1
  have h21 := Imp_m h16.2.2.2.2.2
  refine En_iNe _ rfl rfl (fun h22 => ?_) (fun h22 => ?_)
  · have h23 := Imp_m h16.2.2.1 (by omega)
    have h24 := Imp_m h16.2.2.2.1 (by omega)
    have h25 := Imp_m h16.2.2.2.2.2 (by omega)
    refine En_Ps 4 (pc' := 18) (lv' := [(3, .int ((Int32.ofInt 0))), (2, .int ((Int32.ofInt 0))), (0, .ref 0), (1, .int a)]) (st' := []) rfl ?_
    have key18 : ∀ (n18 : Nat) (y26 : Int32) (y27 : Int32), 0 ≤ y26.toInt → y26.toInt ≤ 15 → 0 ≤ y27.toInt → y27.toInt ≤ 4 → y27.toInt - z3.toInt ≤ 0 → z3.toInt - y27.toInt < (n18 : Int) → y26.toInt = AAS (alP Wv a.toInt) (y27.toInt).toNat → y27.toInt ≤ Wv 2 → En 4 92 none mr_101 (P_101x σ0 Wv a p sg) 18 [(0, .ref 0), (1, .int a), (2, .int y26), (3, .int y27)] [] σ0 := by
      intro n18
      induction n18 with
      | zero =>
        intro y26 y27 h31 h32 h33 h34 h35 h36 h37 h38
        exfalso; omega
      | succ n18 ih18 =>
        intro y26 y27 h31 h32 h33 h34 h35 h36 h37 h38
        refine En_Ps 2 (pc' := 20) (lv' := [(0, .ref 0), (1, .int a), (2, .int y26), (3, .int y27)]) (st' := [.ref 0, .int y27]) rfl ?_
        refine En_getK (j := 9) h_p rfl rfl rfl (by decide +kernel : TG 0 = 0) (by decide +kernel) ?_
        refine En_getK (j := 3) h2 rfl rfl rfl hp (by decide +kernel) ?_
        refine En_icGe _ rfl rfl rfl (fun h39 => ?_) (fun h39 => ?_)
        · refine En_Ps 1 (pc' := 60) (lv' := [(0, .ref 0), (1, .int a), (2, .int y26), (3, .int y27)]) (st' := [.int y26]) rfl ?_
          exact En_ret (v := some (.int y26)) rfl rfl rfl ⟨hσ0, hF0, y26, rfl, ⟨by omega, by omega, akR_y ⟨by omega, by omega⟩ (i := y27.toInt) (by omega) h37⟩⟩
        · refine En_Ps 2 (pc' := 31) (lv' := [(0, .ref 0), (1, .int a), (2, .int y26), (3, .int y27)]) (st' := [.int a, .int y27]) rfl ?_
          refine En_icEq _ rfl rfl rfl (fun h40 => ?_) (fun h40 => ?_)
          · refine En_Ps 1 (pc' := 56) (lv' := [(3, .int ((y27 + Int32.ofInt 1))), (0, .ref 0), (1, .int a), (2, .int y26)]) (st' := []) rfl ?_
            refine En_lv1 (addI rfl (by decide : (Int32.ofInt 1).toInt = 1) (by omega) (by omega)) (fun z41 h42 => ?_)
            refine En_Ps 1 (pc' := 18) (lv' := [(3, .int z41), (0, .ref 0), (1, .int a), (2, .int y26)]) (st' := []) rfl ?_
            refine En_lv (lv := [(0, .ref 0), (1, .int a), (2, .int y26), (3, .int z41)]) ⟨rfl, rfl, rfl, rfl, trivial⟩ ?_
            exact ih18 y26 z41 (by omega) (by omega) (by omega) (by omega) (by omega) (by omega) (AAS_n (by omega) h37 (alP_s (by omega)) (by omega) (by omega)) ((by omega))
          · refine En_Ps 2 (pc' := 36) (lv' := [(0, .ref 0), (1, .int a), (2, .int y26), (3, .int y27)]) (st' := [.int y27, .ref 0]) rfl ?_
            refine En_callV rfl rfl rfl rfl rfl rfl rfl rfl (by decide +kernel : TG 0 = 0) (by decide +kernel) rfl (c_114ax σ0 hσ0 y27 (geI rfl (by omega)) (leI rfl (by omega)) p hp h_p sg h_sg (by omega) hP (FXP_fr hP hX hF0 (by decide +kernel)) hK hB hT (by omega) (hQ (hq (by omega)))) (by decide) (by decide) (fun v44 σ45 h43 => ?_)
            obtain ⟨h46, h47, z49, rfl, h48⟩ := h43
            have h50 := h48.2.2
            obtain rfl : σ0 = σ45 := Fr_nil h47
            refine En_Ps 2 (pc' := 41) (lv' := [(0, .ref 0), (1, .int a), (2, .int y26), (3, .int y27)]) (st' := [.int a, .ref 0, .int z49]) rfl ?_
            refine En_callV rfl rfl rfl rfl rfl rfl rfl rfl (by decide +kernel : TG 0 = 0) (by decide +kernel) rfl (c_114ax σ0 hσ0 a (geI rfl (by omega)) (leI rfl (by omega)) p hp h_p sg h_sg (by omega) hP (FXP_fr hP hX hF0 (by decide +kernel)) hK hB hT (by omega) (hQ (hq (by omega)))) (by decide) (by decide) (fun v52 σ53 h51 => ?_)
            obtain ⟨h54, h55, z57, rfl, h56⟩ := h51
            have h58 := h56.2.2
            obtain rfl : σ0 = σ53 := Fr_nil h55
            refine En_icNe _ rfl rfl rfl (fun h59 => ?_) (fun h59 => ?_)
            · refine En_Ps 1 (pc' := 56) (lv' := [(3, .int ((y27 + Int32.ofInt 1))), (0, .ref 0), (1, .int a), (2, .int y26)]) (st' := []) rfl ?_
              refine En_lv1 (addI rfl (by decide : (Int32.ofInt 1).toInt = 1) (by omega) (by omega)) (fun z60 h61 => ?_)
              refine En_Ps 1 (pc' := 18) (lv' := [(3, .int z60), (0, .ref 0), (1, .int a), (2, .int y26)]) (st' := []) rfl ?_
              refine En_lv (lv := [(0, .ref 0), (1, .int a), (2, .int y26), (3, .int z60)]) ⟨rfl, rfl, rfl, rfl, trivial⟩ ?_
              exact ih18 y26 z60 (by omega) (by omega) (by omega) (by omega) (by omega) (by omega) (AAS_n (by omega) h37 (alP_n h50 h58 (by omega)) (by omega) (by omega)) ((by omega))
            · refine En_Ps 4 (pc' := 51) (lv' := [(0, .ref 0), (1, .int a), (2, .int y26), (3, .int y27)]) (st' := [.int ((((Int32.ofInt 1)) <<< (y27 &&& 31))), .int y26]) rfl ?_
              refine En_nam (fun z62 h63 => ?_)
              have h64 : z62.toInt = pI y27.toInt := shl_v h63 rfl (by omega) (by omega)
              have := pI_pos y27.toInt
              have : pI y27.toInt ≤ 8 := pI_mono (Y := 3) (by omega)
              refine En_Ps 1 (pc' := 52) (lv' := [(0, .ref 0), (1, .int a), (2, .int y26), (3, .int y27)]) (st' := [.int ((y26 ||| z62))]) rfl ?_
              refine En_nam (fun z65 h66 => ?_)
              have h67 : z65.toInt = oN y26.toInt z62.toInt := or_v h66 rfl rfl (by omega) (by omega)
              have := oN_lt (X := y26.toInt) (Y := z62.toInt) 4 (by omega) (by omega) (Int.lt_of_le_of_lt (by omega : _ ≤ (15 : Int)) (by decide)) (Int.lt_of_le_of_lt (by omega : _ ≤ (15 : Int)) (by decide))
              have two4 : ((2 ^ 4 : Nat) : Int) = 16 := by decide
              refine En_Ps 2 (pc' := 56) (lv' := [(3, .int ((y27 + Int32.ofInt 1))), (2, .int z65), (0, .ref 0), (1, .int a)]) (st' := []) rfl ?_
              refine En_lv1 (addI rfl (by decide : (Int32.ofInt 1).toInt = 1) (by omega) (by omega)) (fun z68 h69 => ?_)
              refine En_Ps 1 (pc' := 18) (lv' := [(3, .int z68), (2, .int z65), (0, .ref 0), (1, .int a)]) (st' := []) rfl ?_
              refine En_lv (lv := [(0, .ref 0), (1, .int a), (2, .int z65), (3, .int z68)]) ⟨rfl, rfl, rfl, rfl, trivial⟩ ?_
              exact ih18 z65 z68 (by omega) (by omega) (by omega) (by omega) (by omega) (by omega) (AAS_y (q := z62.toInt) (by omega) h37 (alP_y (by omega) h50 h58 (by omega)) (by omega) (by omega) (by omega)) ((by omega))
    have := (by decide : (Int32.ofInt 0).toInt = 0)
    have := (by decide : (Int32.ofInt 0).toInt = 0)
    refine En_lv (lv := [(0, .ref 0), (1, .int a), (2, .int ((Int32.ofInt 0))), (3, .int ((Int32.ofInt 0)))]) ⟨rfl, rfl, rfl, rfl, trivial⟩ ?_
    exact key18 (Int.toNat (z3.toInt) + 1) ((Int32.ofInt 0)) ((Int32.ofInt 0)) (by omega) (by omega) (by omega) (by omega) (by omega) (by omega) (AAS_0 (by omega) (by omega)) ((by omega))
  · have h70 := Imp_m h16.2.2.2.2.1 (by omega)
    refine En_Ps 1 (pc' := 13) (lv' := [(0, .ref 0), (1, .int a)]) (st' := [.int (((Int8.ofInt (-2)).toInt32))]) rfl ?_
    refine En_top (by decide : ((Int8.ofInt (-2)).toInt32).toInt = -2) (fun z71 h72 => ?_)
    exact En_ret (v := some (.int z71)) rfl rfl rfl ⟨hσ0, hF0, z71, rfl, ⟨by omega, by omega, akR_n (fun ⟨q1, q2⟩ => by omega) (by omega)⟩⟩
/-- DoorSchool.houseDeeds(I)I -/
abbrev P_139x (σ0 : SG) (Wv : Int → Int) (a : Int32) (p : Nat) (sg : Int32) : PO := fun v σ => WT σ ∧ Fr [] σ0 σ ∧ ∃ ret : Int32, v = some (.int ret) ∧ -ret.toInt ≤ 0 ∧ ret.toInt - 65535 ≤ 0 ∧ ret.toInt = hoD Wv a.toInt
set_option maxRecDepth 10000 in
set_option maxHeartbeats 4000000 in
theorem c_139x {Wv : Int → Int} (σ0 : SG) (hσ0 : WT σ0) (a : Int32) (hl_a : 0 ≤ a.toInt) (hu_a : a.toInt ≤ 3) (p : Nat) (hp : TG p = 18) (h_p : (σ0 0)[9]? = some (.ref p)) (sg : Int32) (h_sg : (σ0 p)[1]? = some (.int sg)) (hp0 : -sg.toInt ≤ 0) (hP : PLA p) (hX : FXP σ0 p) (hK : KN σ0 p Wv (act Wv)) (hB : WFw Wv) (hR : RULx σ0 (Wv 0)) (hd : a.toInt < Wv 4) : En 1 24 none mr_139 (P_139x σ0 Wv a p sg) 0 [(0, .ref 0), (1, .int a)] [] σ0 := by
  obtain ⟨hl_sg, hu_sg⟩ := WT_int hσ0 (g := 18) hp (by decide +kernel) (l := (-1)) (u := 4) (by decide +kernel) h_sg
  have hF0 : Fr [] σ0 σ0 := Fr_rfl
  have t1 : Wv (0) = sg.toInt := KN_v hK (Or.inl (by decide)) (by omega) (by omega) (by rw [lcO_lt (by decide) (by decide), Nat.add_zero]) rfl h_sg
  obtain ⟨z3, h2, h4, h5⟩ := WT_peekI hσ0 hp (by decide +kernel : FT 18 3 = (0, 0, 4)) (by decide +kernel)
  have t6 : Wv (2) = z3.toInt := KN_v hK (Or.inl (by decide)) (by omega) (by omega) (by rw [lcO_lt (by decide) (by decide), Nat.add_zero]) rfl h2
  have h7 := hB.2.2.1
  have h8 := hB.1
  have h9 := hB.2.1
  have h10 := hB.2.2.2.1
  refine En_Ps 1 (pc' := 1) (lv' := [(0, .ref 0), (1, .int a)]) (st' := [.ref 0]) rfl ?_
  refine En_getU (j := 2) (u := 4) (g' := 4) (q := 0) rfl rfl rfl (by decide +kernel : TG 0 = 0) (by decide +kernel) hσ0 (by decide +kernel) (by decide +kernel) (fun h11 => ?_)
  refine En_Ps 1 (pc' := 5) (lv' := [(0, .ref 0), (1, .int a)]) (st' := [.ref 0, .ref 4]) rfl ?_
  refine En_getK (j := 9) h_p rfl rfl rfl (by decide +kernel : TG 0 = 0) (by decide +kernel) ?_
  refine En_getR (j := 9) (g' := 23) (u := 0) rfl rfl rfl hp (by decide +kernel) hσ0 (by decide +kernel) (fun a14 h13 ha14 => ?_)
  have t15 : a14 = p + 5 := ref_uniq h13 (FXP_fr hP hX hF0 (by decide +kernel)).2.2.1
  refine En_Ps 1 (pc' := 12) (lv' := [(0, .ref 0), (1, .int a)]) (st' := [.int a, .ref a14, .ref 4]) rfl ?_
  refine En_iald (l := 0) (u := 15) rfl rfl ha14 (by decide +kernel) hσ0 (by omega) (lnI (by decide +kernel : LN _ = 4) (by omega)) (FTsgl (by decide +kernel)) (fun z17 h16 h18 h19 => ?_)
  have t20 := lc_h (m := a.toInt) (by omega) (by omega)
  have t21 : Wv (146 + 2 * (a.toInt)) = z17.toInt := KN_v hK (Or.inr (Or.inr (Or.inr (Or.inr (Or.inl ⟨by omega, by omega, by omega⟩))))) (by omega) (by omega) (by omega) (by omega) h16
  refine En_Ps 1 (pc' := 14) (lv' := [(0, .ref 0), (1, .int a)]) (st' := [.ref 0, .int z17, .ref 4]) rfl ?_
  refine En_getK (j := 9) h_p rfl rfl rfl (by decide +kernel : TG 0 = 0) (by decide +kernel) ?_
  refine En_getR (j := 10) (g' := 24) (u := 0) rfl rfl rfl hp (by decide +kernel) hσ0 (by decide +kernel) (fun a23 h22 ha23 => ?_)
  have t24 : a23 = p + 6 := ref_uniq h22 (FXP_fr hP hX hF0 (by decide +kernel)).2.2.2.1
  refine En_Ps 1 (pc' := 21) (lv' := [(0, .ref 0), (1, .int a)]) (st' := [.int a, .ref a23, .int z17, .ref 4]) rfl ?_
  refine En_iald (l := 0) (u := 15) rfl rfl ha23 (by decide +kernel) hσ0 (by omega) (lnI (by decide +kernel : LN _ = 4) (by omega)) (FTsgl (by decide +kernel)) (fun z26 h25 h27 h28 => ?_)
  have t29 := lc_h (m := a.toInt) (by omega) (by omega)
  have t30 : Wv (146 + 2 * (a.toInt) + 1) = z26.toInt := KN_v hK (Or.inr (Or.inr (Or.inr (Or.inr (Or.inl ⟨by omega, by omega, by omega⟩))))) (by omega) (by omega) (by omega) (by omega) h25
  obtain ⟨z32, h31, h33, h34⟩ := WT_peekI hσ0 (by decide +kernel : TG 4 = 4) (by decide +kernel : FT 4 0 = (0, 0, 16)) (by decide +kernel)
  have h35 : z32.toInt = pI (Wv 0) := (ci_at (j := 0) h31 rfl).symm.trans hR.1
  refine En_callV rfl rfl rfl rfl rfl rfl rfl rfl (by decide +kernel : TG 4 = 4) (by decide +kernel) rfl (c_77ax σ0 hσ0 z17 z26 (geI rfl (by omega)) (leI rfl (by omega)) z32 h31) (by decide) (by decide) (fun v37 σ38 h36 => ?_)
  obtain ⟨h39, h40, z42, rfl, h41⟩ := h36
  have h43 := h41.2.2
  obtain rfl : σ0 = σ38 := Fr_nil h40
  exact En_ret (v := some (.int z42)) rfl rfl rfl ⟨hσ0, hF0, z42, rfl, ⟨by omega, by omega, hoD_of t21 t30 h35 h43⟩⟩
/-- DoorSchool.amiss(II)I -/
abbrev P_102x (σ0 : SG) (Wv : Int → Int) (a : Int32) (b : Int32) (p : Nat) (sg : Int32) : PO := fun v σ => WT σ ∧ Fr [] σ0 σ ∧ ∃ ret : Int32, v = some (.int ret) ∧ -ret.toInt - 2 ≤ 0 ∧ ret.toInt - 16 ≤ 0 ∧ ret.toInt = amR Wv a.toInt b.toInt
set_option maxRecDepth 10000 in
set_option maxHeartbeats 4000000 in
theorem c_102x {Wv : Int → Int} (σ0 : SG) (hσ0 : WT σ0) (a : Int32) (b : Int32) (p : Nat) (hp : TG p = 18) (h_p : (σ0 0)[9]? = some (.ref p)) (sg : Int32) (h_sg : (σ0 p)[1]? = some (.int sg)) (hp0 : -sg.toInt ≤ 0) (hP : PLA p) (hX : FXP σ0 p) (hK : KN σ0 p Wv (act Wv)) (hB : WFw Wv) (hT : TWN Wv) (hQ : 0 < Wv 7 → RULx σ0 (Wv 0)) (hq : QX Wv) : En 4 92 none mr_102 (P_102x σ0 Wv a b p sg) 0 [(0, .ref 0), (1, .int a), (2, .int b)] [] σ0 := by
  obtain ⟨hl_sg, hu_sg⟩ := WT_int hσ0 (g := 18) hp (by decide +kernel) (l := (-1)) (u := 4) (by decide +kernel) h_sg
  have hF0 : Fr [] σ0 σ0 := Fr_rfl
  have t1 : Wv (0) = sg.toInt := KN_v hK (Or.inl (by decide)) (by omega) (by omega) (by rw [lcO_lt (by decide) (by decide), Nat.add_zero]) rfl h_sg
  obtain ⟨z3, h2, h4, h5⟩ := WT_peekI hσ0 hp (by decide +kernel : FT 18 3 = (0, 0, 4)) (by decide +kernel)
  have t6 : Wv (2) = z3.toInt := KN_v hK (Or.inl (by decide)) (by omega) (by omega) (by rw [lcO_lt (by decide) (by decide), Nat.add_zero]) rfl h2
  have h7 := hB.2.2.1
  have h8 := hB.1
  have h9 := hB.2.1
  have h10 := hB.2.2.2.1
  refine En_Ps 1 (pc' := 1) (lv' := [(0, .ref 0), (1, .int a), (2, .int b)]) (st' := [.ref 0]) rfl ?_
  refine En_getK (j := 9) h_p rfl rfl rfl (by decide +kernel : TG 0 = 0) (by decide +kernel) ?_
  refine En_Ps 1 (pc' := 5) (lv' := [(0, .ref 0), (1, .int a), (2, .int b)]) (st' := [.int a, .ref p]) rfl ?_
  refine En_callV rfl rfl rfl rfl rfl rfl rfl rfl hp (by decide +kernel) rfl (c_47x σ0 hσ0 p hp a z3 h2) (by decide) (by decide) (fun v12 σ13 h11 => ?_)
  obtain ⟨h14, h15, z17, rfl, h16⟩ := h11
  obtain rfl : σ0 = σ13 := Fr_nil h15
  have h18 := Imp_m h16.2.2.1
  have h19 := Imp_m h16.2.2.2.1
  have h20 := Imp_m h16.2.2.2.2.1
  have h21 := Imp_m h16.2.2.2.2.2
  refine En_iEq _ rfl rfl (fun h22 => ?_) (fun h22 => ?_)
  · have h23 := Imp_m h16.2.2.2.2.1 (by omega)
    refine En_Ps 1 (pc' := 24) (lv' := [(0, .ref 0), (1, .int a), (2, .int b)]) (st' := [.int (((Int8.ofInt (-2)).toInt32))]) rfl ?_
    refine En_top (by decide : ((Int8.ofInt (-2)).toInt32).toInt = -2) (fun z24 h25 => ?_)
    exact En_ret (v := some (.int z24)) rfl rfl rfl ⟨hσ0, hF0, z24, rfl, ⟨by omega, by omega, amR_n (fun ⟨q1, q2, q3, q4⟩ => by omega) (by omega)⟩⟩
  · have h26 := Imp_m h16.2.2.1 (by omega)
    have h27 := Imp_m h16.2.2.2.1 (by omega)
    have h28 := Imp_m h16.2.2.2.2.2 (by omega)
    refine En_Ps 1 (pc' := 12) (lv' := [(0, .ref 0), (1, .int a), (2, .int b)]) (st' := [.ref 0]) rfl ?_
    refine En_getK (j := 9) h_p rfl rfl rfl (by decide +kernel : TG 0 = 0) (by decide +kernel) ?_
    refine En_Ps 1 (pc' := 16) (lv' := [(0, .ref 0), (1, .int a), (2, .int b)]) (st' := [.int b, .ref p]) rfl ?_
    obtain ⟨z30, h29, h31, h32⟩ := WT_peekI hσ0 hp (by decide +kernel : FT 18 8 = (0, 0, 4)) (by decide +kernel)
    have t33 : Wv (4) = z30.toInt := KN_v hK (Or.inl (by decide)) (by omega) (by omega) (by rw [lcO_lt (by decide) (by decide), Nat.add_zero]) rfl h29
    refine En_callV rfl rfl rfl rfl rfl rfl rfl rfl hp (by decide +kernel) rfl (c_48x σ0 hσ0 p hp b z30 h29) (by decide) (by decide) (fun v35 σ36 h34 => ?_)
    obtain ⟨h37, h38, z40, rfl, h39⟩ := h34
    obtain rfl : σ0 = σ36 := Fr_nil h38
    have h41 := Imp_m h39.2.2.1
    have h42 := Imp_m h39.2.2.2.1
    have h43 := Imp_m h39.2.2.2.2.1
    have h44 := Imp_m h39.2.2.2.2.2
    refine En_iNe _ rfl rfl (fun h45 => ?_) (fun h45 => ?_)
    · have h46 := Imp_m h39.2.2.1 (by omega)
      have h47 := Imp_m h39.2.2.2.1 (by omega)
      have h48 := Imp_m h39.2.2.2.2.2 (by omega)
      refine En_Ps 2 (pc' := 27) (lv' := [(0, .ref 0), (1, .int a), (2, .int b)]) (st' := [.int a, .ref 0]) rfl ?_
      refine En_callV rfl rfl rfl rfl rfl rfl rfl rfl (by decide +kernel : TG 0 = 0) (by decide +kernel) rfl (c_114ax σ0 hσ0 a (geI rfl (by omega)) (leI rfl (by omega)) p hp h_p sg h_sg (by omega) hP (FXP_fr hP hX hF0 (by decide +kernel)) hK hB hT (by omega) (hQ (hq (by omega)))) (by decide) (by decide) (fun v50 σ51 h49 => ?_)
      obtain ⟨h52, h53, z55, rfl, h54⟩ := h49
      have h56 := h54.2.2
      obtain rfl : σ0 = σ51 := Fr_nil h53
      refine En_Ps 2 (pc' := 32) (lv' := [(0, .ref 0), (1, .int a), (2, .int b)]) (st' := [.int b, .ref 0, .int z55]) rfl ?_
      refine En_callV rfl rfl rfl rfl rfl rfl rfl rfl (by decide +kernel : TG 0 = 0) (by decide +kernel) rfl (c_139x σ0 hσ0 b (geI rfl (by omega)) (leI rfl (by omega)) p hp h_p sg h_sg (by omega) hP (FXP_fr hP hX hF0 (by decide +kernel)) hK hB (hQ (hq (by omega))) (by omega)) (by decide) (by decide) (fun v58 σ59 h57 => ?_)
      obtain ⟨h60, h61, z63, rfl, h62⟩ := h57
      have h64 := h62.2.2
      obtain rfl : σ0 = σ59 := Fr_nil h61
      refine En_Ps 1 (pc' := 36) (lv' := [(0, .ref 0), (1, .int a), (2, .int b)]) (st' := [.int ((z55 ^^^ z63))]) rfl ?_
      refine En_nam (fun z65 h66 => ?_)
      have h67 : z65.toInt = xN z55.toInt z63.toInt := xor_v h66 rfl rfl (by omega) (by omega)
      have := xN_lt (X := z55.toInt) (Y := z63.toInt) 16 (by omega) (by omega) (Int.lt_of_le_of_lt (by omega : _ ≤ (65535 : Int)) (by decide)) (Int.lt_of_le_of_lt (by omega : _ ≤ (65535 : Int)) (by decide))
      have two16 : ((2 ^ 16 : Nat) : Int) = 65536 := by decide
      refine En_callS rfl rfl rfl rfl rfl rfl rfl rfl rfl (c_7bx σ0 hσ0 z65 (geI rfl (by omega)) (leI rfl (by omega))) (by decide) (by decide) (fun v69 σ70 h68 => ?_)
      obtain ⟨h71, h72, z74, rfl, h73⟩ := h68
      have h75 := h73.2.2
      obtain rfl : σ0 = σ70 := Fr_nil h72
      exact En_ret (v := some (.int z74)) rfl rfl rfl ⟨hσ0, hF0, z74, rfl, ⟨by omega, by omega, amR_y ⟨by omega, by omega, by omega, by omega⟩ (amN_of h56 h64 (z := z65.toInt) (by omega) h75)⟩⟩
    · have h76 := Imp_m h39.2.2.2.2.1 (by omega)
      refine En_Ps 1 (pc' := 24) (lv' := [(0, .ref 0), (1, .int a), (2, .int b)]) (st' := [.int (((Int8.ofInt (-2)).toInt32))]) rfl ?_
      refine En_top (by decide : ((Int8.ofInt (-2)).toInt32).toInt = -2) (fun z77 h78 => ?_)
      exact En_ret (v := some (.int z77)) rfl rfl rfl ⟨hσ0, hF0, z77, rfl, ⟨by omega, by omega, amR_n (fun ⟨q1, q2, q3, q4⟩ => by omega) (by omega)⟩⟩

