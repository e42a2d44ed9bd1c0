/-- DoorSchool$Rules.deedsOf(II)I -/
abbrev P_77ax (σ0 : SG) (a : Int32) (b : Int32) (kk : Int32) : PO := fun v σ => WT σ ∧ Fr [] σ0 σ ∧ ∃ ret : Int32, v = some (.int ret) ∧ -ret.toInt ≤ 0 ∧ ret.toInt - 65535 ≤ 0 ∧ ret.toInt = DOf a.toInt b.toInt kk.toInt.toNat
set_option maxRecDepth 10000 in
set_option maxHeartbeats 4000000 in
theorem c_77ax (σ0 : SG) (hσ0 : WT σ0) (a : Int32) (b : Int32) (hl_a : 0 ≤ a.toInt) (hu_a : a.toInt ≤ 15) (kk : Int32) (h_kk : (σ0 4)[0]? = some (.int kk)) : En 0 0 none mr_77 (P_77ax σ0 a b kk) 0 [(0, .ref 4), (1, .int a), (2, .int b)] [] σ0 := by
  obtain ⟨hl_kk, hu_kk⟩ := WT_int hσ0 (g := 4) (by decide +kernel) (by decide +kernel) (l := 0) (u := 16) (by decide +kernel) h_kk
  have hF0 : Fr [] σ0 σ0 := Fr_rfl
  refine En_Ps 4 (pc' := 5) (lv' := [(4, .int ((Int32.ofInt 0))), (3, .int ((Int32.ofInt 0))), (0, .ref 4), (1, .int a), (2, .int b)]) (st' := []) rfl ?_
  have key5 : ∀ (n5 : Nat) (y1 : Int32) (y2 : Int32), 0 ≤ y1.toInt → y1.toInt ≤ 65535 → 0 ≤ y2.toInt → y2.toInt ≤ 16 → y2.toInt - kk.toInt ≤ 0 → kk.toInt - y2.toInt < (n5 : Int) → y1.toInt = DOf a.toInt b.toInt (y2.toInt).toNat → En 0 0 none mr_77 (P_77ax σ0 a b kk) 5 [(0, .ref 4), (1, .int a), (2, .int b), (3, .int y1), (4, .int y2)] [] σ0 := by
    intro n5
    induction n5 with
    | zero =>
      intro y1 y2 h6 h7 h8 h9 h10 h11 h12
      exfalso; omega
    | succ n5 ih5 =>
      intro y1 y2 h6 h7 h8 h9 h10 h11 h12
      refine En_Ps 2 (pc' := 8) (lv' := [(0, .ref 4), (1, .int a), (2, .int b), (3, .int y1), (4, .int y2)]) (st' := [.ref 4, .int y2]) rfl ?_
      refine En_getK (j := 0) h_kk rfl rfl rfl (by decide +kernel : TG 4 = 4) (by decide +kernel) ?_
      refine En_icGe _ rfl rfl rfl (fun h13 => ?_) (fun h13 => ?_)
      · refine En_Ps 1 (pc' := 36) (lv' := [(0, .ref 4), (1, .int a), (2, .int b), (3, .int y1), (4, .int y2)]) (st' := [.int y1]) rfl ?_
        exact En_ret (v := some (.int y1)) rfl rfl rfl ⟨hσ0, hF0, y1, rfl, ⟨by omega, by omega, DOf_e h12 (by omega) (by omega)⟩⟩
      · refine En_Ps 3 (pc' := 18) (lv' := [(0, .ref 4), (1, .int a), (2, .int b), (3, .int y1), (4, .int y2)]) (st' := [.int ((y2 &&& a))]) rfl ?_
        refine En_nam (fun z14 h15 => ?_)
        have h16 : z14.toInt = aN y2.toInt a.toInt := and_v h15 rfl rfl (by omega) (by omega)
        have := aN_le (X := y2.toInt) (Y := a.toInt) (by omega) (by omega)
        refine En_Ps 1 (pc' := 19) (lv' := [(0, .ref 4), (1, .int a), (2, .int b), (3, .int y1), (4, .int y2)]) (st' := [.int b, .int z14]) rfl ?_
        refine En_icNe _ rfl rfl rfl (fun h17 => ?_) (fun h17 => ?_)
        · refine En_Ps 1 (pc' := 32) (lv' := [(4, .int ((y2 + Int32.ofInt 1))), (0, .ref 4), (1, .int a), (2, .int b), (3, .int y1)]) (st' := []) rfl ?_
          refine En_lv1 (addI rfl (by decide : (Int32.ofInt 1).toInt = 1) (by omega) (by omega)) (fun z18 h19 => ?_)
          refine En_Ps 1 (pc' := 5) (lv' := [(4, .int z18), (0, .ref 4), (1, .int a), (2, .int b), (3, .int y1)]) (st' := []) rfl ?_
          refine En_lv (lv := [(0, .ref 4), (1, .int a), (2, .int b), (3, .int y1), (4, .int z18)]) ⟨rfl, rfl, rfl, rfl, rfl, trivial⟩ ?_
          exact ih5 y1 z18 (by omega) (by omega) (by omega) (by omega) (by omega) (by omega) (DOf_n (by omega) h12 (by omega) (by omega) (by omega))
        · refine En_Ps 4 (pc' := 27) (lv' := [(0, .ref 4), (1, .int a), (2, .int b), (3, .int y1), (4, .int y2)]) (st' := [.int ((((Int32.ofInt 1)) <<< (y2 &&& 31))), .int y1]) rfl ?_
          refine En_nam (fun z20 h21 => ?_)
          have h22 : z20.toInt = pI y2.toInt := shl_v h21 rfl (by omega) (by omega)
          have := pI_pos y2.toInt
          have : pI y2.toInt ≤ 32768 := pI_mono (Y := 15) (by omega)
          refine En_Ps 1 (pc' := 28) (lv' := [(0, .ref 4), (1, .int a), (2, .int b), (3, .int y1), (4, .int y2)]) (st' := [.int ((y1 ||| z20))]) rfl ?_
          refine En_nam (fun z23 h24 => ?_)
          have h25 : z23.toInt = oN y1.toInt z20.toInt := or_v h24 rfl rfl (by omega) (by omega)
          have := oN_lt (X := y1.toInt) (Y := z20.toInt) 16 (by omega) (by omega) (Int.lt_of_le_of_lt (by omega : _ ≤ (65535 : Int)) (by decide)) (Int.lt_of_le_of_lt (by omega : _ ≤ (65535 : Int)) (by decide))
          have two16 : ((2 ^ 16 : Nat) : Int) = 65536 := by decide
          refine En_Ps 2 (pc' := 32) (lv' := [(4, .int ((y2 + Int32.ofInt 1))), (3, .int z23), (0, .ref 4), (1, .int a), (2, .int b)]) (st' := []) rfl ?_
          refine En_lv1 (addI rfl (by decide : (Int32.ofInt 1).toInt = 1) (by omega) (by omega)) (fun z26 h27 => ?_)
          refine En_Ps 1 (pc' := 5) (lv' := [(4, .int z26), (3, .int z23), (0, .ref 4), (1, .int a), (2, .int b)]) (st' := []) rfl ?_
          refine En_lv (lv := [(0, .ref 4), (1, .int a), (2, .int b), (3, .int z23), (4, .int z26)]) ⟨rfl, rfl, rfl, rfl, rfl, trivial⟩ ?_
          exact ih5 z23 z26 (by omega) (by omega) (by omega) (by omega) (by omega) (by omega) ((by first | exact DOf_y (q := z20.toInt) (by omega) h12 (by omega) (by omega) (by omega) (by omega) | exact DOf_z (q := z20.toInt) (by omega) h12 (by omega) (by omega) (by omega) (by omega) (by omega)))
  have := (by decide : (Int32.ofInt 0).toInt = 0)
  have := (by decide : (Int32.ofInt 0).toInt = 0)
  refine En_lv (lv := [(0, .ref 4), (1, .int a), (2, .int b), (3, .int ((Int32.ofInt 0))), (4, .int ((Int32.ofInt 0)))]) ⟨rfl, rfl, rfl, rfl, rfl, trivial⟩ ?_
  exact key5 (Int.toNat (kk.toInt) + 1) ((Int32.ofInt 0)) ((Int32.ofInt 0)) (by omega) (by omega) (by omega) (by omega) (by omega) (by omega) (DOf_0 (by omega) (by omega))
/-- DoorSchool$Rules.addAllOf(I)V -/
abbrev P_76x (σ0 : SG) (n : Int) (a : Int32) (kk : Int32) (sz : Int32) : PO := fun v σ => WT σ ∧ Fr [(4, 1), (5, 0), (6, 0), (7, 0)] σ0 σ ∧ ∃ sz1 : Int32, (σ 4)[1]? = some (.int sz1) ∧ v = none ∧ -sz1.toInt ≤ 0 ∧ sz1.toInt - 81 ≤ 0 ∧ -sz1.toInt + kk.toInt - 16 ≤ 0 ∧ sz1.toInt - kk.toInt - 81 ≤ 0 ∧ -sz1.toInt + sz.toInt - 81 ≤ 0 ∧ sz1.toInt - sz.toInt - 16 ≤ 0 ∧ (RN kk.toInt n (a.toInt + 1) sz1.toInt ∧ TB σ 5 6 7 kk.toInt sz1.toInt)
set_option maxRecDepth 10000 in
set_option maxHeartbeats 4000000 in
theorem c_76x {n : Int} (σ0 : SG) (hσ0 : WT σ0) (a : Int32) (hl_a : 0 ≤ a.toInt) (hu_a : a.toInt ≤ 15) (kk : Int32) (h_kk : (σ0 4)[0]? = some (.int kk)) (sz : Int32) (h_sz : (σ0 4)[1]? = some (.int sz)) (hN : RN kk.toInt n a.toInt sz.toInt) (hm : a.toInt < kk.toInt) (hb : bcI a.toInt = n) (hT : TB σ0 5 6 7 kk.toInt sz.toInt) (hK : P2 kk.toInt) : En 1 24 none mr_76 (P_76x σ0 n a kk sz) 0 [(0, .ref 4), (1, .int a)] [] σ0 := by
  obtain ⟨hl_kk, hu_kk⟩ := WT_int hσ0 (g := 4) (by decide +kernel) (by decide +kernel) (l := 0) (u := 16) (by decide +kernel) h_kk
  obtain ⟨hl_sz, hu_sz⟩ := WT_int hσ0 (g := 4) (by decide +kernel) (by decide +kernel) (l := 0) (u := 81) (by decide +kernel) h_sz
  have hF0 : Fr [(4, 1), (5, 0), (6, 0), (7, 0)] σ0 σ0 := Fr_rfl
  refine En_Ps 2 (pc' := 2) (lv' := [(2, .int ((Int32.ofInt 0))), (0, .ref 4), (1, .int a)]) (st' := []) rfl ?_
  have key2 : ∀ (n2 : Nat) (σ3 : SG) (y1 : Int32) (y2 : Int32), WT σ3 → Fr [(4, 1), (5, 0), (6, 0), (7, 0)] σ0 σ3 → (σ3 4)[0]? = some (.int kk) → (σ3 4)[1]? = some (.int y2) → 0 ≤ y1.toInt → y1.toInt ≤ 16 → 0 ≤ y2.toInt → y2.toInt ≤ 81 → y1.toInt - a.toInt - 1 ≤ 0 → -sz.toInt - y1.toInt + y2.toInt ≤ 0 → -y1.toInt + 16 < (n2 : Int) → RV kk.toInt n a.toInt y1.toInt y2.toInt → TB σ3 5 6 7 kk.toInt y2.toInt → En 1 24 none mr_76 (P_76x σ0 n a kk sz) 2 [(0, .ref 4), (1, .int a), (2, .int y1)] [] σ3 := by
    intro n2
    induction n2 with
    | zero =>
      intro σ3 y1 y2 h4 h5 h6 h7 h8 h9 h10 h11 h12 h13 h14 h15 h16
      exfalso; omega
    | succ n2 ih2 =>
      intro σ3 y1 y2 h4 h5 h6 h7 h8 h9 h10 h11 h12 h13 h14 h15 h16
      refine En_Ps 2 (pc' := 4) (lv' := [(0, .ref 4), (1, .int a), (2, .int y1)]) (st' := [.int a, .int y1]) rfl ?_
      refine En_icGt _ rfl rfl rfl (fun h17 => ?_) (fun h17 => ?_)
      · exact En_ret (v := none) rfl rfl rfl ⟨h4, h5, y2, h7, rfl, ⟨by omega, by omega, by omega, by omega, by omega, by omega, ⟨RN_x h15 (by omega) rfl rfl (by omega), TB_eq h16 (by omega)⟩⟩⟩
      · refine En_Ps 1 (pc' := 8) (lv' := [(0, .ref 4), (1, .int a), (2, .int y1)]) (st' := [.ref 4]) rfl ?_
        refine En_getK (j := 1) h7 rfl rfl rfl (by decide +kernel : TG 4 = 4) (by decide +kernel) ?_
        have h18 := RV_le h15 (by omega)
        refine En_Ps 1 (pc' := 13) (lv' := [(0, .ref 4), (1, .int a), (2, .int y1)]) (st' := [.int (((Int8.ofInt 81).toInt32)), .int y2]) rfl ?_
        refine En_icGe _ rfl (by decide : ((Int8.ofInt 81).toInt32).toInt = 81) rfl (fun hx => by exfalso; omega) (fun h19 => ?_)
        refine En_Ps 4 (pc' := 20) (lv' := [(0, .ref 4), (1, .int a), (2, .int y1)]) (st' := [.int ((a ^^^ ((Int32.ofInt (-1))))), .int y1]) rfl ?_
        refine En_nam (fun z20 h21 => ?_)
        refine En_Ps 1 (pc' := 21) (lv' := [(0, .ref 4), (1, .int a), (2, .int y1)]) (st' := [.int ((y1 &&& z20))]) rfl ?_
        refine En_nam (fun z22 h23 => ?_)
        obtain ⟨h24, h25⟩ := andn_rng h23 rfl (by omega) (by omega : _ ≤ (15 : Int))
        refine En_iNe _ rfl rfl (fun h26 => ?_) (fun h26 => ?_)
        · have := sub_sb h23 h21 rfl rfl (by omega) (by omega) (by omega) (by omega)
          refine En_Ps 1 (pc' := 72) (lv' := [(2, .int ((y1 + Int32.ofInt 1))), (0, .ref 4), (1, .int a)]) (st' := []) rfl ?_
          refine En_lv1 (addI rfl (by decide : (Int32.ofInt 1).toInt = 1) (by omega) (by omega)) (fun z27 h28 => ?_)
          refine En_Ps 1 (pc' := 2) (lv' := [(2, .int z27), (0, .ref 4), (1, .int a)]) (st' := []) rfl ?_
          refine En_lv (lv := [(0, .ref 4), (1, .int a), (2, .int z27)]) ⟨rfl, rfl, rfl, trivial⟩ ?_
          exact ih2 σ3 z27 y2 h4 h5 h6 h7 (by omega) (by omega) (by omega) (by omega) (by omega) (by omega) (by omega) (RV_not h15 (by omega) (by omega) rfl rfl (by omega) (by omega)) (TB_eq h16 (by omega))
        · obtain ⟨h29, h30⟩ := andn_zero h23 h21 h26 rfl rfl (by omega)
          have := sub_sb h23 h21 rfl rfl (by omega) (by omega) (by omega) (by omega)
          refine En_Ps 1 (pc' := 25) (lv' := [(0, .ref 4), (1, .int a), (2, .int y1)]) (st' := [.ref 4]) rfl ?_
          refine En_getU (j := 2) (u := 5) (g' := 5) (q := 0) rfl rfl rfl (by decide +kernel : TG 4 = 4) (by decide +kernel) h4 (by decide +kernel) (by decide +kernel) (fun h31 => ?_)
          refine En_Ps 1 (pc' := 29) (lv' := [(0, .ref 4), (1, .int a), (2, .int y1)]) (st' := [.ref 4, .ref 5]) rfl ?_
          refine En_getK (j := 1) h7 rfl rfl rfl (by decide +kernel : TG 4 = 4) (by decide +kernel) ?_
          refine En_Ps 1 (pc' := 33) (lv' := [(0, .ref 4), (1, .int a), (2, .int y1)]) (st' := [.int a, .int y2, .ref 5]) rfl ?_
          refine En_iast (l := 0) (u := 15) rfl rfl (by decide +kernel : TG 5 = 5) (by decide +kernel) (by omega) (lnI (by decide +kernel : LN _ = 81) (by omega)) (FTsgl (by decide +kernel)) (rngI rfl (by omega) (by omega)) h4 h5 (by decide +kernel) (fun σ33 h34 h35 h36 h37 => ?_)
          refine En_Ps 1 (pc' := 35) (lv' := [(0, .ref 4), (1, .int a), (2, .int y1)]) (st' := [.ref 4]) rfl ?_
          refine En_getU (j := 3) (u := 6) (g' := 6) (q := 0) rfl rfl rfl (by decide +kernel : TG 4 = 4) (by decide +kernel) h34 (by decide +kernel) (by decide +kernel) (fun h38 => ?_)
          refine En_Ps 1 (pc' := 39) (lv' := [(0, .ref 4), (1, .int a), (2, .int y1)]) (st' := [.ref 4, .ref 6]) rfl ?_
          refine En_getK (j := 1) ((h37 _ _ (Or.inl (neTG (by decide +kernel : TG 4 = 4) (by decide +kernel : TG 5 = 5) (by decide)))).trans h7) rfl rfl rfl (by decide +kernel : TG 4 = 4) (by decide +kernel) ?_
          refine En_Ps 1 (pc' := 43) (lv' := [(0, .ref 4), (1, .int a), (2, .int y1)]) (st' := [.int y1, .int y2, .ref 6]) rfl ?_
          refine En_iast (l := 0) (u := 15) rfl rfl (by decide +kernel : TG 6 = 6) (by decide +kernel) (by omega) (lnI (by decide +kernel : LN _ = 81) (by omega)) (FTsgl (by decide +kernel)) (rngI rfl (by omega) (by omega)) h34 h35 (by decide +kernel) (fun σ40 h41 h42 h43 h44 => ?_)
          refine En_Ps 1 (pc' := 45) (lv' := [(0, .ref 4), (1, .int a), (2, .int y1)]) (st' := [.ref 4]) rfl ?_
          refine En_getU (j := 4) (u := 7) (g' := 7) (q := 0) rfl rfl rfl (by decide +kernel : TG 4 = 4) (by decide +kernel) h41 (by decide +kernel) (by decide +kernel) (fun h45 => ?_)
          refine En_Ps 1 (pc' := 49) (lv' := [(0, .ref 4), (1, .int a), (2, .int y1)]) (st' := [.ref 4, .ref 7]) rfl ?_
          refine En_getK (j := 1) ((h44 _ _ (Or.inl (neTG (by decide +kernel : TG 4 = 4) (by decide +kernel : TG 6 = 6) (by decide)))).trans ((h37 _ _ (Or.inl (neTG (by decide +kernel : TG 4 = 4) (by decide +kernel : TG 5 = 5) (by decide)))).trans h7)) rfl rfl rfl (by decide +kernel : TG 4 = 4) (by decide +kernel) ?_
          refine En_Ps 3 (pc' := 55) (lv' := [(0, .ref 4), (1, .int a), (2, .int y1)]) (st' := [.int y1, .int a, .ref 4, .int y2, .ref 7]) rfl ?_
          refine En_callV rfl rfl rfl rfl rfl rfl rfl rfl (by decide +kernel : TG 4 = 4) (by decide +kernel) rfl (c_77ax σ40 h41 a y1 (geI rfl (by omega)) (leI rfl (by omega)) kk ((h44 _ _ (Or.inl (neTG (by decide +kernel : TG 4 = 4) (by decide +kernel : TG 6 = 6) (by decide)))).trans ((h37 _ _ (Or.inl (neTG (by decide +kernel : TG 4 = 4) (by decide +kernel : TG 5 = 5) (by decide)))).trans h6))) (by decide) (by decide) (fun v48 σ49 h47 => ?_)
          obtain ⟨h50, h51, z53, rfl, h52⟩ := h47
          have h54 := h52.2.2
          obtain rfl : σ40 = σ49 := Fr_nil h51
          refine En_iast (l := (-2147483648)) (u := 2147483647) rfl rfl (by decide +kernel : TG 7 = 7) (by decide +kernel) (by omega) (lnI (by decide +kernel : LN _ = 81) (by omega)) (FTsgl (by decide +kernel)) (fullI _) h41 h42 (by decide +kernel) (fun σ55 h56 h57 h58 h59 => ?_)
          refine En_Ps 2 (pc' := 61) (lv' := [(0, .ref 4), (1, .int a), (2, .int y1)]) (st' := [.ref 4, .ref 4]) rfl ?_
          refine En_getK (j := 1) ((h59 _ _ (Or.inl (neTG (by decide +kernel : TG 4 = 4) (by decide +kernel : TG 7 = 7) (by decide)))).trans ((h44 _ _ (Or.inl (neTG (by decide +kernel : TG 4 = 4) (by decide +kernel : TG 6 = 6) (by decide)))).trans ((h37 _ _ (Or.inl (neTG (by decide +kernel : TG 4 = 4) (by decide +kernel : TG 5 = 5) (by decide)))).trans h7))) rfl rfl rfl (by decide +kernel : TG 4 = 4) (by decide +kernel) ?_
          refine En_Ps 2 (pc' := 66) (lv' := [(0, .ref 4), (1, .int a), (2, .int y1)]) (st' := [.int ((y2 + ((Int32.ofInt 1)))), .ref 4]) rfl ?_
          refine En_top (addI rfl (by decide : (Int32.ofInt 1).toInt = 1) (by omega) (by omega)) (fun z60 h61 => ?_)
          refine En_put (j := 1) rfl rfl rfl (by decide +kernel : TG 4 = 4) (by decide +kernel) rfl (vI (l := 0) (u := 81) (by decide +kernel) rfl (by omega) (by omega)) h56 h57 (by decide +kernel) (fun σ62 h63 h64 h65 h66 => ?_)
          refine En_Ps 1 (pc' := 72) (lv' := [(2, .int ((y1 + Int32.ofInt 1))), (0, .ref 4), (1, .int a)]) (st' := []) rfl ?_
          refine En_lv1 (addI rfl (by decide : (Int32.ofInt 1).toInt = 1) (by omega) (by omega)) (fun z67 h68 => ?_)
          refine En_Ps 1 (pc' := 2) (lv' := [(2, .int z67), (0, .ref 4), (1, .int a)]) (st' := []) rfl ?_
          refine En_lv (lv := [(0, .ref 4), (1, .int a), (2, .int z67)]) ⟨rfl, rfl, rfl, trivial⟩ ?_
          exact ih2 σ62 z67 z60 h63 h64 ((h66 _ _ (Or.inr (by decide))).trans ((h59 _ _ (Or.inl (neTG (by decide +kernel : TG 4 = 4) (by decide +kernel : TG 7 = 7) (by decide)))).trans ((h44 _ _ (Or.inl (neTG (by decide +kernel : TG 4 = 4) (by decide +kernel : TG 6 = 6) (by decide)))).trans ((h37 _ _ (Or.inl (neTG (by decide +kernel : TG 4 = 4) (by decide +kernel : TG 5 = 5) (by decide)))).trans h6)))) h65 (by omega) (by omega) (by omega) (by omega) (by omega) (by omega) (by omega) (RV_put h15 (by omega) (by omega) rfl rfl (by omega) (by omega)) (TB_ne (TB_put h16 hK h15 (by omega) (by omega) h36 h37 h43 h44 h58 h59 (by decide) (by decide) (by decide) (by omega) (by omega) (by omega) (by omega) (by omega) (by omega) (by omega) (by omega)) h66 (by decide) (by decide) (by decide))
  have := (by decide : (Int32.ofInt 0).toInt = 0)
  refine En_lv (lv := [(0, .ref 4), (1, .int a), (2, .int ((Int32.ofInt 0)))]) ⟨rfl, rfl, rfl, trivial⟩ ?_
  exact key2 (Int.toNat (16) + 1) σ0 ((Int32.ofInt 0)) sz hσ0 hF0 h_kk h_sz (by omega) (by omega) (by omega) (by omega) (by omega) (by omega) (by omega) (RV_in hN hm hb rfl rfl (by omega) (by omega)) (hT)
/-- DoorSchool$Rules.howMany(II)I -/
abbrev P_79x (σ0 : SG) (a : Int32) (b : Int32) (rz : Int32) : PO := fun v σ => WT σ ∧ Fr [] σ0 σ ∧ ∃ ret : Int32, v = some (.int ret) ∧ -ret.toInt ≤ 0 ∧ ret.toInt - 81 ≤ 0 ∧ ret.toInt = CNT (fun i => AGP (ci σ0 7 i) a.toInt b.toInt) rz.toInt.toNat
set_option maxRecDepth 10000 in
set_option maxHeartbeats 4000000 in
theorem c_79x (σ0 : SG) (hσ0 : WT σ0) (a : Int32) (b : Int32) (hl_a : 0 ≤ a.toInt) (hu_a : a.toInt ≤ 65535) (hl_b : 0 ≤ b.toInt) (hu_b : b.toInt ≤ 65535) (rz : Int32) (h_rz : (σ0 4)[1]? = some (.int rz)) (hD : ∀ i : Int, 0 ≤ i → i < rz.toInt → 0 ≤ ci σ0 7 i ∧ ci σ0 7 i ≤ 65535) : En 1 22 none mr_79 (P_79x σ0 a b rz) 0 [(0, .ref 4), (1, .int a), (2, .int b)] [] σ0 := by
  obtain ⟨hl_rz, hu_rz⟩ := WT_int hσ0 (g := 4) (by decide +kernel) (by decide +kernel) (l := 0) (u := 81) (by decide +kernel) h_rz
  have hF0 : Fr [] σ0 σ0 := Fr_rfl
  refine En_Ps 4 (pc' := 5) (lv' := [(4, .int ((Int32.ofInt 0))), (3, .int ((Int32.ofInt 0))), (0, .ref 4), (1, .int a), (2, .int b)]) (st' := []) rfl ?_
  have key5 : ∀ (n5 : Nat) (y1 : Int32) (y2 : Int32), 0 ≤ y1.toInt → y1.toInt ≤ 81 → 0 ≤ y2.toInt → y2.toInt ≤ 81 → y2.toInt - rz.toInt ≤ 0 → y1.toInt - y2.toInt ≤ 0 → rz.toInt - y2.toInt < (n5 : Int) → y1.toInt = CNT (fun i => AGP (ci σ0 7 i) a.toInt b.toInt) (y2.toInt).toNat → y2.toInt ≤ rz.toInt → En 1 22 none mr_79 (P_79x σ0 a b rz) 5 [(0, .ref 4), (1, .int a), (2, .int b), (3, .int y1), (4, .int y2)] [] σ0 := by
    intro n5
    induction n5 with
    | zero =>
      intro y1 y2 h6 h7 h8 h9 h10 h11 h12 h13 h14
      exfalso; omega
    | succ n5 ih5 =>
      intro y1 y2 h6 h7 h8 h9 h10 h11 h12 h13 h14
      refine En_Ps 2 (pc' := 8) (lv' := [(0, .ref 4), (1, .int a), (2, .int b), (3, .int y1), (4, .int y2)]) (st' := [.ref 4, .int y2]) rfl ?_
      refine En_getK (j := 1) h_rz rfl rfl rfl (by decide +kernel : TG 4 = 4) (by decide +kernel) ?_
      refine En_icGe _ rfl rfl rfl (fun h15 => ?_) (fun h15 => ?_)
      · refine En_Ps 1 (pc' := 39) (lv' := [(0, .ref 4), (1, .int a), (2, .int b), (3, .int y1), (4, .int y2)]) (st' := [.int y1]) rfl ?_
        exact En_ret (v := some (.int y1)) rfl rfl rfl ⟨hσ0, hF0, y1, rfl, ⟨by omega, by omega, CNT_e h13 (by omega) (by omega)⟩⟩
      · refine En_Ps 1 (pc' := 15) (lv' := [(0, .ref 4), (1, .int a), (2, .int b), (3, .int y1), (4, .int y2)]) (st' := [.ref 4]) rfl ?_
        refine En_getU (j := 4) (u := 7) (g' := 7) (q := 0) rfl rfl rfl (by decide +kernel : TG 4 = 4) (by decide +kernel) hσ0 (by decide +kernel) (by decide +kernel) (fun h16 => ?_)
        refine En_Ps 1 (pc' := 20) (lv' := [(0, .ref 4), (1, .int a), (2, .int b), (3, .int y1), (4, .int y2)]) (st' := [.int y2, .ref 7]) rfl ?_
        refine En_iald (l := (-2147483648)) (u := 2147483647) rfl rfl (by decide +kernel : TG 7 = 7) (by decide +kernel) hσ0 (by omega) (lnI (by decide +kernel : LN _ = 81) (by omega)) (FTsgl (by decide +kernel)) (fun z19 h18 h20 h21 => ?_)
        have h22 : ci σ0 7 (y2.toInt) = z19.toInt := ci_at h18 rfl
        have h23 := hD y2.toInt (by omega) (by omega)
        refine En_Ps 2 (pc' := 23) (lv' := [(0, .ref 4), (1, .int a), (2, .int b), (3, .int y1), (4, .int y2)]) (st' := [.int b, .int a, .int z19]) rfl ?_
        refine En_callS rfl rfl rfl rfl rfl rfl rfl rfl rfl (c_100ax σ0 hσ0 z19 a b (geI rfl (by omega)) (leI rfl (by omega)) (geI rfl (by omega)) (leI rfl (by omega)) (geI rfl (by omega)) (leI rfl (by omega))) (by decide) (by decide) (fun v25 σ26 h24 => ?_)
        obtain ⟨h27, h28, z30, rfl, h29⟩ := h24
        have h31 := h29.2.2
        obtain rfl : σ0 = σ26 := Fr_nil h28
        refine En_iEq _ rfl rfl (fun h32 => ?_) (fun h32 => ?_)
        · refine En_Ps 1 (pc' := 35) (lv' := [(4, .int ((y2 + Int32.ofInt 1))), (0, .ref 4), (1, .int a), (2, .int b), (3, .int y1)]) (st' := []) rfl ?_
          refine En_lv1 (addI rfl (by decide : (Int32.ofInt 1).toInt = 1) (by omega) (by omega)) (fun z33 h34 => ?_)
          refine En_Ps 1 (pc' := 5) (lv' := [(4, .int z33), (0, .ref 4), (1, .int a), (2, .int b), (3, .int y1)]) (st' := []) rfl ?_
          refine En_lv (lv := [(0, .ref 4), (1, .int a), (2, .int b), (3, .int y1), (4, .int z33)]) ⟨rfl, rfl, rfl, rfl, rfl, trivial⟩ ?_
          exact ih5 y1 z33 (by omega) (by omega) (by omega) (by omega) (by omega) (by omega) (by omega) ((by first | exact CNT_y (by omega) h13 (AGP_of h22 (by omega) (by omega)) (by omega) (by omega) | exact CNT_n (by omega) h13 (AGP_no h22 (by omega)) (by omega) (by omega))) ((by omega))
        · refine En_Ps 1 (pc' := 32) (lv' := [(3, .int ((y1 + Int32.ofInt 1))), (0, .ref 4), (1, .int a), (2, .int b), (4, .int y2)]) (st' := []) rfl ?_
          refine En_lv1 (addI rfl (by decide : (Int32.ofInt 1).toInt = 1) (by omega) (by omega)) (fun z35 h36 => ?_)
          refine En_Ps 1 (pc' := 35) (lv' := [(4, .int ((y2 + Int32.ofInt 1))), (3, .int z35), (0, .ref 4), (1, .int a), (2, .int b)]) (st' := []) rfl ?_
          refine En_lv1 (addI rfl (by decide : (Int32.ofInt 1).toInt = 1) (by omega) (by omega)) (fun z37 h38 => ?_)
          refine En_Ps 1 (pc' := 5) (lv' := [(4, .int z37), (3, .int z35), (0, .ref 4), (1, .int a), (2, .int b)]) (st' := []) rfl ?_
          refine En_lv (lv := [(0, .ref 4), (1, .int a), (2, .int b), (3, .int z35), (4, .int z37)]) ⟨rfl, rfl, rfl, rfl, rfl, trivial⟩ ?_
          exact ih5 z35 z37 (by omega) (by omega) (by omega) (by omega) (by omega) (by omega) (by omega) ((by first | exact CNT_y (by omega) h13 (AGP_of h22 (by omega) (by omega)) (by omega) (by omega) | exact CNT_n (by omega) h13 (AGP_no h22 (by omega)) (by omega) (by omega))) ((by omega))
  have := (by decide : (Int32.ofInt 0).toInt = 0)
  have := (by decide : (Int32.ofInt 0).toInt = 0)
  refine En_lv (lv := [(0, .ref 4), (1, .int a), (2, .int b), (3, .int ((Int32.ofInt 0))), (4, .int ((Int32.ofInt 0)))]) ⟨rfl, rfl, rfl, rfl, rfl, trivial⟩ ?_
  exact key5 (Int.toNat (rz.toInt) + 1) ((Int32.ofInt 0)) ((Int32.ofInt 0)) (by omega) (by omega) (by omega) (by omega) (by omega) (by omega) (by omega) (CNT_0 (by omega) (by omega)) ((by omega))
/-- DoorSchool$Rules.placeOf(I)I -/
abbrev P_81x (σ0 : SG) (a : Int32) (rz : Int32) : PO := fun v σ => WT σ ∧ Fr [] σ0 σ ∧ ∃ ret : Int32, v = some (.int ret) ∧ -ret.toInt - 1 ≤ 0 ∧ ret.toInt - 80 ≤ 0 ∧ ret.toInt = FIR (fun i => ci σ0 7 i = a.toInt) rz.toInt.toNat
set_option maxRecDepth 10000 in
set_option maxHeartbeats 4000000 in
theorem c_81x (σ0 : SG) (hσ0 : WT σ0) (a : Int32) (rz : Int32) (h_rz : (σ0 4)[1]? = some (.int rz)) : En 0 0 none mr_81 (P_81x σ0 a rz) 0 [(0, .ref 4), (1, .int a)] [] σ0 := by
  obtain ⟨hl_rz, hu_rz⟩ := WT_int hσ0 (g := 4) (by decide +kernel) (by decide +kernel) (l := 0) (u := 81) (by decide +kernel) h_rz
  have hF0 : Fr [] σ0 σ0 := Fr_rfl
  refine En_Ps 2 (pc' := 2) (lv' := [(2, .int ((Int32.ofInt 0))), (0, .ref 4), (1, .int a)]) (st' := []) rfl ?_
  have key2 : ∀ (n2 : Nat) (y1 : Int32), 0 ≤ y1.toInt → y1.toInt ≤ 81 → y1.toInt - rz.toInt ≤ 0 → rz.toInt - y1.toInt < (n2 : Int) → NOP (fun i => ci σ0 7 i = a.toInt) y1.toInt → En 0 0 none mr_81 (P_81x σ0 a rz) 2 [(0, .ref 4), (1, .int a), (2, .int y1)] [] σ0 := by
    intro n2
    induction n2 with
    | zero =>
      intro y1 h5 h6 h7 h8 h9
      exfalso; omega
    | succ n2 ih2 =>
      intro y1 h5 h6 h7 h8 h9
      refine En_Ps 2 (pc' := 4) (lv' := [(0, .ref 4), (1, .int a), (2, .int y1)]) (st' := [.ref 4, .int y1]) rfl ?_
      refine En_getK (j := 1) h_rz rfl rfl rfl (by decide +kernel : TG 4 = 4) (by decide +kernel) ?_
      refine En_icGe _ rfl rfl rfl (fun h10 => ?_) (fun h10 => ?_)
      · refine En_Ps 1 (pc' := 29) (lv' := [(0, .ref 4), (1, .int a), (2, .int y1)]) (st' := [.int ((Int32.ofInt (-1)))]) rfl ?_
        refine En_top (by decide : (Int32.ofInt (-1)).toInt = -1) (fun z11 h12 => ?_)
        exact En_ret (v := some (.int z11)) rfl rfl rfl ⟨hσ0, hF0, z11, rfl, ⟨by omega, by omega, NOP_n h9 (by omega) (by omega) (by omega)⟩⟩
      · refine En_Ps 1 (pc' := 11) (lv' := [(0, .ref 4), (1, .int a), (2, .int y1)]) (st' := [.ref 4]) rfl ?_
        refine En_getU (j := 4) (u := 7) (g' := 7) (q := 0) rfl rfl rfl (by decide +kernel : TG 4 = 4) (by decide +kernel) hσ0 (by decide +kernel) (by decide +kernel) (fun h13 => ?_)
        refine En_Ps 1 (pc' := 15) (lv' := [(0, .ref 4), (1, .int a), (2, .int y1)]) (st' := [.int y1, .ref 7]) rfl ?_
        refine En_iald (l := (-2147483648)) (u := 2147483647) rfl rfl (by decide +kernel : TG 7 = 7) (by decide +kernel) hσ0 (by omega) (lnI (by decide +kernel : LN _ = 81) (by omega)) (FTsgl (by decide +kernel)) (fun z16 h15 h17 h18 => ?_)
        have h19 : ci σ0 7 (y1.toInt) = z16.toInt := ci_at h15 rfl
        refine En_Ps 1 (pc' := 17) (lv' := [(0, .ref 4), (1, .int a), (2, .int y1)]) (st' := [.int a, .int z16]) rfl ?_
        refine En_icNe _ rfl rfl rfl (fun h20 => ?_) (fun h20 => ?_)
        · refine En_Ps 1 (pc' := 25) (lv' := [(2, .int ((y1 + Int32.ofInt 1))), (0, .ref 4), (1, .int a)]) (st' := []) rfl ?_
          refine En_lv1 (addI rfl (by decide : (Int32.ofInt 1).toInt = 1) (by omega) (by omega)) (fun z21 h22 => ?_)
          refine En_Ps 1 (pc' := 2) (lv' := [(2, .int z21), (0, .ref 4), (1, .int a)]) (st' := []) rfl ?_
          refine En_lv (lv := [(0, .ref 4), (1, .int a), (2, .int z21)]) ⟨rfl, rfl, rfl, trivial⟩ ?_
          exact ih2 z21 (by omega) (by omega) (by omega) (by omega) (NOP_s h9 (by show ¬ (ci σ0 7 _ = a.toInt); rw [h19]; omega) (by omega))
        · refine En_Ps 1 (pc' := 21) (lv' := [(0, .ref 4), (1, .int a), (2, .int y1)]) (st' := [.int y1]) rfl ?_
          exact En_ret (v := some (.int y1)) rfl rfl rfl ⟨hσ0, hF0, y1, rfl, ⟨by omega, by omega, NOP_y h9 (by omega) (by show ci σ0 7 _ = a.toInt; rw [h19]; omega) (by omega) (by omega)⟩⟩
  have := (by decide : (Int32.ofInt 0).toInt = 0)
  refine En_lv (lv := [(0, .ref 4), (1, .int a), (2, .int ((Int32.ofInt 0)))]) ⟨rfl, rfl, rfl, trivial⟩ ?_
  exact key2 (Int.toNat (rz.toInt) + 1) ((Int32.ofInt 0)) (by omega) (by omega) (by omega) (by omega) (NOP_0 (by omega))
/-- DoorSchool$Rules.prepare(I)V -/
abbrev P_82x (σ0 : SG) (a : Int32) : PO := fun v σ => WT σ ∧ Fr [(4, 0), (4, 1), (5, 0), (6, 0), (7, 0)] σ0 σ ∧ v = none ∧ RULx σ a.toInt
set_option maxRecDepth 10000 in
set_option maxHeartbeats 4000000 in
theorem c_82x (σ0 : SG) (hσ0 : WT σ0) (a : Int32) (hl_a : 0 ≤ a.toInt) (hu_a : a.toInt ≤ 4) : En 2 46 none mr_82 (P_82x σ0 a) 0 [(0, .ref 4), (1, .int a)] [] σ0 := by
  have hF0 : Fr [(4, 0), (4, 1), (5, 0), (6, 0), (7, 0)] σ0 σ0 := Fr_rfl
  refine En_Ps 4 (pc' := 4) (lv' := [(0, .ref 4), (1, .int a)]) (st' := [.int ((((Int32.ofInt 1)) <<< (a &&& 31))), .ref 4]) rfl ?_
  refine En_nam (fun z1 h2 => ?_)
  have h3 : z1.toInt = pI a.toInt := shl_v h2 rfl (by omega) (by omega)
  have := pI_pos a.toInt
  have : pI a.toInt ≤ 16 := pI_mono (Y := 4) (by omega)
  refine En_put (j := 0) rfl rfl rfl (by decide +kernel : TG 4 = 4) (by decide +kernel) rfl (vI (l := 0) (u := 16) (by decide +kernel) rfl (by omega) (by omega)) hσ0 hF0 (by decide +kernel) (fun σ4 h5 h6 h7 h8 => ?_)
  refine En_Ps 2 (pc' := 9) (lv' := [(0, .ref 4), (1, .int a)]) (st' := [.int ((Int32.ofInt 0)), .ref 4]) rfl ?_
  refine En_put (j := 1) rfl rfl rfl (by decide +kernel : TG 4 = 4) (by decide +kernel) rfl (vI (l := 0) (u := 81) (by decide +kernel) (by decide : (Int32.ofInt 0).toInt = 0) (by omega) (by omega)) h5 h6 (by decide +kernel) (fun σ9 h10 h11 h12 h13 => ?_)
  refine En_Ps 2 (pc' := 14) (lv' := [(2, .int ((Int32.ofInt 0))), (0, .ref 4), (1, .int a)]) (st' := []) rfl ?_
  have key14 : ∀ (n14 : Nat) (σ16 : SG) (y14 : Int32) (y15 : Int32), WT σ16 → Fr [(4, 0), (4, 1), (5, 0), (6, 0), (7, 0)] σ0 σ16 → (σ16 4)[0]? = some (.int z1) → (σ16 4)[1]? = some (.int y15) → 0 ≤ y14.toInt → y14.toInt ≤ 5 → 0 ≤ y15.toInt → y15.toInt ≤ 81 → y14.toInt - a.toInt - 1 ≤ 0 → -y14.toInt + 5 < (n14 : Int) → RN z1.toInt y14.toInt 0 y15.toInt → TB σ16 5 6 7 z1.toInt y15.toInt → En 2 46 none mr_82 (P_82x σ0 a) 14 [(0, .ref 4), (1, .int a), (2, .int y14)] [] σ16 := by
    intro n14
    induction n14 with
    | zero =>
      intro σ16 y14 y15 h17 h18 h19 h20 h21 h22 h23 h24 h25 h26 h27 h28
      exfalso; omega
    | succ n14 ih14 =>
      intro σ16 y14 y15 h17 h18 h19 h20 h21 h22 h23 h24 h25 h26 h27 h28
      refine En_Ps 2 (pc' := 16) (lv' := [(0, .ref 4), (1, .int a), (2, .int y14)]) (st' := [.int a, .int y14]) rfl ?_
      refine En_icGt _ rfl rfl rfl (fun h29 => ?_) (fun h29 => ?_)
      · exact En_ret (v := none) rfl rfl rfl ⟨h17, h18, rfl, (by have ek : z1.toInt = pI a.toInt := (by omega); have er := RN_end (s := a.toInt) (by omega) (by omega) ek h27 (by omega) rfl; exact ⟨(ci_at (j := 0) h19 rfl).trans ek, (ci_at (j := 1) h20 rfl).trans er, by rw [← ek, ← er]; exact h28⟩)⟩
      · refine En_Ps 2 (pc' := 21) (lv' := [(3, .int ((Int32.ofInt 0))), (0, .ref 4), (1, .int a), (2, .int y14)]) (st' := []) rfl ?_
        have key21 : ∀ (n21 : Nat) (σ32 : SG) (y30 : Int32) (y31 : Int32), WT σ32 → Fr [(4, 0), (4, 1), (5, 0), (6, 0), (7, 0)] σ0 σ32 → (σ32 4)[0]? = some (.int z1) → (σ32 4)[1]? = some (.int y31) → 0 ≤ y30.toInt → y30.toInt ≤ 16 → 0 ≤ y31.toInt → y31.toInt ≤ 81 → y30.toInt - z1.toInt ≤ 0 → z1.toInt - y30.toInt < (n21 : Int) → RN z1.toInt y14.toInt y30.toInt y31.toInt → TB σ32 5 6 7 z1.toInt y31.toInt → En 2 46 none mr_82 (P_82x σ0 a) 21 [(0, .ref 4), (1, .int a), (2, .int y14), (3, .int y30)] [] σ32 := by
          intro n21
          induction n21 with
          | zero =>
            intro σ32 y30 y31 h33 h34 h35 h36 h37 h38 h39 h40 h41 h42 h43 h44
            exfalso; omega
          | succ n21 ih21 =>
            intro σ32 y30 y31 h33 h34 h35 h36 h37 h38 h39 h40 h41 h42 h43 h44
            refine En_Ps 2 (pc' := 23) (lv' := [(0, .ref 4), (1, .int a), (2, .int y14), (3, .int y30)]) (st' := [.ref 4, .int y30]) rfl ?_
            refine En_getK (j := 0) h35 rfl rfl rfl (by decide +kernel : TG 4 = 4) (by decide +kernel) ?_
            refine En_icGe _ rfl rfl rfl (fun h45 => ?_) (fun h45 => ?_)
            · refine En_Ps 1 (pc' := 51) (lv' := [(2, .int ((y14 + Int32.ofInt 1))), (0, .ref 4), (1, .int a), (3, .int y30)]) (st' := []) rfl ?_
              refine En_lv1 (addI rfl (by decide : (Int32.ofInt 1).toInt = 1) (by omega) (by omega)) (fun z46 h47 => ?_)
              refine En_Ps 1 (pc' := 14) (lv' := [(2, .int z46), (0, .ref 4), (1, .int a), (3, .int y30)]) (st' := []) rfl ?_
              refine En_lv (lv := [(0, .ref 4), (1, .int a), (2, .int z46)]) ⟨rfl, rfl, rfl, trivial⟩ ?_
              exact ih14 σ32 z46 y31 h33 h34 h35 h36 (by omega) (by omega) (by omega) (by omega) (by omega) (by omega) (RN_n h43 (by omega) (by omega) (by omega) rfl (by omega)) (TB_eq h44 (by omega))
            · refine En_Ps 1 (pc' := 30) (lv' := [(0, .ref 4), (1, .int a), (2, .int y14), (3, .int y30)]) (st' := [.int y30]) rfl ?_
              refine En_callS rfl rfl rfl rfl rfl rfl rfl rfl rfl (c_7ax σ32 h33 y30 (geI rfl (by omega)) (leI rfl (by omega))) (by decide) (by decide) (fun v49 σ50 h48 => ?_)
              obtain ⟨h51, h52, z54, rfl, h53⟩ := h48
              have h55 := h53.2.2
              obtain rfl : σ32 = σ50 := Fr_nil h52
              refine En_Ps 1 (pc' := 34) (lv' := [(0, .ref 4), (1, .int a), (2, .int y14), (3, .int y30)]) (st' := [.int y14, .int z54]) rfl ?_
              refine En_icNe _ rfl rfl rfl (fun h56 => ?_) (fun h56 => ?_)
              · refine En_Ps 1 (pc' := 45) (lv' := [(3, .int ((y30 + Int32.ofInt 1))), (0, .ref 4), (1, .int a), (2, .int y14)]) (st' := []) rfl ?_
                refine En_lv1 (addI rfl (by decide : (Int32.ofInt 1).toInt = 1) (by omega) (by omega)) (fun z57 h58 => ?_)
                refine En_Ps 1 (pc' := 21) (lv' := [(3, .int z57), (0, .ref 4), (1, .int a), (2, .int y14)]) (st' := []) rfl ?_
                refine En_lv (lv := [(0, .ref 4), (1, .int a), (2, .int y14), (3, .int z57)]) ⟨rfl, rfl, rfl, rfl, trivial⟩ ?_
                exact ih21 σ32 z57 y31 h33 h34 h35 h36 (by omega) (by omega) (by omega) (by omega) (by omega) (by omega) (RN_skip h43 (by omega) (by omega) (by omega) (by omega) (by omega)) (TB_eq h44 (by omega))
              · refine En_Ps 2 (pc' := 39) (lv' := [(0, .ref 4), (1, .int a), (2, .int y14), (3, .int y30)]) (st' := [.int y30, .ref 4]) rfl ?_
                refine En_callV rfl rfl rfl rfl rfl rfl rfl rfl (by decide +kernel : TG 4 = 4) (by decide +kernel) rfl (c_76x σ32 h33 y30 (geI rfl (by omega)) (leI rfl (by omega)) z1 h35 y31 h36 h43 (by omega) (by omega) h44 (by rw [show z1.toInt = pI a.toInt by omega]; exact P2_pI (by omega) (by omega))) (by decide) (by decide) (fun v60 σ61 h59 => ?_)
                obtain ⟨h62, h63, z65, h66, rfl, h64⟩ := h59
                have h67 := h64.2.2.2.2.2.2
                have h68 := Fr_trans h34 h63 (by decide +kernel)
                refine En_Ps 1 (pc' := 45) (lv' := [(3, .int ((y30 + Int32.ofInt 1))), (0, .ref 4), (1, .int a), (2, .int y14)]) (st' := []) rfl ?_
                refine En_lv1 (addI rfl (by decide : (Int32.ofInt 1).toInt = 1) (by omega) (by omega)) (fun z69 h70 => ?_)
                refine En_Ps 1 (pc' := 21) (lv' := [(3, .int z69), (0, .ref 4), (1, .int a), (2, .int y14)]) (st' := []) rfl ?_
                refine En_lv (lv := [(0, .ref 4), (1, .int a), (2, .int y14), (3, .int z69)]) ⟨rfl, rfl, rfl, rfl, trivial⟩ ?_
                exact ih21 σ61 z69 z65 h62 h68 ((h63 _ _ (inW (by decide +kernel : TG 4 = 4) (by decide +kernel))).trans h35) h66 (by omega) (by omega) (by omega) (by omega) (by omega) (by omega) (RN_eq h67.1 (by omega) (by omega) (by omega)) (TB_eq h67.2 (by omega))
        have := (by decide : (Int32.ofInt 0).toInt = 0)
        refine En_lv (lv := [(0, .ref 4), (1, .int a), (2, .int y14), (3, .int ((Int32.ofInt 0)))]) ⟨rfl, rfl, rfl, rfl, trivial⟩ ?_
        exact key21 (Int.toNat (z1.toInt) + 1) σ16 ((Int32.ofInt 0)) y15 h17 h18 h19 h20 (by omega) (by omega) (by omega) (by omega) (by omega) (by omega) (RN_eq h27 (by omega) (by omega) (by omega)) (TB_eq h28 (by omega))
  have := (by decide : (Int32.ofInt 0).toInt = 0)
  have := (by decide : (Int32.ofInt 0).toInt = 0)
  refine En_lv (lv := [(0, .ref 4), (1, .int a), (2, .int ((Int32.ofInt 0)))]) ⟨rfl, rfl, rfl, trivial⟩ ?_
  exact key14 (Int.toNat (5) + 1) σ9 ((Int32.ofInt 0)) ((Int32.ofInt 0)) h10 h11 ((h13 _ _ (Or.inr (by decide))).trans h7) h12 (by omega) (by omega) (by omega) (by omega) (by omega) (by omega) (RN_0 (by have := pI_rng (s := a.toInt) (by omega) (by omega); constructor <;> omega) (by omega) rfl (by omega)) (TB_0 (by omega))
/-- DoorSchool$Tape.append(I)V -/
abbrev P_90x (σ0 : SG) (a : Int32) (m : Int32) : PO := fun v σ => WT σ ∧ Fr [(1, 1), (2, 0)] σ0 σ ∧ ∃ m1 : Int32, (σ 1)[1]? = some (.int m1) ∧ v = none ∧ -m1.toInt + 4 ≤ 0 ∧ m1.toInt - 1600 ≤ 0 ∧ -m1.toInt + m.toInt ≤ 0 ∧ m1.toInt - m.toInt - 4 ≤ 0 ∧ Imp (m.toInt - 1596 ≤ 0) (m1.toInt - m.toInt - 4 ≤ 0 ∧ -m1.toInt + m.toInt + 4 ≤ 0) ∧ APB σ0 σ 2 m.toInt (m1.toInt - m.toInt) a
set_option maxRecDepth 10000 in
set_option maxHeartbeats 4000000 in
theorem c_90x (σ0 : SG) (hσ0 : WT σ0) (a : Int32) (m : Int32) (h_m : (σ0 1)[1]? = some (.int m)) : En 0 0 none mr_90 (P_90x σ0 a m) 0 [(0, .ref 1), (1, .int a)] [] σ0 := by
  obtain ⟨hl_m, hu_m⟩ := WT_int hσ0 (g := 1) (by decide +kernel) (by decide +kernel) (l := 0) (u := 1600) (by decide +kernel) h_m
  have hF0 : Fr [(1, 1), (2, 0)] σ0 σ0 := Fr_rfl
  refine En_Ps 2 (pc' := 3) (lv' := [(2, .int (((Int8.ofInt 24).toInt32))), (0, .ref 1), (1, .int a)]) (st' := []) rfl ?_
  have key3 : ∀ (n3 : Nat) (σ3 : SG) (y1 : Int32) (y2 : Int32), WT σ3 → Fr [(1, 1), (2, 0)] σ0 σ3 → (σ3 1)[1]? = some (.int y2) → (-8) ≤ y1.toInt → y1.toInt ≤ 24 → 0 ≤ y2.toInt → y2.toInt ≤ 1600 → y1.toInt + 8 * y2.toInt - 8 * m.toInt - 24 ≤ 0 → 8 * m.toInt - y1.toInt - 8 * y2.toInt + 24 ≤ 0 → y1.toInt + 8 < (n3 : Int) → APB σ0 σ3 2 m.toInt (y2.toInt - m.toInt) a → En 0 0 none mr_90 (P_90x σ0 a m) 3 [(0, .ref 1), (1, .int a), (2, .int y1)] [] σ3 := by
    intro n3
    induction n3 with
    | zero =>
      intro σ3 y1 y2 h4 h5 h6 h7 h8 h9 h10 h11 h12 h13 h14
      exfalso; omega
    | succ n3 ih3 =>
      intro σ3 y1 y2 h4 h5 h6 h7 h8 h9 h10 h11 h12 h13 h14
      refine En_Ps 1 (pc' := 4) (lv' := [(0, .ref 1), (1, .int a), (2, .int y1)]) (st' := [.int y1]) rfl ?_
      refine En_iLt _ rfl rfl (fun h15 => ?_) (fun h15 => ?_)
      · exact En_ret (v := none) rfl rfl rfl ⟨h4, h5, y2, h6, rfl, ⟨by omega, by omega, by omega, by omega, fun _ => by omega, APB_c h14 (by omega)⟩⟩
      · refine En_Ps 1 (pc' := 8) (lv' := [(0, .ref 1), (1, .int a), (2, .int y1)]) (st' := [.ref 1]) rfl ?_
        refine En_getK (j := 1) h6 rfl rfl rfl (by decide +kernel : TG 1 = 1) (by decide +kernel) ?_
        refine En_Ps 1 (pc' := 12) (lv' := [(0, .ref 1), (1, .int a), (2, .int y1)]) (st' := [.ref 1, .int y2]) rfl ?_
        refine En_getU (j := 0) (u := 2) (g' := 2) (q := 0) rfl rfl rfl (by decide +kernel : TG 1 = 1) (by decide +kernel) h4 (by decide +kernel) (by decide +kernel) (fun h16 => ?_)
        refine En_alenN (n := 1600) rfl (by decide +kernel : TG 2 = 2) (by decide +kernel) (by decide +kernel) h4 ?_
        refine En_icGe _ rfl (by decide : (Int32.ofNat 1600).toInt = 1600) rfl (fun h18 => ?_) (fun h18 => ?_)
        · exact En_ret (v := none) rfl rfl rfl ⟨h4, h5, y2, h6, rfl, ⟨by omega, by omega, by omega, by omega, fun _ => by omega, APB_c h14 (by omega)⟩⟩
        · refine En_Ps 1 (pc' := 20) (lv' := [(0, .ref 1), (1, .int a), (2, .int y1)]) (st' := [.ref 1]) rfl ?_
          refine En_getK (j := 0) h16 rfl rfl rfl (by decide +kernel : TG 1 = 1) (by decide +kernel) ?_
          refine En_Ps 1 (pc' := 24) (lv' := [(0, .ref 1), (1, .int a), (2, .int y1)]) (st' := [.ref 1, .ref 2]) rfl ?_
          refine En_getK (j := 1) h6 rfl rfl rfl (by decide +kernel : TG 1 = 1) (by decide +kernel) ?_
          refine En_Ps 4 (pc' := 31) (lv' := [(0, .ref 1), (1, .int a), (2, .int y1)]) (st' := [.int ((((a.toUInt32 >>> (y1.toUInt32 &&& Int32.toUInt32 31)).toInt32).toInt8.toInt32)), .int y2, .ref 2]) rfl ?_
          refine En_nam (fun z19 h20 => ?_)
          have h21 := b4_u (j := y2.toInt - m.toInt) h20 (by omega) (by omega) (by omega)
          have h22 := b4_rng a (y2.toInt - m.toInt)
          refine En_bast (l := (-128)) (u := 127) rfl rfl (by decide +kernel : TG 2 = 2) (by decide +kernel) (narB rfl (by omega) (by omega)) (by omega) (lnI (by decide +kernel : LN _ = 1600) (by omega)) (FTsgl (by decide +kernel)) (rngI rfl (by omega) (by omega)) h4 h5 (by decide +kernel) (fun σ23 h24 h25 h26 h27 => ?_)
          have h28 := APB_s (J := y2.toInt) (y := y2.toInt - m.toInt) (y' := y2.toInt - m.toInt + 1) h14 h26 h27 (by omega) (by omega) (by omega) h21 rfl
          refine En_Ps 2 (pc' := 34) (lv' := [(0, .ref 1), (1, .int a), (2, .int y1)]) (st' := [.ref 1, .ref 1]) rfl ?_
          refine En_getK (j := 1) ((h27 _ _ (Or.inl (neTG (by decide +kernel : TG 1 = 1) (by decide +kernel : TG 2 = 2) (by decide)))).trans h6) rfl rfl rfl (by decide +kernel : TG 1 = 1) (by decide +kernel) ?_
          refine En_Ps 2 (pc' := 39) (lv' := [(0, .ref 1), (1, .int a), (2, .int y1)]) (st' := [.int ((y2 + ((Int32.ofInt 1)))), .ref 1]) rfl ?_
          refine En_top (addI rfl (by decide : (Int32.ofInt 1).toInt = 1) (by omega) (by omega)) (fun z29 h30 => ?_)
          refine En_put (j := 1) rfl rfl rfl (by decide +kernel : TG 1 = 1) (by decide +kernel) rfl (vI (l := 0) (u := 1600) (by decide +kernel) rfl (by omega) (by omega)) h24 h25 (by decide +kernel) (fun σ31 h32 h33 h34 h35 => ?_)
          have h36 := APB_ne h28 h35 (by decide)
          refine En_Ps 1 (pc' := 45) (lv' := [(2, .int ((y1 + Int32.ofInt (-8)))), (0, .ref 1), (1, .int a)]) (st' := []) rfl ?_
          refine En_lv1 (addI rfl (by decide : (Int32.ofInt (-8)).toInt = -8) (by omega) (by omega)) (fun z37 h38 => ?_)
          refine En_Ps 1 (pc' := 3) (lv' := [(2, .int z37), (0, .ref 1), (1, .int a)]) (st' := []) rfl ?_
          refine En_lv (lv := [(0, .ref 1), (1, .int a), (2, .int z37)]) ⟨rfl, rfl, rfl, trivial⟩ ?_
          exact ih3 σ31 z37 z29 h32 h33 h34 (by omega) (by omega) (by omega) (by omega) (by omega) (by omega) (by omega) (APB_c h36 (by omega))
  have := (by decide : ((Int8.ofInt 24).toInt32).toInt = 24)
  refine En_lv (lv := [(0, .ref 1), (1, .int a), (2, .int (((Int8.ofInt 24).toInt32)))]) ⟨rfl, rfl, rfl, trivial⟩ ?_
  exact key3 (Int.toNat (32) + 1) σ0 (((Int8.ofInt 24).toInt32)) m hσ0 hF0 h_m (by omega) (by omega) (by omega) (by omega) (by omega) (by omega) (by omega) (APB_0 (by omega))
/-- DoorSchool.doneBy(I)I -/
abbrev P_114x (σ0 : SG) (Wv : Int → Int) (a : Int32) (p : Nat) (sg : Int32) : PO := fun v σ => WT σ ∧ Fr [] σ0 σ ∧ ∃ ret : Int32, v = some (.int ret) ∧ -ret.toInt ≤ 0 ∧ ret.toInt - 65535 ≤ 0 ∧ ret.toInt = DDw Wv a.toInt
set_option maxRecDepth 10000 in
set_option maxHeartbeats 4000000 in
theorem c_114x {Wv : Int → Int} (σ0 : SG) (hσ0 : WT σ0) (a : Int32) (hl_a : 0 ≤ a.toInt) (hu_a : a.toInt ≤ 3) (p : Nat) (hp : TG p = 18) (h_p : (σ0 0)[9]? = some (.ref p)) (sg : Int32) (h_sg : (σ0 p)[1]? = some (.int sg)) (hp0 : -sg.toInt ≤ 0) (hP : PLA p) (hX : FXP σ0 p) (hK : KN σ0 p Wv (act Wv)) (hB : WFw Wv) (hT : TWN Wv) (hd : a.toInt < Wv 2) (hQ : RULx σ0 (Wv 0)) : En 3 70 none mr_114 (P_114x σ0 Wv a p sg) 0 [(0, .ref 0), (1, .int a)] [] σ0 := by
  obtain ⟨hl_sg, hu_sg⟩ := WT_int hσ0 (g := 18) hp (by decide +kernel) (l := (-1)) (u := 4) (by decide +kernel) h_sg
  have hF0 : Fr [] σ0 σ0 := Fr_rfl
  have t1 : Wv (0) = sg.toInt := KN_v hK (Or.inl (by decide)) (by omega) (by omega) (by rw [lcO_lt (by decide) (by decide), Nat.add_zero]) rfl h_sg
  refine En_Ps 1 (pc' := 1) (lv' := [(0, .ref 0), (1, .int a)]) (st' := [.ref 0]) rfl ?_
  refine En_getK (j := 9) h_p rfl rfl rfl (by decide +kernel : TG 0 = 0) (by decide +kernel) ?_
  refine En_Ps 1 (pc' := 5) (lv' := [(0, .ref 0), (1, .int a)]) (st' := [.int a, .ref p]) rfl ?_
  refine En_callV rfl rfl rfl rfl rfl rfl rfl rfl hp (by decide +kernel) rfl (c_52x σ0 hσ0 p hp a (geI rfl (by omega)) (leI rfl (by omega)) hP (FXP_fr hP hX hF0 (by decide +kernel)) hK (by omega)) (by decide) (by decide) (fun v3 σ4 h2 => ?_)
  obtain ⟨h5, h6, a8, ha8, rfl, h7⟩ := h2
  have h9 := h7
  obtain rfl : σ0 = σ4 := Fr_nil h6
  have h10 := hB.2.2.1
  have h11 := rlW_rg hT (by omega) hd (by omega) h9.2
  have t12 := lc_d (d := rlW Wv a.toInt) (by omega) (by omega)
  have h13 := hB.2.2.2.2.2.2 (rlW Wv a.toInt) (by omega) (by omega)
  refine En_Ps 2 (pc' := 10) (lv' := [(2, .ref a8), (0, .ref 0), (1, .int a)]) (st' := [.ref 0]) rfl ?_
  refine En_getU (j := 3) (u := 8) (g' := 8) (q := 0) rfl rfl rfl (by decide +kernel : TG 0 = 0) (by decide +kernel) hσ0 (by decide +kernel) (by decide +kernel) (fun h14 => ?_)
  refine En_Ps 1 (pc' := 14) (lv' := [(2, .ref a8), (0, .ref 0), (1, .int a)]) (st' := [.ref a8, .ref 8]) rfl ?_
  refine En_getI (j := 1) (l := 0) (u := 2) rfl rfl rfl ha8 (by decide +kernel) hσ0 (by decide +kernel) (fun z17 h16 h18 h19 => ?_)
  have t20 : Wv (10 + 4 * (rlW Wv a.toInt)) = z17.toInt := KN_v hK (Or.inr (Or.inl ⟨by omega, by omega, by omega⟩)) (by omega) (by omega) (by omega) (by omega) h16
  refine En_Ps 1 (pc' := 18) (lv' := [(2, .ref a8), (0, .ref 0), (1, .int a)]) (st' := [.ref a8, .int z17, .ref 8]) rfl ?_
  refine En_getR (j := 0) (g' := 20) (u := 0) rfl rfl rfl ha8 (by decide +kernel) hσ0 (by decide +kernel) (fun a22 h21 ha22 => ?_)
  have t23 : a22 = p + 11 + 4 * (rlW Wv a.toInt).toNat := DLc (d := rlW Wv a.toInt) (FXP_fr hP hX hF0 (by decide +kernel)) h9.1 h21 (by omega) (by omega)
  obtain ⟨z25, h24, h26, h27⟩ := WT_peekI hσ0 (by decide +kernel : TG 4 = 4) (by decide +kernel : FT 4 0 = (0, 0, 16)) (by decide +kernel)
  obtain ⟨z29, h28, h30, h31⟩ := WT_peekI hσ0 (by decide +kernel : TG 4 = 4) (by decide +kernel : FT 4 1 = (0, 0, 81)) (by decide +kernel)
  have h32 : z25.toInt = pI (Wv 0) := (ci_at (j := 0) h24 rfl).symm.trans hQ.1
  have h33 : z29.toInt = nR (Wv 0) := (ci_at (j := 1) h28 rfl).symm.trans hQ.2.1
  have h34 := pI_rng (s := Wv 0) (by omega) (by omega)
  have h35 := nR_rg (s := Wv 0) (by omega) (by omega)
  obtain ⟨a37, h36, ha37⟩ := WT_peekR (g := 20) (j := 0) (g' := 21) (u := 0) hσ0 ha22 (by decide +kernel) (by decide +kernel)
  have t38 : a37 = p + 12 + 4 * (rlW Wv a.toInt).toNat := DKk (d := rlW Wv a.toInt) (FXP_fr hP hX hF0 (by decide +kernel)) t23 h36 (by omega) (by omega)
  obtain ⟨a40, h39, ha40⟩ := WT_peekR (g := 20) (j := 1) (g' := 22) (u := 0) hσ0 ha22 (by decide +kernel) (by decide +kernel)
  have t41 : a40 = p + 13 + 4 * (rlW Wv a.toInt).toNat := DKo (d := rlW Wv a.toInt) (FXP_fr hP hX hF0 (by decide +kernel)) t23 h39 (by omega) (by omega)
  obtain ⟨z43, h42, h44, h45⟩ := WT_peekI hσ0 ha22 (by decide +kernel : FT 20 2 = (0, 0, 13)) (by decide +kernel)
  have t46 : Wv (12 + 4 * (rlW Wv a.toInt)) = z43.toInt := KN_v hK (Or.inr (Or.inl ⟨by omega, by omega, by omega⟩)) (by omega) (by omega) (by omega) (by omega) h42
  refine En_callV rfl rfl rfl rfl rfl rfl rfl rfl (by decide +kernel : TG 8 = 8) (by decide +kernel) rfl (c_22x σ0 hσ0 z17 a22 ha22 (geI rfl (by omega)) (leI rfl (by omega)) a37 ha37 h36 a40 ha40 h39 z43 h42 z25 h24 z29 h28 (fun i i0 i1 => TB_rg hQ.2.2 (by omega) i i0 (by omega))) (by decide) (by decide) (fun v48 σ49 h47 => ?_)
  obtain ⟨h50, h51, z53, rfl, h52⟩ := h47
  have h54 := h52
  obtain rfl : σ0 = σ49 := Fr_nil h51
  have h55 : z53.toInt = DDw Wv a.toInt := DDw_of (r := rlW Wv a.toInt) rfl t20 t46 h32 h33 (by omega) (KN_lk hK (by omega) (by omega) (by omega) t46.symm (by omega) t38) (KN_lo hK (by omega) (by omega) (by omega) t46.symm (by omega) t41) (fun i i0 i1 => TB_D hQ.2.2 i i0 (by omega)) h54
  have h56 := DDw_rg (w := Wv) (d := a.toInt) (by omega) (by omega)
  exact En_ret (v := some (.int z53)) rfl rfl rfl ⟨hσ0, hF0, z53, rfl, ⟨by omega, by omega, h55⟩⟩
/-- DoorSchool.back(I)I -/
abbrev P_105x (σ0 : SG) (a : Int32) (p : Nat) (sg : Int32) (p2 : Nat) : PO := fun v σ => WT σ ∧ Fr [(4, 0), (4, 1), (5, 0), (6, 0), (7, 0), (18, 0), (18, 1), (18, 2), (18, 3), (18, 6), (18, 7), (18, 8), (18, 11), (18, 14), (20, 2), (21, 0), (22, 0), (23, 0), (24, 0), (25, 0), (26, 0), (27, 0), (28, 1), (28, 2), (28, 3)] σ0 σ ∧ ∃ ret : Int32, v = some (.int ret) ∧ -ret.toInt - 6 ≤ 0 ∧ ret.toInt ≤ 0 ∧ (INVc σ ∧ BCK (ci σ0 71 a.toInt) a.toInt ret.toInt ∧ BKC σ0 σ p a.toInt (ci σ0 71 a.toInt) ∧ RBK σ0 σ p a.toInt (ci σ0 71 a.toInt))
set_option maxRecDepth 10000 in
set_option maxHeartbeats 4000000 in
theorem c_105x (σ0 : SG) (hσ0 : WT σ0) (a : Int32) (p : Nat) (hp : TG p = 18) (h_p : (σ0 0)[9]? = some (.ref p)) (sg : Int32) (h_sg : (σ0 p)[1]? = some (.int sg)) (p2 : Nat) (hp2 : TG p2 = 18) (h_p2 : (σ0 0)[10]? = some (.ref p2)) (hp0 : -sg.toInt ≤ 0) (hne : p ≠ p2) (hP : PLA p) (hX : FXP σ0 p) (hM : IMX σ0) : En 4 124 none mr_105 (P_105x σ0 a p sg p2) 0 [(0, .ref 0), (1, .int a)] [] σ0 := by
  obtain ⟨hl_sg, hu_sg⟩ := WT_int hσ0 (g := 18) hp (by decide +kernel) (l := (-1)) (u := 4) (by decide +kernel) h_sg
  have hF0 : Fr [(4, 0), (4, 1), (5, 0), (6, 0), (7, 0), (18, 0), (18, 1), (18, 2), (18, 3), (18, 6), (18, 7), (18, 8), (18, 11), (18, 14), (20, 2), (21, 0), (22, 0), (23, 0), (24, 0), (25, 0), (26, 0), (27, 0), (28, 1), (28, 2), (28, 3)] σ0 σ0 := Fr_rfl
  refine En_Ps 1 (pc' := 1) (lv' := [(0, .ref 0), (1, .int a)]) (st' := [.int a]) rfl ?_
  refine En_iLt _ rfl rfl (fun h1 => ?_) (fun h1 => ?_)
  · refine En_Ps 1 (pc' := 11) (lv' := [(0, .ref 0), (1, .int a)]) (st' := [.int (((Int8.ofInt (-2)).toInt32))]) rfl ?_
    refine En_top (by decide : ((Int8.ofInt (-2)).toInt32).toInt = -2) (fun z2 h3 => ?_)
    exact En_ret (v := some (.int z2)) rfl rfl rfl ⟨hσ0, hF0, z2, rfl, ⟨by omega, by omega, ⟨⟨p, p2, sg, hp, hp2, h_p, h_p2, hne, h_sg, (by omega)⟩, BCK_2 (by omega) (by omega), BKC_no (by omega), ⟨fun _ _ _ => by exfalso; omega, fun _ => RSAM_0⟩⟩⟩⟩
  · refine En_Ps 2 (pc' := 6) (lv' := [(0, .ref 0), (1, .int a)]) (st' := [.int ((Int32.ofInt 3)), .int a]) rfl ?_
    refine En_icLt _ rfl (by decide : (Int32.ofInt 3).toInt = 3) rfl (fun h4 => ?_) (fun h4 => ?_)
    · refine En_Ps 1 (pc' := 13) (lv' := [(0, .ref 0), (1, .int a)]) (st' := [.ref 0]) rfl ?_
      refine En_getU (j := 8) (u := 71) (g' := 30) (q := 0) rfl rfl rfl (by decide +kernel : TG 0 = 0) (by decide +kernel) hσ0 (by decide +kernel) (by decide +kernel) (fun h5 => ?_)
      refine En_Ps 1 (pc' := 17) (lv' := [(0, .ref 0), (1, .int a)]) (st' := [.int a, .ref 71]) rfl ?_
      refine En_bald (l := 0) (u := 1) rfl rfl (by decide +kernel : TG 71 = 30) (by decide +kernel) hσ0 (by omega) (lnI (by decide +kernel : LN _ = 3) (by omega)) (FTsgl (by decide +kernel)) (fun z8 h7 h9 h10 => ?_)
      have h11 := ci_at h7 (rfl : a.toInt = a.toInt)
      refine En_iNe _ rfl rfl (fun h12 => ?_) (fun h12 => ?_)
      · refine En_Ps 1 (pc' := 25) (lv' := [(0, .ref 0), (1, .int a)]) (st' := [.ref 0]) rfl ?_
        refine En_getK (j := 9) h_p rfl rfl rfl (by decide +kernel : TG 0 = 0) (by decide +kernel) ?_
        refine En_Ps 1 (pc' := 29) (lv' := [(0, .ref 0), (1, .int a)]) (st' := [.ref 0, .ref p]) rfl ?_
        refine En_getU (j := 7) (u := 70) (g' := 29) (q := 0) rfl rfl rfl (by decide +kernel : TG 0 = 0) (by decide +kernel) hσ0 (by decide +kernel) (by decide +kernel) (fun h13 => ?_)
        refine En_Ps 1 (pc' := 33) (lv' := [(0, .ref 0), (1, .int a)]) (st' := [.int a, .ref 70, .ref p]) rfl ?_
        refine En_aald (g' := 31) (u := 0) rfl rfl (by decide +kernel : TG 70 = 29) (by decide +kernel) hσ0 (by omega) (lnI (by decide +kernel : LN _ = 3) (by omega)) (FTsgl (by decide +kernel)) (fun a16 h15 ha16 => ?_)
        have h17 : a16 = 72 + 26 * (a.toInt).toNat := ref_uniq h15 (hM (a.toInt).toNat (by omega)).1
        refine En_callV rfl rfl rfl rfl rfl rfl rfl rfl hp (by decide +kernel) rfl (c_53bx σ0 hσ0 p hp a16 ha16 (by rw [h17]; exact (SEP_i (by omega) hP).2) hX (by rw [h17]; exact (hM (a.toInt).toNat (by omega)).2)) (by decide) (by decide) (fun v19 σ20 h18 => ?_)
        obtain ⟨h21, h22, z24, h25, rfl, h23⟩ := h18
        have h26 := h23.2.2
        have h27 := Fr_trans hF0 h22 (by decide +kernel)
        refine En_Ps 1 (pc' := 38) (lv' := [(0, .ref 0), (1, .int a)]) (st' := [.ref 0]) rfl ?_
        refine En_getU (j := 2) (u := 4) (g' := 4) (q := 0) rfl rfl rfl (by decide +kernel : TG 0 = 0) (by decide +kernel) h21 (by decide +kernel) (by decide +kernel) (fun h29 => ?_)
        refine En_Ps 1 (pc' := 42) (lv' := [(0, .ref 0), (1, .int a)]) (st' := [.ref 0, .ref 4]) rfl ?_
        refine En_getK (j := 9) ((h22 _ _ (inW (by decide +kernel : TG 0 = 0) (by decide +kernel))).trans h_p) rfl rfl rfl (by decide +kernel : TG 0 = 0) (by decide +kernel) ?_
        refine En_getK (j := 1) h25 rfl rfl rfl hp (by decide +kernel) ?_
        refine En_callV rfl rfl rfl rfl rfl rfl rfl rfl (by decide +kernel : TG 4 = 4) (by decide +kernel) rfl (c_82x σ20 h21 z24 (geI rfl (by omega)) (leI rfl (by omega))) (by decide) (by decide) (fun v32 σ33 h31 => ?_)
        obtain ⟨h34, h35, rfl, h36⟩ := h31
        have h37 := h36
        have h38 := Fr_trans h27 h35 (by decide +kernel)
        refine En_Ps 1 (pc' := 52) (lv' := [(0, .ref 0), (1, .int a)]) (st' := [.int ((Int32.ofInt 0))]) rfl ?_
        refine En_top (by decide : (Int32.ofInt 0).toInt = 0) (fun z39 h40 => ?_)
        exact En_ret (v := some (.int z39)) rfl rfl rfl ⟨h34, h38, z39, rfl, ⟨by omega, by omega, ⟨⟨p, p2, z24, hp, hp2, ((h35 _ _ (inW (by decide +kernel : TG 0 = 0) (by decide +kernel))).trans ((h22 _ _ (inW (by decide +kernel : TG 0 = 0) (by decide +kernel))).trans h_p)), ((h35 _ _ (inW (by decide +kernel : TG 0 = 0) (by decide +kernel))).trans ((h22 _ _ (inW (by decide +kernel : TG 0 = 0) (by decide +kernel))).trans h_p2)), hne, ((h35 _ _ (inW hp (by decide +kernel))).trans h25), (by omega)⟩, BCK_0 (by omega) (by omega) (by omega) (by omega), BKC_ok (by omega) (by omega) (by omega) h26 h17 h35 (by decide +kernel) (PLA_B hP), ⟨fun _ _ _ => (RULx_eq h37 (ci_at (j := 1) ((h35 _ _ (inW hp (by decide +kernel))).trans h25) rfl)), fun _ => by exfalso; omega⟩⟩⟩⟩
      · refine En_Ps 1 (pc' := 23) (lv' := [(0, .ref 0), (1, .int a)]) (st' := [.int (((Int8.ofInt (-6)).toInt32))]) rfl ?_
        refine En_top (by decide : ((Int8.ofInt (-6)).toInt32).toInt = -6) (fun z41 h42 => ?_)
        exact En_ret (v := some (.int z41)) rfl rfl rfl ⟨hσ0, hF0, z41, rfl, ⟨by omega, by omega, ⟨⟨p, p2, sg, hp, hp2, h_p, h_p2, hne, h_sg, (by omega)⟩, BCK_6 (by omega) (by omega) (by omega) (by omega), BKC_no (by omega), ⟨fun _ _ _ => by exfalso; omega, fun _ => RSAM_0⟩⟩⟩⟩
    · refine En_Ps 1 (pc' := 11) (lv' := [(0, .ref 0), (1, .int a)]) (st' := [.int (((Int8.ofInt (-2)).toInt32))]) rfl ?_
      refine En_top (by decide : ((Int8.ofInt (-2)).toInt32).toInt = -2) (fun z43 h44 => ?_)
      exact En_ret (v := some (.int z43)) rfl rfl rfl ⟨hσ0, hF0, z43, rfl, ⟨by omega, by omega, ⟨⟨p, p2, sg, hp, hp2, h_p, h_p2, hne, h_sg, (by omega)⟩, BCK_2 (by omega) (by omega), BKC_no (by omega), ⟨fun _ _ _ => by exfalso; omega, fun _ => RSAM_0⟩⟩⟩⟩
/-- DoorSchool.copy(II)I -/
abbrev P_109x (σ0 : SG) (Wv : Int → Int) (a : Int32) (b : Int32) (p : Nat) (sg : Int32) : PO := fun v σ => WT σ ∧ Fr [(28, 3)] σ0 σ ∧ ∃ ret : Int32, v = some (.int ret) ∧ -ret.toInt - 5 ≤ 0 ∧ ret.toInt - 3 ≤ 0 ∧ (KN σ p (cyW Wv a.toInt b.toInt) (act (cyW Wv a.toInt b.toInt)) ∧ OUT σ0 σ p)
set_option maxRecDepth 10000 in
set_option maxHeartbeats 4000000 in
theorem c_109x {Wv : Int → Int} (σ0 : SG) (hσ0 : WT σ0) (a : Int32) (b : Int32) (p : Nat) (hp : TG p = 18) (h_p : (σ0 0)[9]? = some (.ref p)) (sg : Int32) (h_sg : (σ0 p)[1]? = some (.int sg)) (hp0 : -sg.toInt ≤ 0) (hP : PLA p) (hX : FXP σ0 p) (hK : KN σ0 p Wv (act Wv)) : En 1 22 none mr_109 (P_109x σ0 Wv a b p sg) 0 [(0, .ref 0), (1, .int a), (2, .int b)] [] σ0 := by
  obtain ⟨hl_sg, hu_sg⟩ := WT_int hσ0 (g := 18) hp (by decide +kernel) (l := (-1)) (u := 4) (by decide +kernel) h_sg
  have hF0 : Fr [(28, 3)] σ0 σ0 := Fr_rfl
  have t1 : Wv (0) = sg.toInt := KN_v hK (Or.inl (by decide)) (by omega) (by omega) (by rw [lcO_lt (by decide) (by decide), Nat.add_zero]) rfl h_sg
  obtain ⟨z3, h2, h4, h5⟩ := WT_peekI hσ0 hp (by decide +kernel : FT 18 3 = (0, 0, 4)) (by decide +kernel)
  have t6 : Wv (2) = z3.toInt := KN_v hK (Or.inl (by decide)) (by omega) (by omega) (by rw [lcO_lt (by decide) (by decide), Nat.add_zero]) rfl h2
  refine En_Ps 1 (pc' := 1) (lv' := [(0, .ref 0), (1, .int a), (2, .int b)]) (st' := [.ref 0]) rfl ?_
  refine En_getK (j := 9) h_p rfl rfl rfl (by decide +kernel : TG 0 = 0) (by decide +kernel) ?_
  refine En_Ps 1 (pc' := 5) (lv' := [(0, .ref 0), (1, .int a), (2, .int b)]) (st' := [.int a, .ref p]) rfl ?_
  refine En_callV rfl rfl rfl rfl rfl rfl rfl rfl hp (by decide +kernel) rfl (c_47x σ0 hσ0 p hp a z3 h2) (by decide) (by decide) (fun v8 σ9 h7 => ?_)
  obtain ⟨h10, h11, z13, rfl, h12⟩ := h7
  obtain rfl : σ0 = σ9 := Fr_nil h11
  have h14 := Imp_m h12.2.2.1
  have h15 := Imp_m h12.2.2.2.1
  have h16 := Imp_m h12.2.2.2.2.1
  have h17 := Imp_m h12.2.2.2.2.2
  refine En_iEq _ rfl rfl (fun h18 => ?_) (fun h18 => ?_)
  · have h19 := Imp_m h12.2.2.2.2.1 (by omega)
    refine En_Ps 1 (pc' := 34) (lv' := [(0, .ref 0), (1, .int a), (2, .int b)]) (st' := [.int (((Int8.ofInt (-2)).toInt32))]) rfl ?_
    refine En_top (by decide : ((Int8.ofInt (-2)).toInt32).toInt = -2) (fun z20 h21 => ?_)
    exact En_ret (v := some (.int z20)) rfl rfl rfl ⟨hσ0, hF0, z20, rfl, ⟨by omega, by omega, (by rw [cyW_n (by omega)]; exact ⟨hK, OUT_0⟩)⟩⟩
  · have h22 := Imp_m h12.2.2.1 (by omega)
    have h23 := Imp_m h12.2.2.2.1 (by omega)
    have h24 := Imp_m h12.2.2.2.2.2 (by omega)
    refine En_Ps 2 (pc' := 13) (lv' := [(0, .ref 0), (1, .int a), (2, .int b)]) (st' := [.int a, .int b]) rfl ?_
    refine En_icEq _ rfl rfl rfl (fun h25 => ?_) (fun h25 => ?_)
    · refine En_Ps 1 (pc' := 34) (lv' := [(0, .ref 0), (1, .int a), (2, .int b)]) (st' := [.int (((Int8.ofInt (-2)).toInt32))]) rfl ?_
      refine En_top (by decide : ((Int8.ofInt (-2)).toInt32).toInt = -2) (fun z26 h27 => ?_)
      exact En_ret (v := some (.int z26)) rfl rfl rfl ⟨hσ0, hF0, z26, rfl, ⟨by omega, by omega, (by rw [cyW_n (by omega)]; exact ⟨hK, OUT_0⟩)⟩⟩
    · refine En_Ps 2 (pc' := 18) (lv' := [(0, .ref 0), (1, .int a), (2, .int b)]) (st' := [.int ((Int32.ofInt (-1))), .int b]) rfl ?_
      refine En_icEq _ rfl (by decide : (Int32.ofInt (-1)).toInt = -1) rfl (fun h28 => ?_) (fun h28 => ?_)
      · refine En_Ps 1 (pc' := 36) (lv' := [(0, .ref 0), (1, .int a), (2, .int b)]) (st' := [.ref 0]) rfl ?_
        refine En_getK (j := 9) h_p rfl rfl rfl (by decide +kernel : TG 0 = 0) (by decide +kernel) ?_
        refine En_Ps 1 (pc' := 40) (lv' := [(0, .ref 0), (1, .int a), (2, .int b)]) (st' := [.int a, .ref p]) rfl ?_
        refine En_callV rfl rfl rfl rfl rfl rfl rfl rfl hp (by decide +kernel) rfl (c_45x σ0 hσ0 p hp a hP (FXP_fr hP hX hF0 (by decide +kernel)) hK) (by decide) (by decide) (fun v30 σ31 h29 => ?_)
        obtain ⟨h32, h33, z35, rfl, h34⟩ := h29
        have h36 := h34.2.2.2
        obtain rfl : σ0 = σ31 := Fr_nil h33
        have h37 : z35.toInt = cpI Wv a.toInt := h36
        refine En_iNe _ rfl rfl (fun h38 => ?_) (fun h38 => ?_)
        · have h39 := Imp_m h34.2.2.1 (by omega)
          refine En_Ps 1 (pc' := 69) (lv' := [(0, .ref 0), (1, .int a), (2, .int b)]) (st' := [.int (((Int8.ofInt (-5)).toInt32))]) rfl ?_
          refine En_top (by decide : ((Int8.ofInt (-5)).toInt32).toInt = -5) (fun z40 h41 => ?_)
          exact En_ret (v := some (.int z40)) rfl rfl rfl ⟨hσ0, hF0, z40, rfl, ⟨by omega, by omega, (by rw [cyW_n (by omega)]; exact ⟨hK, OUT_0⟩)⟩⟩
        · refine En_Ps 2 (pc' := 48) (lv' := [(0, .ref 0), (1, .int a), (2, .int b)]) (st' := [.int ((Int32.ofInt (-1))), .int b]) rfl ?_
          refine En_icEq _ rfl (by decide : (Int32.ofInt (-1)).toInt = -1) rfl (fun h42 => ?_) (fun hx => by exfalso; omega)
          refine En_Ps 1 (pc' := 71) (lv' := [(0, .ref 0), (1, .int a), (2, .int b)]) (st' := [.ref 0]) rfl ?_
          refine En_getK (j := 9) h_p rfl rfl rfl (by decide +kernel : TG 0 = 0) (by decide +kernel) ?_
          refine En_getR (j := 4) (g' := 19) (u := 0) rfl rfl rfl hp (by decide +kernel) hσ0 (by decide +kernel) (fun a44 h43 ha44 => ?_)
          have t45 : a44 = p + 1 := ref_uniq h43 (FXP_fr hP hX hF0 (by decide +kernel)).1
          refine En_Ps 1 (pc' := 78) (lv' := [(0, .ref 0), (1, .int a), (2, .int b)]) (st' := [.int a, .ref a44]) rfl ?_
          refine En_aald (g' := 28) (u := 0) rfl rfl ha44 (by decide +kernel) hσ0 (by omega) (lnI (by decide +kernel : LN _ = 4) (by omega)) (FTsgl (by decide +kernel)) (fun a47 h46 ha47 => ?_)
          have t48 : a47 = p + 10 + 4 * (a.toInt).toNat := DRe (d := a.toInt) (FXP_fr hP hX hF0 (by decide +kernel)) t45 h46 (by omega) (by omega)
          have t49 := lc_d (d := a.toInt) (by omega) (by omega)
          refine En_getI (j := 3) (l := (-1)) (u := 3) rfl rfl rfl ha47 (by decide +kernel) hσ0 (by decide +kernel) (fun z51 h50 h52 h53 => ?_)
          have t54 : Wv (13 + 4 * (a.toInt)) = z51.toInt := KN_v hK (Or.inr (Or.inl ⟨by omega, by omega, by omega⟩)) (by omega) (by omega) (by omega) (by omega) h50
          refine En_Ps 2 (pc' := 84) (lv' := [(3, .int z51), (0, .ref 0), (1, .int a), (2, .int b)]) (st' := [.ref 0]) rfl ?_
          refine En_getK (j := 9) h_p rfl rfl rfl (by decide +kernel : TG 0 = 0) (by decide +kernel) ?_
          refine En_getK (j := 4) h43 rfl rfl rfl hp (by decide +kernel) ?_
          refine En_Ps 1 (pc' := 91) (lv' := [(3, .int z51), (0, .ref 0), (1, .int a), (2, .int b)]) (st' := [.int a, .ref a44]) rfl ?_
          refine En_aald (g' := 28) (u := 0) rfl rfl ha44 (by decide +kernel) hσ0 (by omega) (lnI (by decide +kernel : LN _ = 4) (by omega)) (FTsgl (by decide +kernel)) (fun a56 h55 ha56 => ?_)
          have t57 : a56 = p + 10 + 4 * (a.toInt).toNat := DRe (d := a.toInt) (FXP_fr hP hX hF0 (by decide +kernel)) t45 h55 (by omega) (by omega)
          have t58 := lc_d (d := a.toInt) (by omega) (by omega)
          refine En_Ps 1 (pc' := 93) (lv' := [(3, .int z51), (0, .ref 0), (1, .int a), (2, .int b)]) (st' := [.int b, .ref a56]) rfl ?_
          refine En_put (j := 3) rfl rfl rfl ha56 (by decide +kernel) rfl (vI (l := (-1)) (u := 3) (by decide +kernel) rfl (by omega) (by omega)) hσ0 hF0 (by decide +kernel) (fun σ59 h60 h61 h62 h63 => ?_)
          refine En_Ps 1 (pc' := 97) (lv' := [(3, .int z51), (0, .ref 0), (1, .int a), (2, .int b)]) (st' := [.int z51]) rfl ?_
          exact En_ret (v := some (.int z51)) rfl rfl rfl ⟨h60, h61, z51, rfl, ⟨by omega, by omega, (by have l := lc_d (d := a.toInt) (by omega) (by omega); rw [cyW_y (by omega)]; exact KN_one hK (PLA_B hP) (i := 13 + 4 * a.toInt) (v := b.toInt) h62 h63 (by omega) (by omega) ⟨by omega, by omega⟩ rfl (by omega) (Or.inr (Or.inl ⟨by omega, by omega, by omega⟩)))⟩⟩
      · refine En_Ps 1 (pc' := 22) (lv' := [(0, .ref 0), (1, .int a), (2, .int b)]) (st' := [.ref 0]) rfl ?_
        refine En_getK (j := 9) h_p rfl rfl rfl (by decide +kernel : TG 0 = 0) (by decide +kernel) ?_
        refine En_Ps 1 (pc' := 26) (lv' := [(0, .ref 0), (1, .int a), (2, .int b)]) (st' := [.int b, .ref p]) rfl ?_
        refine En_callV rfl rfl rfl rfl rfl rfl rfl rfl hp (by decide +kernel) rfl (c_47x σ0 hσ0 p hp b z3 h2) (by decide) (by decide) (fun v65 σ66 h64 => ?_)
        obtain ⟨h67, h68, z70, rfl, h69⟩ := h64
        obtain rfl : σ0 = σ66 := Fr_nil h68
        have h71 := Imp_m h69.2.2.1
        have h72 := Imp_m h69.2.2.2.1
        have h73 := Imp_m h69.2.2.2.2.1
        have h74 := Imp_m h69.2.2.2.2.2
        refine En_iNe _ rfl rfl (fun h75 => ?_) (fun h75 => ?_)
        · have h76 := Imp_m h69.2.2.1 (by omega)
          have h77 := Imp_m h69.2.2.2.1 (by omega)
          have h78 := Imp_m h69.2.2.2.2.2 (by omega)
          refine En_Ps 1 (pc' := 36) (lv' := [(0, .ref 0), (1, .int a), (2, .int b)]) (st' := [.ref 0]) rfl ?_
          refine En_getK (j := 9) h_p rfl rfl rfl (by decide +kernel : TG 0 = 0) (by decide +kernel) ?_
          refine En_Ps 1 (pc' := 40) (lv' := [(0, .ref 0), (1, .int a), (2, .int b)]) (st' := [.int a, .ref p]) rfl ?_
          refine En_callV rfl rfl rfl rfl rfl rfl rfl rfl hp (by decide +kernel) rfl (c_45x σ0 hσ0 p hp a hP (FXP_fr hP hX hF0 (by decide +kernel)) hK) (by decide) (by decide) (fun v80 σ81 h79 => ?_)
          obtain ⟨h82, h83, z85, rfl, h84⟩ := h79
          have h86 := h84.2.2.2
          obtain rfl : σ0 = σ81 := Fr_nil h83
          have h87 : z85.toInt = cpI Wv a.toInt := h86
          refine En_iNe _ rfl rfl (fun h88 => ?_) (fun h88 => ?_)
          · have h89 := Imp_m h84.2.2.1 (by omega)
            refine En_Ps 1 (pc' := 69) (lv' := [(0, .ref 0), (1, .int a), (2, .int b)]) (st' := [.int (((Int8.ofInt (-5)).toInt32))]) rfl ?_
            refine En_top (by decide : ((Int8.ofInt (-5)).toInt32).toInt = -5) (fun z90 h91 => ?_)
            exact En_ret (v := some (.int z90)) rfl rfl rfl ⟨hσ0, hF0, z90, rfl, ⟨by omega, by omega, (by rw [cyW_n (by omega)]; exact ⟨hK, OUT_0⟩)⟩⟩
          · refine En_Ps 2 (pc' := 48) (lv' := [(0, .ref 0), (1, .int a), (2, .int b)]) (st' := [.int ((Int32.ofInt (-1))), .int b]) rfl ?_
            refine En_icEq _ rfl (by decide : (Int32.ofInt (-1)).toInt = -1) rfl (fun hx => by exfalso; omega) (fun h92 => ?_)
            refine En_Ps 1 (pc' := 52) (lv' := [(0, .ref 0), (1, .int a), (2, .int b)]) (st' := [.ref 0]) rfl ?_
            refine En_getK (j := 9) h_p rfl rfl rfl (by decide +kernel : TG 0 = 0) (by decide +kernel) ?_
            refine En_getR (j := 4) (g' := 19) (u := 0) rfl rfl rfl hp (by decide +kernel) hσ0 (by decide +kernel) (fun a94 h93 ha94 => ?_)
            have t95 : a94 = p + 1 := ref_uniq h93 (FXP_fr hP hX hF0 (by decide +kernel)).1
            refine En_Ps 1 (pc' := 59) (lv' := [(0, .ref 0), (1, .int a), (2, .int b)]) (st' := [.int b, .ref a94]) rfl ?_
            refine En_aald (g' := 28) (u := 0) rfl rfl ha94 (by decide +kernel) hσ0 (by omega) (lnI (by decide +kernel : LN _ = 4) (by omega)) (FTsgl (by decide +kernel)) (fun a97 h96 ha97 => ?_)
            have t98 : a97 = p + 10 + 4 * (b.toInt).toNat := DRe (d := b.toInt) (FXP_fr hP hX hF0 (by decide +kernel)) t95 h96 (by omega) (by omega)
            have t99 := lc_d (d := b.toInt) (by omega) (by omega)
            refine En_getI (j := 3) (l := (-1)) (u := 3) rfl rfl rfl ha97 (by decide +kernel) hσ0 (by decide +kernel) (fun z101 h100 h102 h103 => ?_)
            have t104 : Wv (13 + 4 * (b.toInt)) = z101.toInt := KN_v hK (Or.inr (Or.inl ⟨by omega, by omega, by omega⟩)) (by omega) (by omega) (by omega) (by omega) h100
            refine En_Ps 1 (pc' := 64) (lv' := [(0, .ref 0), (1, .int a), (2, .int b)]) (st' := [.int ((Int32.ofInt (-1))), .int z101]) rfl ?_
            refine En_icEq _ rfl (by decide : (Int32.ofInt (-1)).toInt = -1) rfl (fun h105 => ?_) (fun h105 => ?_)
            · refine En_Ps 1 (pc' := 71) (lv' := [(0, .ref 0), (1, .int a), (2, .int b)]) (st' := [.ref 0]) rfl ?_
              refine En_getK (j := 9) h_p rfl rfl rfl (by decide +kernel : TG 0 = 0) (by decide +kernel) ?_
              refine En_getK (j := 4) h93 rfl rfl rfl hp (by decide +kernel) ?_
              refine En_Ps 1 (pc' := 78) (lv' := [(0, .ref 0), (1, .int a), (2, .int b)]) (st' := [.int a, .ref a94]) rfl ?_
              refine En_aald (g' := 28) (u := 0) rfl rfl ha94 (by decide +kernel) hσ0 (by omega) (lnI (by decide +kernel : LN _ = 4) (by omega)) (FTsgl (by decide +kernel)) (fun a107 h106 ha107 => ?_)
              have t108 : a107 = p + 10 + 4 * (a.toInt).toNat := DRe (d := a.toInt) (FXP_fr hP hX hF0 (by decide +kernel)) t95 h106 (by omega) (by omega)
              have t109 := lc_d (d := a.toInt) (by omega) (by omega)
              refine En_getI (j := 3) (l := (-1)) (u := 3) rfl rfl rfl ha107 (by decide +kernel) hσ0 (by decide +kernel) (fun z111 h110 h112 h113 => ?_)
              have t114 : Wv (13 + 4 * (a.toInt)) = z111.toInt := KN_v hK (Or.inr (Or.inl ⟨by omega, by omega, by omega⟩)) (by omega) (by omega) (by omega) (by omega) h110
              refine En_Ps 2 (pc' := 84) (lv' := [(3, .int z111), (0, .ref 0), (1, .int a), (2, .int b)]) (st' := [.ref 0]) rfl ?_
              refine En_getK (j := 9) h_p rfl rfl rfl (by decide +kernel : TG 0 = 0) (by decide +kernel) ?_
              refine En_getK (j := 4) h93 rfl rfl rfl hp (by decide +kernel) ?_
              refine En_Ps 1 (pc' := 91) (lv' := [(3, .int z111), (0, .ref 0), (1, .int a), (2, .int b)]) (st' := [.int a, .ref a94]) rfl ?_
              refine En_aald (g' := 28) (u := 0) rfl rfl ha94 (by decide +kernel) hσ0 (by omega) (lnI (by decide +kernel : LN _ = 4) (by omega)) (FTsgl (by decide +kernel)) (fun a116 h115 ha116 => ?_)
              have t117 : a116 = p + 10 + 4 * (a.toInt).toNat := DRe (d := a.toInt) (FXP_fr hP hX hF0 (by decide +kernel)) t95 h115 (by omega) (by omega)
              have t118 := lc_d (d := a.toInt) (by omega) (by omega)
              refine En_Ps 1 (pc' := 93) (lv' := [(3, .int z111), (0, .ref 0), (1, .int a), (2, .int b)]) (st' := [.int b, .ref a116]) rfl ?_
              refine En_put (j := 3) rfl rfl rfl ha116 (by decide +kernel) rfl (vI (l := (-1)) (u := 3) (by decide +kernel) rfl (by omega) (by omega)) hσ0 hF0 (by decide +kernel) (fun σ119 h120 h121 h122 h123 => ?_)
              refine En_Ps 1 (pc' := 97) (lv' := [(3, .int z111), (0, .ref 0), (1, .int a), (2, .int b)]) (st' := [.int z111]) rfl ?_
              exact En_ret (v := some (.int z111)) rfl rfl rfl ⟨h120, h121, z111, rfl, ⟨by omega, by omega, (by have l := lc_d (d := a.toInt) (by omega) (by omega); rw [cyW_y (by omega)]; exact KN_one hK (PLA_B hP) (i := 13 + 4 * a.toInt) (v := b.toInt) h122 h123 (by omega) (by omega) ⟨by omega, by omega⟩ rfl (by omega) (Or.inr (Or.inl ⟨by omega, by omega, by omega⟩)))⟩⟩
            · refine En_Ps 1 (pc' := 69) (lv' := [(0, .ref 0), (1, .int a), (2, .int b)]) (st' := [.int (((Int8.ofInt (-5)).toInt32))]) rfl ?_
              refine En_top (by decide : ((Int8.ofInt (-5)).toInt32).toInt = -5) (fun z124 h125 => ?_)
              exact En_ret (v := some (.int z124)) rfl rfl rfl ⟨hσ0, hF0, z124, rfl, ⟨by omega, by omega, (by rw [cyW_n (by omega)]; exact ⟨hK, OUT_0⟩)⟩⟩
        · have h126 := Imp_m h69.2.2.2.2.1 (by omega)
          refine En_Ps 1 (pc' := 34) (lv' := [(0, .ref 0), (1, .int a), (2, .int b)]) (st' := [.int (((Int8.ofInt (-2)).toInt32))]) rfl ?_
          refine En_top (by decide : ((Int8.ofInt (-2)).toInt32).toInt = -2) (fun z127 h128 => ?_)
          exact En_ret (v := some (.int z127)) rfl rfl rfl ⟨hσ0, hF0, z127, rfl, ⟨by omega, by omega, (by rw [cyW_n (by omega)]; exact ⟨hK, OUT_0⟩)⟩⟩

/-- DoorSchool.deeds(I)I -/
abbrev P_112x (σ0 : SG) (Wv : Int → Int) (a : Int32) (p : Nat) (sg : Int32) : PO := fun v σ => WT σ ∧ Fr [] σ0 σ ∧ ∃ ret : Int32, v = some (.int ret) ∧ -ret.toInt - 2 ≤ 0 ∧ ret.toInt - 65535 ≤ 0 ∧ ret.toInt = dsR Wv a.toInt
set_option maxRecDepth 10000 in
set_option maxHeartbeats 4000000 in
theorem c_112x {Wv : Int → Int} (σ0 : SG) (hσ0 : WT σ0) (a : Int32) (p : Nat) (hp : TG p = 18) (h_p : (σ0 0)[9]? = some (.ref p)) (sg : Int32) (h_sg : (σ0 p)[1]? = some (.int sg)) (hp0 : -sg.toInt ≤ 0) (hP : PLA p) (hX : FXP σ0 p) (hK : KN σ0 p Wv (act Wv)) (hB : WFw Wv) (hT : TWN Wv) (hQ : 0 < Wv 7 → RULx σ0 (Wv 0)) (hq : QX Wv) : En 4 92 none mr_112 (P_112x σ0 Wv a p sg) 0 [(0, .ref 0), (1, .int a)] [] σ0 := by
  obtain ⟨hl_sg, hu_sg⟩ := WT_int hσ0 (g := 18) hp (by decide +kernel) (l := (-1)) (u := 4) (by decide +kernel) h_sg
  have hF0 : Fr [] σ0 σ0 := Fr_rfl
  have t1 : Wv (0) = sg.toInt := KN_v hK (Or.inl (by decide)) (by omega) (by omega) (by rw [lcO_lt (by decide) (by decide), Nat.add_zero]) rfl h_sg
  obtain ⟨z3, h2, h4, h5⟩ := WT_peekI hσ0 hp (by decide +kernel : FT 18 3 = (0, 0, 4)) (by decide +kernel)
  have t6 : Wv (2) = z3.toInt := KN_v hK (Or.inl (by decide)) (by omega) (by omega) (by rw [lcO_lt (by decide) (by decide), Nat.add_zero]) rfl h2
  have h7 := hB.2.2.1
  refine En_Ps 1 (pc' := 1) (lv' := [(0, .ref 0), (1, .int a)]) (st' := [.ref 0]) rfl ?_
  refine En_getK (j := 9) h_p rfl rfl rfl (by decide +kernel : TG 0 = 0) (by decide +kernel) ?_
  refine En_Ps 1 (pc' := 5) (lv' := [(0, .ref 0), (1, .int a)]) (st' := [.int a, .ref p]) rfl ?_
  refine En_callV rfl rfl rfl rfl rfl rfl rfl rfl hp (by decide +kernel) rfl (c_47x σ0 hσ0 p hp a z3 h2) (by decide) (by decide) (fun v9 σ10 h8 => ?_)
  obtain ⟨h11, h12, z14, rfl, h13⟩ := h8
  obtain rfl : σ0 = σ10 := Fr_nil h12
  have h15 := Imp_m h13.2.2.1
  have h16 := Imp_m h13.2.2.2.1
  have h17 := Imp_m h13.2.2.2.2.1
  have h18 := Imp_m h13.2.2.2.2.2
  refine En_iEq _ rfl rfl (fun h19 => ?_) (fun h19 => ?_)
  · have h20 := Imp_m h13.2.2.2.2.1 (by omega)
    refine En_Ps 1 (pc' := 21) (lv' := [(0, .ref 0), (1, .int a)]) (st' := [.int (((Int8.ofInt (-2)).toInt32))]) rfl ?_
    refine En_top (by decide : ((Int8.ofInt (-2)).toInt32).toInt = -2) (fun z21 h22 => ?_)
    exact En_ret (v := some (.int z21)) rfl rfl rfl ⟨hσ0, hF0, z21, rfl, ⟨by omega, by omega, dsR_n (by omega) (by omega)⟩⟩
  · have h23 := Imp_m h13.2.2.1 (by omega)
    have h24 := Imp_m h13.2.2.2.1 (by omega)
    have h25 := Imp_m h13.2.2.2.2.2 (by omega)
    refine En_Ps 2 (pc' := 13) (lv' := [(0, .ref 0), (1, .int a)]) (st' := [.int a, .ref 0]) rfl ?_
    refine En_callV rfl rfl rfl rfl rfl rfl rfl rfl (by decide +kernel : TG 0 = 0) (by decide +kernel) rfl (c_114x σ0 hσ0 a (geI rfl (by omega)) (leI rfl (by omega)) p hp h_p sg h_sg (by omega) hP (FXP_fr hP hX hF0 (by decide +kernel)) hK hB hT (by omega) (hQ (hq (by omega)))) (by decide) (by decide) (fun v27 σ28 h26 => ?_)
    obtain ⟨h29, h30, z32, rfl, h31⟩ := h26
    have h33 := h31.2.2
    obtain rfl : σ0 = σ28 := Fr_nil h30
    refine En_Ps 1 (pc' := 21) (lv' := [(0, .ref 0), (1, .int a)]) (st' := [.int z32]) rfl ?_
    exact En_ret (v := some (.int z32)) rfl rfl rfl ⟨hσ0, hF0, z32, rfl, ⟨by omega, by omega, dsR_y (by omega) (by omega) h33⟩⟩
/-- DoorSchool.does(II)I -/
abbrev P_113x (σ0 : SG) (Wv : Int → Int) (a : Int32) (b : Int32) (p : Nat) (sg : Int32) : PO := fun v σ => WT σ ∧ Fr [] σ0 σ ∧ ∃ ret : Int32, v = some (.int ret) ∧ -ret.toInt - 2 ≤ 0 ∧ ret.toInt - 65535 ≤ 0 ∧ ret.toInt = dfR Wv a.toInt b.toInt
set_option maxRecDepth 10000 in
set_option maxHeartbeats 4000000 in
theorem c_113x {Wv : Int → Int} (σ0 : SG) (hσ0 : WT σ0) (a : Int32) (b : Int32) (p : Nat) (hp : TG p = 18) (h_p : (σ0 0)[9]? = some (.ref p)) (sg : Int32) (h_sg : (σ0 p)[1]? = some (.int sg)) (hp0 : -sg.toInt ≤ 0) (hP : PLA p) (hX : FXP σ0 p) (hK : KN σ0 p Wv (act Wv)) (hB : WFw Wv) (hT : TWN Wv) (hQ : 0 < Wv 7 → RULx σ0 (Wv 0)) (hq : QX Wv) : En 3 63 none mr_113 (P_113x σ0 Wv a b p sg) 0 [(0, .ref 0), (1, .int a), (2, .int b)] [] σ0 := by
  obtain ⟨hl_sg, hu_sg⟩ := WT_int hσ0 (g := 18) hp (by decide +kernel) (l := (-1)) (u := 4) (by decide +kernel) h_sg
  have hF0 : Fr [] σ0 σ0 := Fr_rfl
  have t1 : Wv (0) = sg.toInt := KN_v hK (Or.inl (by decide)) (by omega) (by omega) (by rw [lcO_lt (by decide) (by decide), Nat.add_zero]) rfl h_sg
  obtain ⟨z3, h2, h4, h5⟩ := WT_peekI hσ0 hp (by decide +kernel : FT 18 3 = (0, 0, 4)) (by decide +kernel)
  have t6 : Wv (2) = z3.toInt := KN_v hK (Or.inl (by decide)) (by omega) (by omega) (by rw [lcO_lt (by decide) (by decide), Nat.add_zero]) rfl h2
  have h7 := hB.2.2.1
  have h8 := hB.1
  have h9 := hB.2.1
  refine En_Ps 1 (pc' := 1) (lv' := [(0, .ref 0), (1, .int a), (2, .int b)]) (st' := [.ref 0]) rfl ?_
  refine En_getK (j := 9) h_p rfl rfl rfl (by decide +kernel : TG 0 = 0) (by decide +kernel) ?_
  refine En_Ps 2 (pc' := 6) (lv' := [(0, .ref 0), (1, .int a), (2, .int b)]) (st' := [.int b, .int a, .ref p]) rfl ?_
  obtain ⟨z11, h10, h12, h13⟩ := WT_peekI hσ0 hp (by decide +kernel : FT 18 0 = (0, 0, 1601)) (by decide +kernel)
  have t14 : Wv (7) = z11.toInt := KN_v hK (Or.inl (by decide)) (by omega) (by omega) (by rw [lcO_lt (by decide) (by decide), Nat.add_zero]) rfl h10
  refine En_callV rfl rfl rfl rfl rfl rfl rfl rfl hp (by decide +kernel) rfl (c_50x σ0 hσ0 p hp a b z11 h10 sg h_sg (by omega)) (by decide) (by decide) (fun v16 σ17 h15 => ?_)
  obtain ⟨h18, h19, z21, rfl, h20⟩ := h15
  have h22 := h20.2.2.2
  obtain rfl : σ0 = σ17 := Fr_nil h19
  have h23 := h22
  have h24 : pI (Wv 0) = pI (sg.toInt) := by rw [t1]
  refine En_iEq _ rfl rfl (fun h25 => ?_) (fun h25 => ?_)
  · refine En_Ps 1 (pc' := 26) (lv' := [(0, .ref 0), (1, .int a), (2, .int b)]) (st' := [.int (((Int8.ofInt (-2)).toInt32))]) rfl ?_
    refine En_top (by decide : ((Int8.ofInt (-2)).toInt32).toInt = -2) (fun z26 h27 => ?_)
    exact En_ret (v := some (.int z26)) rfl rfl rfl ⟨hσ0, hF0, z26, rfl, ⟨by omega, by omega, dfR_n (fun ⟨q1, q2, q3, q4, q5, q6⟩ => by omega) (by omega)⟩⟩
  · have h28 := Imp_m h20.2.2.1 (by omega)
    have h29 := pI_rng (s := Wv 0) (by omega) (by omega)
    have h30 : 0 ≤ a.toInt ∧ a.toInt ≤ 15 := by omega
    have h31 : 0 ≤ b.toInt ∧ b.toInt ≤ 15 := by omega
    obtain ⟨z33, h32, h34, h35⟩ := WT_peekI hσ0 (by decide +kernel : TG 4 = 4) (by decide +kernel : FT 4 0 = (0, 0, 16)) (by decide +kernel)
    have h36 : z33.toInt = pI (Wv 0) := (ci_at (j := 0) h32 rfl).symm.trans (hQ (by omega)).1
    refine En_Ps 1 (pc' := 13) (lv' := [(0, .ref 0), (1, .int a), (2, .int b)]) (st' := [.ref 0]) rfl ?_
    refine En_getU (j := 2) (u := 4) (g' := 4) (q := 0) rfl rfl rfl (by decide +kernel : TG 0 = 0) (by decide +kernel) hσ0 (by decide +kernel) (by decide +kernel) (fun h37 => ?_)
    refine En_Ps 2 (pc' := 18) (lv' := [(0, .ref 0), (1, .int a), (2, .int b)]) (st' := [.int b, .int a, .ref 4]) rfl ?_
    refine En_callV rfl rfl rfl rfl rfl rfl rfl rfl (by decide +kernel : TG 4 = 4) (by decide +kernel) rfl (c_77ax σ0 hσ0 a b (geI rfl (by omega)) (leI rfl (by omega)) z33 h32) (by decide) (by decide) (fun v40 σ41 h39 => ?_)
    obtain ⟨h42, h43, z45, rfl, h44⟩ := h39
    have h46 := h44.2.2
    obtain rfl : σ0 = σ41 := Fr_nil h43
    refine En_Ps 1 (pc' := 26) (lv' := [(0, .ref 0), (1, .int a), (2, .int b)]) (st' := [.int z45]) rfl ?_
    exact En_ret (v := some (.int z45)) rfl rfl rfl ⟨hσ0, hF0, z45, rfl, ⟨by omega, by omega, dfR_y ⟨by omega, by omega, by omega, by omega, by omega, by omega⟩ h36 h46⟩⟩
/-- DoorSchool.door(II)I -/
abbrev P_116x (σ0 : SG) (Wv : Int → Int) (a : Int32) (b : Int32) (p : Nat) (sg : Int32) : PO := fun v σ => WT σ ∧ Fr [] σ0 σ ∧ ∃ ret : Int32, v = some (.int ret) ∧ -ret.toInt - 2 ≤ 0 ∧ ret.toInt - 50 ≤ 0 ∧ ret.toInt = doR Wv a.toInt b.toInt
set_option maxRecDepth 10000 in
set_option maxHeartbeats 4000000 in
theorem c_116x {Wv : Int → Int} (σ0 : SG) (hσ0 : WT σ0) (a : Int32) (b : Int32) (p : Nat) (hp : TG p = 18) (h_p : (σ0 0)[9]? = some (.ref p)) (sg : Int32) (h_sg : (σ0 p)[1]? = some (.int sg)) (hp0 : -sg.toInt ≤ 0) (hP : PLA p) (hX : FXP σ0 p) (hK : KN σ0 p Wv (act Wv)) : En 1 21 none mr_116 (P_116x σ0 Wv a b p sg) 0 [(0, .ref 0), (1, .int a), (2, .int b)] [] σ0 := by
  obtain ⟨hl_sg, hu_sg⟩ := WT_int hσ0 (g := 18) hp (by decide +kernel) (l := (-1)) (u := 4) (by decide +kernel) h_sg
  have hF0 : Fr [] σ0 σ0 := Fr_rfl
  have t1 : Wv (0) = sg.toInt := KN_v hK (Or.inl (by decide)) (by omega) (by omega) (by rw [lcO_lt (by decide) (by decide), Nat.add_zero]) rfl h_sg
  refine En_Ps 1 (pc' := 1) (lv' := [(0, .ref 0), (1, .int a), (2, .int b)]) (st' := [.ref 0]) rfl ?_
  refine En_getK (j := 9) h_p rfl rfl rfl (by decide +kernel : TG 0 = 0) (by decide +kernel) ?_
  refine En_Ps 1 (pc' := 5) (lv' := [(0, .ref 0), (1, .int a), (2, .int b)]) (st' := [.int a, .ref p]) rfl ?_
  obtain ⟨z3, h2, h4, h5⟩ := WT_peekI hσ0 hp (by decide +kernel : FT 18 3 = (0, 0, 4)) (by decide +kernel)
  have t6 : Wv (2) = z3.toInt := KN_v hK (Or.inl (by decide)) (by omega) (by omega) (by rw [lcO_lt (by decide) (by decide), Nat.add_zero]) rfl h2
  refine En_callV rfl rfl rfl rfl rfl rfl rfl rfl hp (by decide +kernel) rfl (c_47x σ0 hσ0 p hp a z3 h2) (by decide) (by decide) (fun v8 σ9 h7 => ?_)
  obtain ⟨h10, h11, z13, rfl, h12⟩ := h7
  obtain rfl : σ0 = σ9 := Fr_nil h11
  have h14 := Imp_m h12.2.2.1
  have h15 := Imp_m h12.2.2.2.1
  have h16 := Imp_m h12.2.2.2.2.1
  have h17 := Imp_m h12.2.2.2.2.2
  refine En_iNe _ rfl rfl (fun h18 => ?_) (fun h18 => ?_)
  · have h19 := Imp_m h12.2.2.1 (by omega)
    have h20 := Imp_m h12.2.2.2.1 (by omega)
    have h21 := Imp_m h12.2.2.2.2.2 (by omega)
    refine En_Ps 1 (pc' := 15) (lv' := [(0, .ref 0), (1, .int a), (2, .int b)]) (st' := [.ref 0]) rfl ?_
    refine En_getK (j := 9) h_p rfl rfl rfl (by decide +kernel : TG 0 = 0) (by decide +kernel) ?_
    refine En_getR (j := 4) (g' := 19) (u := 0) rfl rfl rfl hp (by decide +kernel) hσ0 (by decide +kernel) (fun a23 h22 ha23 => ?_)
    have t24 : a23 = p + 1 := ref_uniq h22 (FXP_fr hP hX hF0 (by decide +kernel)).1
    refine En_Ps 1 (pc' := 22) (lv' := [(0, .ref 0), (1, .int a), (2, .int b)]) (st' := [.int a, .ref a23]) rfl ?_
    refine En_aald (g' := 28) (u := 0) rfl rfl ha23 (by decide +kernel) hσ0 (by omega) (lnI (by decide +kernel : LN _ = 4) (by omega)) (FTsgl (by decide +kernel)) (fun a26 h25 ha26 => ?_)
    have t27 : a26 = p + 10 + 4 * (a.toInt).toNat := DRe (d := a.toInt) (FXP_fr hP hX hF0 (by decide +kernel)) t24 h25 (by omega) (by omega)
    have t28 := lc_d (d := a.toInt) (by omega) (by omega)
    refine En_Ps 2 (pc' := 25) (lv' := [(3, .ref a26), (0, .ref 0), (1, .int a), (2, .int b)]) (st' := [.int b]) rfl ?_
    rcases (show b.toInt = 0 ∨ b.toInt = 1 ∨ b.toInt = 2 ∨ b.toInt = 3 ∨ b.toInt < 0 ∨ 3 < b.toInt by omega) with h29 | h29 | h29 | h29 | h29 | h29
    · refine En_swI (t := 56) (n := 0) rfl h29 rfl (by decide +kernel) ?_
      refine En_Ps 1 (pc' := 57) (lv' := [(3, .ref a26), (0, .ref 0), (1, .int a), (2, .int b)]) (st' := [.ref a26]) rfl ?_
      refine En_getI (j := 1) (l := 0) (u := 2) rfl rfl rfl ha26 (by decide +kernel) hσ0 (by decide +kernel) (fun z31 h30 h32 h33 => ?_)
      have t34 : Wv (10 + 4 * (a.toInt)) = z31.toInt := KN_v hK (Or.inr (Or.inl ⟨by omega, by omega, by omega⟩)) (by omega) (by omega) (by omega) (by omega) h30
      exact En_ret (v := some (.int z31)) rfl rfl rfl ⟨hσ0, hF0, z31, rfl, ⟨by omega, by omega, (by have e := doR_y (w := Wv) (d := a.toInt) (q := b.toInt) (by omega) (by omega) t34; omega)⟩⟩
    · refine En_swI (t := 61) (n := 1) rfl h29 rfl (by decide +kernel) ?_
      refine En_Ps 1 (pc' := 62) (lv' := [(3, .ref a26), (0, .ref 0), (1, .int a), (2, .int b)]) (st' := [.ref a26]) rfl ?_
      refine En_getI (j := 2) (l := 0) (u := 50) rfl rfl rfl ha26 (by decide +kernel) hσ0 (by decide +kernel) (fun z36 h35 h37 h38 => ?_)
      have t39 : Wv (11 + 4 * (a.toInt)) = z36.toInt := KN_v hK (Or.inr (Or.inl ⟨by omega, by omega, by omega⟩)) (by omega) (by omega) (by omega) (by omega) h35
      exact En_ret (v := some (.int z36)) rfl rfl rfl ⟨hσ0, hF0, z36, rfl, ⟨by omega, by omega, (by have e := doR_y (w := Wv) (d := a.toInt) (q := b.toInt) (by omega) (by omega) t39; omega)⟩⟩
    · refine En_swI (t := 66) (n := 2) rfl h29 rfl (by decide +kernel) ?_
      refine En_Ps 1 (pc' := 67) (lv' := [(3, .ref a26), (0, .ref 0), (1, .int a), (2, .int b)]) (st' := [.ref a26]) rfl ?_
      refine En_getR (j := 0) (g' := 20) (u := 0) rfl rfl rfl ha26 (by decide +kernel) hσ0 (by decide +kernel) (fun a41 h40 ha41 => ?_)
      have t42 : a41 = p + 11 + 4 * (a.toInt).toNat := DLc (d := a.toInt) (FXP_fr hP hX hF0 (by decide +kernel)) t27 h40 (by omega) (by omega)
      refine En_getI (j := 2) (l := 0) (u := 13) rfl rfl rfl ha41 (by decide +kernel) hσ0 (by decide +kernel) (fun z44 h43 h45 h46 => ?_)
      have t47 : Wv (12 + 4 * (a.toInt)) = z44.toInt := KN_v hK (Or.inr (Or.inl ⟨by omega, by omega, by omega⟩)) (by omega) (by omega) (by omega) (by omega) h43
      exact En_ret (v := some (.int z44)) rfl rfl rfl ⟨hσ0, hF0, z44, rfl, ⟨by omega, by omega, (by have e := doR_y (w := Wv) (d := a.toInt) (q := b.toInt) (by omega) (by omega) t47; omega)⟩⟩
    · refine En_swI (t := 74) (n := 3) rfl h29 rfl (by decide +kernel) ?_
      refine En_Ps 1 (pc' := 75) (lv' := [(3, .ref a26), (0, .ref 0), (1, .int a), (2, .int b)]) (st' := [.ref a26]) rfl ?_
      refine En_getI (j := 3) (l := (-1)) (u := 3) rfl rfl rfl ha26 (by decide +kernel) hσ0 (by decide +kernel) (fun z49 h48 h50 h51 => ?_)
      have t52 : Wv (13 + 4 * (a.toInt)) = z49.toInt := KN_v hK (Or.inr (Or.inl ⟨by omega, by omega, by omega⟩)) (by omega) (by omega) (by omega) (by omega) h48
      exact En_ret (v := some (.int z49)) rfl rfl rfl ⟨hσ0, hF0, z49, rfl, ⟨by omega, by omega, (by have e := doR_y (w := Wv) (d := a.toInt) (q := b.toInt) (by omega) (by omega) t52; omega)⟩⟩
    · refine En_swO (t := 79) rfl (by omega) rfl (by decide +kernel) ?_
      refine En_Ps 1 (pc' := 81) (lv' := [(3, .ref a26), (0, .ref 0), (1, .int a), (2, .int b)]) (st' := [.int (((Int8.ofInt (-2)).toInt32))]) rfl ?_
      refine En_top (by decide : ((Int8.ofInt (-2)).toInt32).toInt = -2) (fun z53 h54 => ?_)
      exact En_ret (v := some (.int z53)) rfl rfl rfl ⟨hσ0, hF0, z53, rfl, ⟨by omega, by omega, (by have e := doR_n (w := Wv) (d := a.toInt) (q := b.toInt) (by omega); omega)⟩⟩
    · refine En_swO (t := 79) rfl (by omega) rfl (by decide +kernel) ?_
      refine En_Ps 1 (pc' := 81) (lv' := [(3, .ref a26), (0, .ref 0), (1, .int a), (2, .int b)]) (st' := [.int (((Int8.ofInt (-2)).toInt32))]) rfl ?_
      refine En_top (by decide : ((Int8.ofInt (-2)).toInt32).toInt = -2) (fun z55 h56 => ?_)
      exact En_ret (v := some (.int z55)) rfl rfl rfl ⟨hσ0, hF0, z55, rfl, ⟨by omega, by omega, (by have e := doR_n (w := Wv) (d := a.toInt) (q := b.toInt) (by omega); omega)⟩⟩
  · have h57 := Imp_m h12.2.2.2.2.1 (by omega)
    refine En_Ps 1 (pc' := 13) (lv' := [(0, .ref 0), (1, .int a), (2, .int b)]) (st' := [.int (((Int8.ofInt (-2)).toInt32))]) rfl ?_
    refine En_top (by decide : ((Int8.ofInt (-2)).toInt32).toInt = -2) (fun z58 h59 => ?_)
    exact En_ret (v := some (.int z58)) rfl rfl rfl ⟨hσ0, hF0, z58, rfl, ⟨by omega, by omega, (by have e := doR_n (w := Wv) (d := a.toInt) (q := b.toInt) (by omega); omega)⟩⟩
/-- DoorSchool.end(I)I -/
abbrev P_118x (σ0 : SG) (a : Int32) (p : Nat) (sg : Int32) (m : Int32) : PO := fun v σ => WT σ ∧ Fr [(1, 1)] σ0 σ ∧ ∃ m1 : Int32, (σ 1)[1]? = some (.int m1) ∧ ∃ ret : Int32, v = some (.int ret) ∧ -ret.toInt - 1 ≤ 0 ∧ ret.toInt - 1600 ≤ 0 ∧ -m1.toInt ≤ 0 ∧ m1.toInt - 1600 ≤ 0 ∧ -m1.toInt + sg.toInt - 4 ≤ 0 ∧ m1.toInt - sg.toInt - 1600 ≤ 0 ∧ -m1.toInt + m.toInt - 1600 ≤ 0 ∧ m1.toInt - m.toInt ≤ 0 ∧ Imp (-a.toInt ≤ 0 ∧ a.toInt - m.toInt ≤ 0) (m1.toInt - a.toInt ≤ 0 ∧ -m1.toInt + a.toInt ≤ 0 ∧ ret.toInt - a.toInt ≤ 0 ∧ -ret.toInt + a.toInt ≤ 0) ∧ Imp (a.toInt + 1 ≤ 0) (m1.toInt - m.toInt ≤ 0 ∧ -m1.toInt + m.toInt ≤ 0 ∧ ret.toInt + 1 ≤ 0 ∧ -ret.toInt - 1 ≤ 0) ∧ Imp (m.toInt - a.toInt + 1 ≤ 0) (m1.toInt - m.toInt ≤ 0 ∧ -m1.toInt + m.toInt ≤ 0 ∧ ret.toInt + 1 ≤ 0 ∧ -ret.toInt - 1 ≤ 0)
set_option maxRecDepth 10000 in
set_option maxHeartbeats 4000000 in
theorem c_118x (σ0 : SG) (hσ0 : WT σ0) (a : Int32) (p : Nat) (hp : TG p = 18) (h_p : (σ0 0)[9]? = some (.ref p)) (sg : Int32) (h_sg : (σ0 p)[1]? = some (.int sg)) (m : Int32) (h_m : (σ0 1)[1]? = some (.int m)) (hp0 : -sg.toInt ≤ 0) : En 0 0 none mr_118 (P_118x σ0 a p sg m) 0 [(0, .ref 0), (1, .int a)] [] σ0 := by
  obtain ⟨hl_sg, hu_sg⟩ := WT_int hσ0 (g := 18) hp (by decide +kernel) (l := (-1)) (u := 4) (by decide +kernel) h_sg
  obtain ⟨hl_m, hu_m⟩ := WT_int hσ0 (g := 1) (by decide +kernel) (by decide +kernel) (l := 0) (u := 1600) (by decide +kernel) h_m
  have hF0 : Fr [(1, 1)] σ0 σ0 := Fr_rfl
  refine En_Ps 1 (pc' := 1) (lv' := [(0, .ref 0), (1, .int a)]) (st' := [.int a]) rfl ?_
  refine En_iLt _ rfl rfl (fun h1 => ?_) (fun h1 => ?_)
  · refine En_Ps 1 (pc' := 16) (lv' := [(0, .ref 0), (1, .int a)]) (st' := [.int ((Int32.ofInt (-1)))]) rfl ?_
    refine En_top (by decide : (Int32.ofInt (-1)).toInt = -1) (fun z2 h3 => ?_)
    exact En_ret (v := some (.int z2)) rfl rfl rfl ⟨hσ0, hF0, m, h_m, z2, rfl, ⟨by omega, by omega, by omega, by omega, by omega, by omega, by omega, by omega, fun _ => by omega, fun _ => by omega, fun _ => by omega⟩⟩
  · refine En_Ps 2 (pc' := 6) (lv' := [(0, .ref 0), (1, .int a)]) (st' := [.ref 0, .int a]) rfl ?_
    refine En_getU (j := 0) (u := 1) (g' := 1) (q := 0) rfl rfl rfl (by decide +kernel : TG 0 = 0) (by decide +kernel) hσ0 (by decide +kernel) (by decide +kernel) (fun h4 => ?_)
    refine En_getK (j := 1) h_m rfl rfl rfl (by decide +kernel : TG 1 = 1) (by decide +kernel) ?_
    refine En_icLe _ rfl rfl rfl (fun h6 => ?_) (fun h6 => ?_)
    · refine En_Ps 1 (pc' := 18) (lv' := [(0, .ref 0), (1, .int a)]) (st' := [.ref 0]) rfl ?_
      refine En_getK (j := 0) h4 rfl rfl rfl (by decide +kernel : TG 0 = 0) (by decide +kernel) ?_
      refine En_Ps 1 (pc' := 22) (lv' := [(0, .ref 0), (1, .int a)]) (st' := [.int a, .ref 1]) rfl ?_
      refine En_put (j := 1) rfl rfl rfl (by decide +kernel : TG 1 = 1) (by decide +kernel) rfl (vI (l := 0) (u := 1600) (by decide +kernel) rfl (by omega) (by omega)) hσ0 hF0 (by decide +kernel) (fun σ7 h8 h9 h10 h11 => ?_)
      refine En_Ps 1 (pc' := 26) (lv' := [(0, .ref 0), (1, .int a)]) (st' := [.int a]) rfl ?_
      exact En_ret (v := some (.int a)) rfl rfl rfl ⟨h8, h9, a, h10, a, rfl, ⟨by omega, by omega, by omega, by omega, by omega, by omega, by omega, by omega, fun _ => by omega, fun _ => by omega, fun _ => by omega⟩⟩
    · refine En_Ps 1 (pc' := 16) (lv' := [(0, .ref 0), (1, .int a)]) (st' := [.int ((Int32.ofInt (-1)))]) rfl ?_
      refine En_top (by decide : (Int32.ofInt (-1)).toInt = -1) (fun z12 h13 => ?_)
      exact En_ret (v := some (.int z12)) rfl rfl rfl ⟨hσ0, hF0, m, h_m, z12, rfl, ⟨by omega, by omega, by omega, by omega, by omega, by omega, by omega, by omega, fun _ => by omega, fun _ => by omega, fun _ => by omega⟩⟩
/-- DoorSchool.isZeroOrOne(I)Z -/
abbrev P_149x (σ0 : SG) (a : Int32) : PO := fun v σ => WT σ ∧ Fr [] σ0 σ ∧ ∃ ret : Int32, v = some (.int ret) ∧ -ret.toInt ≤ 0 ∧ ret.toInt - 1 ≤ 0 ∧ Imp (ret.toInt - 1 ≤ 0 ∧ -ret.toInt + 1 ≤ 0) (-a.toInt ≤ 0 ∧ a.toInt - 1 ≤ 0) ∧ ((ret.toInt = 1 ∧ (a.toInt = 0 ∨ a.toInt = 1)) ∨ (ret.toInt = 0 ∧ a.toInt ≠ 0 ∧ a.toInt ≠ 1))
set_option maxRecDepth 10000 in
set_option maxHeartbeats 4000000 in
theorem c_149x (σ0 : SG) (hσ0 : WT σ0) (a : Int32) : En 0 0 none mr_149 (P_149x σ0 a) 0 [(0, .int a)] [] σ0 := by
  have hF0 : Fr [] σ0 σ0 := Fr_rfl
  refine En_Ps 1 (pc' := 1) (lv' := [(0, .int a)]) (st' := [.int a]) rfl ?_
  refine En_iEq _ rfl rfl (fun h1 => ?_) (fun h1 => ?_)
  · refine En_Ps 2 (pc' := 14) (lv' := [(0, .int a)]) (st' := [.int ((Int32.ofInt 1))]) rfl ?_
    refine En_top (by decide : (Int32.ofInt 1).toInt = 1) (fun z2 h3 => ?_)
    exact En_ret (v := some (.int z2)) rfl rfl (retZ rfl rfl (by omega) (by omega)) ⟨hσ0, hF0, z2, rfl, ⟨by omega, by omega, fun _ => by omega, (by omega)⟩⟩
  · refine En_Ps 2 (pc' := 6) (lv' := [(0, .int a)]) (st' := [.int ((Int32.ofInt 1)), .int a]) rfl ?_
    refine En_icNe _ rfl (by decide : (Int32.ofInt 1).toInt = 1) rfl (fun h4 => ?_) (fun h4 => ?_)
    · refine En_Ps 1 (pc' := 14) (lv' := [(0, .int a)]) (st' := [.int ((Int32.ofInt 0))]) rfl ?_
      refine En_top (by decide : (Int32.ofInt 0).toInt = 0) (fun z5 h6 => ?_)
      exact En_ret (v := some (.int z5)) rfl rfl (retZ rfl rfl (by omega) (by omega)) ⟨hσ0, hF0, z5, rfl, ⟨by omega, by omega, fun _ => by omega, (by omega)⟩⟩
    · refine En_Ps 2 (pc' := 14) (lv' := [(0, .int a)]) (st' := [.int ((Int32.ofInt 1))]) rfl ?_
      refine En_top (by decide : (Int32.ofInt 1).toInt = 1) (fun z7 h8 => ?_)
      exact En_ret (v := some (.int z7)) rfl rfl (retZ rfl rfl (by omega) (by omega)) ⟨hσ0, hF0, z7, rfl, ⟨by omega, by omega, fun _ => by omega, (by omega)⟩⟩
/-- DoorSchool.exam(II)I -/
abbrev P_120x (σ0 : SG) (Wv : Int → Int) (a : Int32) (b : Int32) (p : Nat) (sg : Int32) : PO := fun v σ => WT σ ∧ Fr [] σ0 σ ∧ ∃ ret : Int32, v = some (.int ret) ∧ -ret.toInt - 2 ≤ 0 ∧ ret.toInt - 15 ≤ 0 ∧ ret.toInt = exR Wv a.toInt b.toInt
set_option maxRecDepth 10000 in
set_option maxHeartbeats 4000000 in
theorem c_120x {Wv : Int → Int} (σ0 : SG) (hσ0 : WT σ0) (a : Int32) (b : Int32) (p : Nat) (hp : TG p = 18) (h_p : (σ0 0)[9]? = some (.ref p)) (sg : Int32) (h_sg : (σ0 p)[1]? = some (.int sg)) (hp0 : -sg.toInt ≤ 0) (hP : PLA p) (hX : FXP σ0 p) (hK : KN σ0 p Wv (act Wv)) (hB : WFw Wv) : En 1 20 none mr_120 (P_120x σ0 Wv a b p sg) 0 [(0, .ref 0), (1, .int a), (2, .int b)] [] σ0 := by
  obtain ⟨hl_sg, hu_sg⟩ := WT_int hσ0 (g := 18) hp (by decide +kernel) (l := (-1)) (u := 4) (by decide +kernel) h_sg
  have hF0 : Fr [] σ0 σ0 := Fr_rfl
  have t1 : Wv (0) = sg.toInt := KN_v hK (Or.inl (by decide)) (by omega) (by omega) (by rw [lcO_lt (by decide) (by decide), Nat.add_zero]) rfl h_sg
  have h2 := hB.2.2.2.1
  refine En_Ps 1 (pc' := 1) (lv' := [(0, .ref 0), (1, .int a), (2, .int b)]) (st' := [.int a]) rfl ?_
  refine En_iLt _ rfl rfl (fun h3 => ?_) (fun h3 => ?_)
  · refine En_Ps 1 (pc' := 27) (lv' := [(0, .ref 0), (1, .int a), (2, .int b)]) (st' := [.int (((Int8.ofInt (-2)).toInt32))]) rfl ?_
    refine En_top (by decide : ((Int8.ofInt (-2)).toInt32).toInt = -2) (fun z4 h5 => ?_)
    exact En_ret (v := some (.int z4)) rfl rfl rfl ⟨hσ0, hF0, z4, rfl, ⟨by omega, by omega, (by have e := exR_n (w := Wv) (d := a.toInt) (q := b.toInt) (by omega); omega)⟩⟩
  · refine En_Ps 2 (pc' := 6) (lv' := [(0, .ref 0), (1, .int a), (2, .int b)]) (st' := [.ref 0, .int a]) rfl ?_
    refine En_getK (j := 9) h_p rfl rfl rfl (by decide +kernel : TG 0 = 0) (by decide +kernel) ?_
    refine En_getR (j := 5) (g' := 20) (u := 0) rfl rfl rfl hp (by decide +kernel) hσ0 (by decide +kernel) (fun a7 h6 ha7 => ?_)
    have t8 : a7 = p + 2 := ref_uniq h6 (FXP_fr hP hX hF0 (by decide +kernel)).2.1
    refine En_getI (j := 2) (l := 0) (u := 13) rfl rfl rfl ha7 (by decide +kernel) hσ0 (by decide +kernel) (fun z10 h9 h11 h12 => ?_)
    have t13 : Wv (3) = z10.toInt := KN_v hK (Or.inl (by decide)) (by omega) (by omega) (by rw [lcO_3]; omega) (by decide) h9
    refine En_icGe _ rfl rfl rfl (fun h14 => ?_) (fun h14 => ?_)
    · refine En_Ps 1 (pc' := 27) (lv' := [(0, .ref 0), (1, .int a), (2, .int b)]) (st' := [.int (((Int8.ofInt (-2)).toInt32))]) rfl ?_
      refine En_top (by decide : ((Int8.ofInt (-2)).toInt32).toInt = -2) (fun z15 h16 => ?_)
      exact En_ret (v := some (.int z15)) rfl rfl rfl ⟨hσ0, hF0, z15, rfl, ⟨by omega, by omega, (by have e := exR_n (w := Wv) (d := a.toInt) (q := b.toInt) (by omega); omega)⟩⟩
    · refine En_Ps 1 (pc' := 19) (lv' := [(0, .ref 0), (1, .int a), (2, .int b)]) (st' := [.int b]) rfl ?_
      refine En_callS rfl rfl rfl rfl rfl rfl rfl rfl rfl (c_149x σ0 hσ0 b) (by decide) (by decide) (fun v18 σ19 h17 => ?_)
      obtain ⟨h20, h21, z23, rfl, h22⟩ := h17
      have h24 := h22.2.2.2
      obtain rfl : σ0 = σ19 := Fr_nil h21
      have h25 := Imp_m h22.2.2.1
      refine En_iNe _ rfl rfl (fun h26 => ?_) (fun h26 => ?_)
      · have h27 := Imp_m h22.2.2.1 (by omega)
        refine En_Ps 1 (pc' := 29) (lv' := [(0, .ref 0), (1, .int a), (2, .int b)]) (st' := [.int b]) rfl ?_
        refine En_iNe _ rfl rfl (fun h28 => ?_) (fun h28 => ?_)
        · refine En_Ps 1 (pc' := 48) (lv' := [(0, .ref 0), (1, .int a), (2, .int b)]) (st' := [.ref 0]) rfl ?_
          refine En_getK (j := 9) h_p rfl rfl rfl (by decide +kernel : TG 0 = 0) (by decide +kernel) ?_
          refine En_getK (j := 5) h6 rfl rfl rfl hp (by decide +kernel) ?_
          refine En_getR (j := 1) (g' := 22) (u := 0) rfl rfl rfl ha7 (by decide +kernel) hσ0 (by decide +kernel) (fun a30 h29 ha30 => ?_)
          have t31 : a30 = p + 4 := EKo (FXP_fr hP hX hF0 (by decide +kernel)) t8 h29
          refine En_Ps 1 (pc' := 58) (lv' := [(0, .ref 0), (1, .int a), (2, .int b)]) (st' := [.int a, .ref a30]) rfl ?_
          refine En_iald (l := 0) (u := 1) rfl rfl ha30 (by decide +kernel) hσ0 (by omega) (lnI (by decide +kernel : LN _ = 13) (by omega)) (FTsgl (by decide +kernel)) (fun z33 h32 h34 h35 => ?_)
          have t36 := lc_e (m := a.toInt) (by omega) (by omega)
          have t37 : Wv (122 + 2 * (a.toInt) + 1) = z33.toInt := KN_v hK (Or.inr (Or.inr (Or.inr (Or.inl ⟨by omega, by omega, by omega⟩)))) (by omega) (by omega) (by omega) (by omega) h32
          exact En_ret (v := some (.int z33)) rfl rfl rfl ⟨hσ0, hF0, z33, rfl, ⟨by omega, by omega, (by have e := exR_y (w := Wv) (d := a.toInt) (q := b.toInt) (by omega) (by omega) t37; omega)⟩⟩
        · refine En_Ps 1 (pc' := 33) (lv' := [(0, .ref 0), (1, .int a), (2, .int b)]) (st' := [.ref 0]) rfl ?_
          refine En_getK (j := 9) h_p rfl rfl rfl (by decide +kernel : TG 0 = 0) (by decide +kernel) ?_
          refine En_getK (j := 5) h6 rfl rfl rfl hp (by decide +kernel) ?_
          refine En_getR (j := 0) (g' := 21) (u := 0) rfl rfl rfl ha7 (by decide +kernel) hσ0 (by decide +kernel) (fun a39 h38 ha39 => ?_)
          have t40 : a39 = p + 3 := EKk (FXP_fr hP hX hF0 (by decide +kernel)) t8 h38
          refine En_Ps 1 (pc' := 43) (lv' := [(0, .ref 0), (1, .int a), (2, .int b)]) (st' := [.int a, .ref a39]) rfl ?_
          refine En_iald (l := 0) (u := 15) rfl rfl ha39 (by decide +kernel) hσ0 (by omega) (lnI (by decide +kernel : LN _ = 13) (by omega)) (FTsgl (by decide +kernel)) (fun z42 h41 h43 h44 => ?_)
          have t45 := lc_e (m := a.toInt) (by omega) (by omega)
          have t46 : Wv (122 + 2 * (a.toInt)) = z42.toInt := KN_v hK (Or.inr (Or.inr (Or.inr (Or.inl ⟨by omega, by omega, by omega⟩)))) (by omega) (by omega) (by omega) (by omega) h41
          refine En_Ps 1 (pc' := 59) (lv' := [(0, .ref 0), (1, .int a), (2, .int b)]) (st' := [.int z42]) rfl ?_
          exact En_ret (v := some (.int z42)) rfl rfl rfl ⟨hσ0, hF0, z42, rfl, ⟨by omega, by omega, (by have e := exR_y (w := Wv) (d := a.toInt) (q := b.toInt) (by omega) (by omega) t46; omega)⟩⟩
      · refine En_Ps 1 (pc' := 27) (lv' := [(0, .ref 0), (1, .int a), (2, .int b)]) (st' := [.int (((Int8.ofInt (-2)).toInt32))]) rfl ?_
        refine En_top (by decide : ((Int8.ofInt (-2)).toInt32).toInt = -2) (fun z47 h48 => ?_)
        exact En_ret (v := some (.int z47)) rfl rfl rfl ⟨hσ0, hF0, z47, rfl, ⟨by omega, by omega, (by have e := exR_n (w := Wv) (d := a.toInt) (q := b.toInt) (by omega); omega)⟩⟩
/-- DoorSchool.fault(I)I -/
abbrev P_121x (σ0 : SG) (a : Int32) (p : Nat) (sg : Int32) (fk : Int32) (fp : Int32) : PO := fun v σ => WT σ ∧ Fr [] σ0 σ ∧ ∃ ret : Int32, v = some (.int ret) ∧ -ret.toInt - 1 ≤ 0 ∧ ret.toInt - 1600 ≤ 0 ∧ Imp (a.toInt ≤ 0 ∧ -a.toInt ≤ 0) (ret.toInt - fk.toInt ≤ 0 ∧ -ret.toInt + fk.toInt ≤ 0) ∧ Imp (a.toInt - 1 ≤ 0 ∧ -a.toInt + 1 ≤ 0) (ret.toInt - fp.toInt ≤ 0 ∧ -ret.toInt + fp.toInt ≤ 0) ∧ Imp (a.toInt + 1 ≤ 0) (ret.toInt + 1 ≤ 0 ∧ -ret.toInt - 1 ≤ 0) ∧ Imp (-a.toInt + 2 ≤ 0) (ret.toInt + 1 ≤ 0 ∧ -ret.toInt - 1 ≤ 0)
set_option maxRecDepth 10000 in
set_option maxHeartbeats 4000000 in
theorem c_121x (σ0 : SG) (hσ0 : WT σ0) (a : Int32) (p : Nat) (hp : TG p = 18) (h_p : (σ0 0)[9]? = some (.ref p)) (sg : Int32) (h_sg : (σ0 p)[1]? = some (.int sg)) (fk : Int32) (h_fk : (σ0 3)[5]? = some (.int fk)) (fp : Int32) (h_fp : (σ0 3)[6]? = some (.int fp)) (hp0 : -sg.toInt ≤ 0) : En 0 0 none mr_121 (P_121x σ0 a p sg fk fp) 0 [(0, .ref 0), (1, .int a)] [] σ0 := by
  obtain ⟨hl_sg, hu_sg⟩ := WT_int hσ0 (g := 18) hp (by decide +kernel) (l := (-1)) (u := 4) (by decide +kernel) h_sg
  obtain ⟨hl_fk, hu_fk⟩ := WT_int hσ0 (g := 3) (by decide +kernel) (by decide +kernel) (l := 0) (u := 3) (by decide +kernel) h_fk
  obtain ⟨hl_fp, hu_fp⟩ := WT_int hσ0 (g := 3) (by decide +kernel) (by decide +kernel) (l := (-1)) (u := 1600) (by decide +kernel) h_fp
  have hF0 : Fr [] σ0 σ0 := Fr_rfl
  refine En_Ps 1 (pc' := 1) (lv' := [(0, .ref 0), (1, .int a)]) (st' := [.int a]) rfl ?_
  refine En_iNe _ rfl rfl (fun h1 => ?_) (fun h1 => ?_)
  · refine En_Ps 2 (pc' := 14) (lv' := [(0, .ref 0), (1, .int a)]) (st' := [.int ((Int32.ofInt 1)), .int a]) rfl ?_
    refine En_icNe _ rfl (by decide : (Int32.ofInt 1).toInt = 1) rfl (fun h2 => ?_) (fun h2 => ?_)
    · refine En_Ps 1 (pc' := 28) (lv' := [(0, .ref 0), (1, .int a)]) (st' := [.int ((Int32.ofInt (-1)))]) rfl ?_
      refine En_top (by decide : (Int32.ofInt (-1)).toInt = -1) (fun z3 h4 => ?_)
      exact En_ret (v := some (.int z3)) rfl rfl rfl ⟨hσ0, hF0, z3, rfl, ⟨by omega, by omega, fun _ => by omega, fun _ => by omega, fun _ => by omega, fun _ => by omega⟩⟩
    · refine En_Ps 1 (pc' := 18) (lv' := [(0, .ref 0), (1, .int a)]) (st' := [.ref 0]) rfl ?_
      refine En_getU (j := 1) (u := 3) (g' := 3) (q := 0) rfl rfl rfl (by decide +kernel : TG 0 = 0) (by decide +kernel) hσ0 (by decide +kernel) (by decide +kernel) (fun h5 => ?_)
      refine En_getK (j := 6) h_fp rfl rfl rfl (by decide +kernel : TG 3 = 3) (by decide +kernel) ?_
      refine En_Ps 1 (pc' := 28) (lv' := [(0, .ref 0), (1, .int a)]) (st' := [.int fp]) rfl ?_
      exact En_ret (v := some (.int fp)) rfl rfl rfl ⟨hσ0, hF0, fp, rfl, ⟨by omega, by omega, fun _ => by omega, fun _ => by omega, fun _ => by omega, fun _ => by omega⟩⟩
  · refine En_Ps 1 (pc' := 5) (lv' := [(0, .ref 0), (1, .int a)]) (st' := [.ref 0]) rfl ?_
    refine En_getU (j := 1) (u := 3) (g' := 3) (q := 0) rfl rfl rfl (by decide +kernel : TG 0 = 0) (by decide +kernel) hσ0 (by decide +kernel) (by decide +kernel) (fun h7 => ?_)
    refine En_getK (j := 5) h_fk rfl rfl rfl (by decide +kernel : TG 3 = 3) (by decide +kernel) ?_
    exact En_ret (v := some (.int fk)) rfl rfl rfl ⟨hσ0, hF0, fk, rfl, ⟨by omega, by omega, fun _ => by omega, fun _ => by omega, fun _ => by omega, fun _ => by omega⟩⟩
/-- DoorSchool.feed(IIIII)I -/
abbrev P_122x (σ0 : SG) (a : Int32) (b : Int32) (c : Int32) (d : Int32) (e : Int32) (p : Nat) (sg : Int32) (m : Int32) : PO := fun v σ => WT σ ∧ Fr [(1, 1), (2, 0)] σ0 σ ∧ ∃ m1 : Int32, (σ 1)[1]? = some (.int m1) ∧ ∃ ret : Int32, v = some (.int ret) ∧ -ret.toInt - 1 ≤ 0 ∧ ret.toInt - 1600 ≤ 0 ∧ -m1.toInt + 20 ≤ 0 ∧ m1.toInt - 1600 ≤ 0 ∧ -m1.toInt + sg.toInt + 16 ≤ 0 ∧ m1.toInt - sg.toInt - 1600 ≤ 0 ∧ -m1.toInt + m.toInt ≤ 0 ∧ m1.toInt - m.toInt - 20 ≤ 0 ∧ Imp (m.toInt - 1580 ≤ 0) (m1.toInt - m.toInt - 20 ≤ 0 ∧ -m1.toInt + m.toInt + 20 ≤ 0 ∧ ret.toInt - m1.toInt ≤ 0 ∧ -ret.toInt + m1.toInt ≤ 0) ∧ Imp (-m.toInt + 1581 ≤ 0) (m1.toInt - m.toInt ≤ 0 ∧ -m1.toInt + m.toInt ≤ 0 ∧ ret.toInt + 1 ≤ 0 ∧ -ret.toInt - 1 ≤ 0) ∧ ((m.toInt ≤ 1580 → FDP σ0 σ 2 m.toInt 20 a b c d e) ∧ (1580 < m.toInt → ∀ i : Int, ci σ 2 i = ci σ0 2 i))
set_option maxRecDepth 10000 in
set_option maxHeartbeats 4000000 in
theorem c_122x (σ0 : SG) (hσ0 : WT σ0) (a : Int32) (b : Int32) (c : Int32) (d : Int32) (e : Int32) (p : Nat) (hp : TG p = 18) (h_p : (σ0 0)[9]? = some (.ref p)) (sg : Int32) (h_sg : (σ0 p)[1]? = some (.int sg)) (m : Int32) (h_m : (σ0 1)[1]? = some (.int m)) (hp0 : -sg.toInt ≤ 0) : En 1 22 none mr_122 (P_122x σ0 a b c d e p sg m) 0 [(0, .ref 0), (1, .int a), (2, .int b), (3, .int c), (4, .int d), (5, .int e)] [] σ0 := by
  obtain ⟨hl_sg, hu_sg⟩ := WT_int hσ0 (g := 18) hp (by decide +kernel) (l := (-1)) (u := 4) (by decide +kernel) h_sg
  obtain ⟨hl_m, hu_m⟩ := WT_int hσ0 (g := 1) (by decide +kernel) (by decide +kernel) (l := 0) (u := 1600) (by decide +kernel) h_m
  have hF0 : Fr [(1, 1), (2, 0)] σ0 σ0 := Fr_rfl
  refine En_Ps 1 (pc' := 1) (lv' := [(0, .ref 0), (1, .int a), (2, .int b), (3, .int c), (4, .int d), (5, .int e)]) (st' := [.ref 0]) rfl ?_
  refine En_getU (j := 0) (u := 1) (g' := 1) (q := 0) rfl rfl rfl (by decide +kernel : TG 0 = 0) (by decide +kernel) hσ0 (by decide +kernel) (by decide +kernel) (fun h1 => ?_)
  refine En_getK (j := 1) h_m rfl rfl rfl (by decide +kernel : TG 1 = 1) (by decide +kernel) ?_
  refine En_Ps 2 (pc' := 10) (lv' := [(0, .ref 0), (1, .int a), (2, .int b), (3, .int c), (4, .int d), (5, .int e)]) (st' := [.int ((m + (((Int8.ofInt 20).toInt32))))]) rfl ?_
  refine En_top (addI rfl (by decide : ((Int8.ofInt 20).toInt32).toInt = 20) (by omega) (by omega)) (fun z3 h4 => ?_)
  refine En_Ps 1 (pc' := 13) (lv' := [(0, .ref 0), (1, .int a), (2, .int b), (3, .int c), (4, .int d), (5, .int e)]) (st' := [.int (((Int16.ofInt 1600).toInt32)), .int z3]) rfl ?_
  refine En_icLe _ rfl (by decide : ((Int16.ofInt 1600).toInt32).toInt = 1600) rfl (fun h5 => ?_) (fun h5 => ?_)
  · refine En_Ps 1 (pc' := 19) (lv' := [(0, .ref 0), (1, .int a), (2, .int b), (3, .int c), (4, .int d), (5, .int e)]) (st' := [.ref 0]) rfl ?_
    refine En_getK (j := 0) h1 rfl rfl rfl (by decide +kernel : TG 0 = 0) (by decide +kernel) ?_
    refine En_Ps 1 (pc' := 23) (lv' := [(0, .ref 0), (1, .int a), (2, .int b), (3, .int c), (4, .int d), (5, .int e)]) (st' := [.int a, .ref 1]) rfl ?_
    refine En_callV rfl rfl rfl rfl rfl rfl rfl rfl (by decide +kernel : TG 1 = 1) (by decide +kernel) rfl (c_90x σ0 hσ0 a m h_m) (by decide) (by decide) (fun v7 σ8 h6 => ?_)
    obtain ⟨h9, h10, z12, h13, rfl, h11⟩ := h6
    have h14 := h11.2.2.2.2.2
    have h15 := Fr_trans hF0 h10 (by decide +kernel)
    have h16 := Imp_m h11.2.2.2.2.1 (by omega)
    refine En_Ps 1 (pc' := 27) (lv' := [(0, .ref 0), (1, .int a), (2, .int b), (3, .int c), (4, .int d), (5, .int e)]) (st' := [.ref 0]) rfl ?_
    refine En_getK (j := 0) ((h10 _ _ (inW (by decide +kernel : TG 0 = 0) (by decide +kernel))).trans h1) rfl rfl rfl (by decide +kernel : TG 0 = 0) (by decide +kernel) ?_
    refine En_Ps 1 (pc' := 31) (lv' := [(0, .ref 0), (1, .int a), (2, .int b), (3, .int c), (4, .int d), (5, .int e)]) (st' := [.int b, .ref 1]) rfl ?_
    refine En_callV rfl rfl rfl rfl rfl rfl rfl rfl (by decide +kernel : TG 1 = 1) (by decide +kernel) rfl (c_90x σ8 h9 b z12 h13) (by decide) (by decide) (fun v18 σ19 h17 => ?_)
    obtain ⟨h20, h21, z23, h24, rfl, h22⟩ := h17
    have h25 := h22.2.2.2.2.2
    have h26 := Fr_trans h15 h21 (by decide +kernel)
    have h27 := Imp_m h22.2.2.2.2.1 (by omega)
    refine En_Ps 1 (pc' := 35) (lv' := [(0, .ref 0), (1, .int a), (2, .int b), (3, .int c), (4, .int d), (5, .int e)]) (st' := [.ref 0]) rfl ?_
    refine En_getK (j := 0) ((h21 _ _ (inW (by decide +kernel : TG 0 = 0) (by decide +kernel))).trans ((h10 _ _ (inW (by decide +kernel : TG 0 = 0) (by decide +kernel))).trans h1)) rfl rfl rfl (by decide +kernel : TG 0 = 0) (by decide +kernel) ?_
    refine En_Ps 1 (pc' := 39) (lv' := [(0, .ref 0), (1, .int a), (2, .int b), (3, .int c), (4, .int d), (5, .int e)]) (st' := [.int c, .ref 1]) rfl ?_
    refine En_callV rfl rfl rfl rfl rfl rfl rfl rfl (by decide +kernel : TG 1 = 1) (by decide +kernel) rfl (c_90x σ19 h20 c z23 h24) (by decide) (by decide) (fun v29 σ30 h28 => ?_)
    obtain ⟨h31, h32, z34, h35, rfl, h33⟩ := h28
    have h36 := h33.2.2.2.2.2
    have h37 := Fr_trans h26 h32 (by decide +kernel)
    have h38 := Imp_m h33.2.2.2.2.1 (by omega)
    refine En_Ps 1 (pc' := 43) (lv' := [(0, .ref 0), (1, .int a), (2, .int b), (3, .int c), (4, .int d), (5, .int e)]) (st' := [.ref 0]) rfl ?_
    refine En_getK (j := 0) ((h32 _ _ (inW (by decide +kernel : TG 0 = 0) (by decide +kernel))).trans ((h21 _ _ (inW (by decide +kernel : TG 0 = 0) (by decide +kernel))).trans ((h10 _ _ (inW (by decide +kernel : TG 0 = 0) (by decide +kernel))).trans h1))) rfl rfl rfl (by decide +kernel : TG 0 = 0) (by decide +kernel) ?_
    refine En_Ps 1 (pc' := 48) (lv' := [(0, .ref 0), (1, .int a), (2, .int b), (3, .int c), (4, .int d), (5, .int e)]) (st' := [.int d, .ref 1]) rfl ?_
    refine En_callV rfl rfl rfl rfl rfl rfl rfl rfl (by decide +kernel : TG 1 = 1) (by decide +kernel) rfl (c_90x σ30 h31 d z34 h35) (by decide) (by decide) (fun v40 σ41 h39 => ?_)
    obtain ⟨h42, h43, z45, h46, rfl, h44⟩ := h39
    have h47 := h44.2.2.2.2.2
    have h48 := Fr_trans h37 h43 (by decide +kernel)
    have h49 := Imp_m h44.2.2.2.2.1 (by omega)
    refine En_Ps 1 (pc' := 52) (lv' := [(0, .ref 0), (1, .int a), (2, .int b), (3, .int c), (4, .int d), (5, .int e)]) (st' := [.ref 0]) rfl ?_
    refine En_getK (j := 0) ((h43 _ _ (inW (by decide +kernel : TG 0 = 0) (by decide +kernel))).trans ((h32 _ _ (inW (by decide +kernel : TG 0 = 0) (by decide +kernel))).trans ((h21 _ _ (inW (by decide +kernel : TG 0 = 0) (by decide +kernel))).trans ((h10 _ _ (inW (by decide +kernel : TG 0 = 0) (by decide +kernel))).trans h1)))) rfl rfl rfl (by decide +kernel : TG 0 = 0) (by decide +kernel) ?_
    refine En_Ps 1 (pc' := 57) (lv' := [(0, .ref 0), (1, .int a), (2, .int b), (3, .int c), (4, .int d), (5, .int e)]) (st' := [.int e, .ref 1]) rfl ?_
    refine En_callV rfl rfl rfl rfl rfl rfl rfl rfl (by decide +kernel : TG 1 = 1) (by decide +kernel) rfl (c_90x σ41 h42 e z45 h46) (by decide) (by decide) (fun v51 σ52 h50 => ?_)
    obtain ⟨h53, h54, z56, h57, rfl, h55⟩ := h50
    have h58 := h55.2.2.2.2.2
    have h59 := Fr_trans h48 h54 (by decide +kernel)
    have h60 := Imp_m h55.2.2.2.2.1 (by omega)
    refine En_Ps 1 (pc' := 61) (lv' := [(0, .ref 0), (1, .int a), (2, .int b), (3, .int c), (4, .int d), (5, .int e)]) (st' := [.ref 0]) rfl ?_
    refine En_getK (j := 0) ((h54 _ _ (inW (by decide +kernel : TG 0 = 0) (by decide +kernel))).trans ((h43 _ _ (inW (by decide +kernel : TG 0 = 0) (by decide +kernel))).trans ((h32 _ _ (inW (by decide +kernel : TG 0 = 0) (by decide +kernel))).trans ((h21 _ _ (inW (by decide +kernel : TG 0 = 0) (by decide +kernel))).trans ((h10 _ _ (inW (by decide +kernel : TG 0 = 0) (by decide +kernel))).trans h1))))) rfl rfl rfl (by decide +kernel : TG 0 = 0) (by decide +kernel) ?_
    refine En_getK (j := 1) h57 rfl rfl rfl (by decide +kernel : TG 1 = 1) (by decide +kernel) ?_
    exact En_ret (v := some (.int z56)) rfl rfl rfl ⟨h53, h59, z56, h57, z56, rfl, ⟨by omega, by omega, by omega, by omega, by omega, by omega, by omega, by omega, fun _ => by omega, fun _ => by omega, ⟨fun _ => FDP_5 (by omega) (APB_d h14 (by omega) (by omega)) (APB_d h25 (by omega) (by omega)) (APB_d h36 (by omega) (by omega)) (APB_d h47 (by omega) (by omega)) (APB_d h58 (by omega) (by omega)), fun h => absurd h (by omega)⟩⟩⟩
  · refine En_Ps 1 (pc' := 17) (lv' := [(0, .ref 0), (1, .int a), (2, .int b), (3, .int c), (4, .int d), (5, .int e)]) (st' := [.int ((Int32.ofInt (-1)))]) rfl ?_
    refine En_top (by decide : (Int32.ofInt (-1)).toInt = -1) (fun z61 h62 => ?_)
    exact En_ret (v := some (.int z61)) rfl rfl rfl ⟨hσ0, hF0, m, h_m, z61, rfl, ⟨by omega, by omega, by omega, by omega, by omega, by omega, by omega, by omega, fun _ => by omega, fun _ => by omega, ⟨fun h => absurd h (by omega), fun _ _ => rfl⟩⟩⟩
/-- DoorSchool.foolingAfter(II)I -/
abbrev P_127x (σ0 : SG) (Wv : Int → Int) (a : Int32) (b : Int32) (p : Nat) (sg : Int32) : PO := fun v σ => WT σ ∧ Fr [(20, 2), (21, 0), (22, 0)] σ0 σ ∧ ∃ ret : Int32, v = some (.int ret) ∧ -ret.toInt ≤ 0 ∧ ret.toInt - 63 ≤ 0 ∧ (KN σ p Wv (act Wv) ∧ OUT σ0 σ p)
set_option maxRecDepth 10000 in
set_option maxHeartbeats 4000000 in
theorem c_127x {Wv : Int → Int} (σ0 : SG) (hσ0 : WT σ0) (a : Int32) (b : Int32) (hl_a : 0 ≤ a.toInt) (hu_a : a.toInt ≤ 3) (hl_b : 0 ≤ b.toInt) (hu_b : b.toInt ≤ 15) (p : Nat) (hp : TG p = 18) (h_p : (σ0 0)[9]? = some (.ref p)) (sg : Int32) (h_sg : (σ0 p)[1]? = some (.int sg)) (hp0 : -sg.toInt ≤ 0) (hP : PLA p) (hX : FXP σ0 p) (hK : KN σ0 p Wv (act Wv)) (hB : WFw Wv) (ha : a.toInt < Wv 2) : En 4 92 none mr_127 (P_127x σ0 Wv a b p sg) 0 [(0, .ref 0), (1, .int a), (2, .int b)] [] σ0 := by
  obtain ⟨hl_sg, hu_sg⟩ := WT_int hσ0 (g := 18) hp (by decide +kernel) (l := (-1)) (u := 4) (by decide +kernel) h_sg
  have hF0 : Fr [(20, 2), (21, 0), (22, 0)] σ0 σ0 := Fr_rfl
  have t1 : Wv (0) = sg.toInt := KN_v hK (Or.inl (by decide)) (by omega) (by omega) (by rw [lcO_lt (by decide) (by decide), Nat.add_zero]) rfl h_sg
  obtain ⟨z3, h2, h4, h5⟩ := WT_peekI hσ0 hp (by decide +kernel : FT 18 3 = (0, 0, 4)) (by decide +kernel)
  have t6 : Wv (2) = z3.toInt := KN_v hK (Or.inl (by decide)) (by omega) (by omega) (by rw [lcO_lt (by decide) (by decide), Nat.add_zero]) rfl h2
  refine En_Ps 1 (pc' := 1) (lv' := [(0, .ref 0), (1, .int a), (2, .int b)]) (st' := [.ref 0]) rfl ?_
  refine En_getK (j := 9) h_p rfl rfl rfl (by decide +kernel : TG 0 = 0) (by decide +kernel) ?_
  refine En_getR (j := 4) (g' := 19) (u := 0) rfl rfl rfl hp (by decide +kernel) hσ0 (by decide +kernel) (fun a8 h7 ha8 => ?_)
  have t9 : a8 = p + 1 := ref_uniq h7 (FXP_fr hP hX hF0 (by decide +kernel)).1
  refine En_Ps 1 (pc' := 8) (lv' := [(0, .ref 0), (1, .int a), (2, .int b)]) (st' := [.int a, .ref a8]) rfl ?_
  refine En_aald (g' := 28) (u := 0) rfl rfl ha8 (by decide +kernel) hσ0 (by omega) (lnI (by decide +kernel : LN _ = 4) (by omega)) (FTsgl (by decide +kernel)) (fun a11 h10 ha11 => ?_)
  have t12 : a11 = p + 10 + 4 * (a.toInt).toNat := DRe (d := a.toInt) (FXP_fr hP hX hF0 (by decide +kernel)) t9 h10 (by omega) (by omega)
  have t13 := lc_d (d := a.toInt) (by omega) (by omega)
  refine En_getR (j := 0) (g' := 20) (u := 0) rfl rfl rfl ha11 (by decide +kernel) hσ0 (by decide +kernel) (fun a15 h14 ha15 => ?_)
  have t16 : a15 = p + 11 + 4 * (a.toInt).toNat := DLc (d := a.toInt) (FXP_fr hP hX hF0 (by decide +kernel)) t12 h14 (by omega) (by omega)
  obtain ⟨a18, h17, ha18⟩ := WT_peekR (g := 20) (j := 0) (g' := 21) (u := 0) hσ0 ha15 (by decide +kernel) (by decide +kernel)
  have t19 : a18 = p + 12 + 4 * (a.toInt).toNat := DKk (d := a.toInt) (FXP_fr hP hX hF0 (by decide +kernel)) t16 h17 (by omega) (by omega)
  obtain ⟨a21, h20, ha21⟩ := WT_peekR (g := 20) (j := 1) (g' := 22) (u := 0) hσ0 ha15 (by decide +kernel) (by decide +kernel)
  have t22 : a21 = p + 13 + 4 * (a.toInt).toNat := DKo (d := a.toInt) (FXP_fr hP hX hF0 (by decide +kernel)) t16 h20 (by omega) (by omega)
  obtain ⟨z24, h23, h25, h26⟩ := WT_peekI hσ0 ha15 (by decide +kernel : FT 20 2 = (0, 0, 13)) (by decide +kernel)
  have t27 : Wv (12 + 4 * (a.toInt)) = z24.toInt := KN_v hK (Or.inr (Or.inl ⟨by omega, by omega, by omega⟩)) (by omega) (by omega) (by omega) (by omega) h23
  have h28 := hB.2.2.2.2.2.2 a.toInt (by omega) (by omega)
  have : z24.toInt ≤ 12 := by omega
  refine En_Ps 4 (pc' := 16) (lv' := [(3, .ref a15), (0, .ref 0), (1, .int a), (2, .int b)]) (st' := [.ref 0, .int b, .ref a15]) rfl ?_
  refine En_callV rfl rfl rfl rfl rfl rfl rfl rfl (by decide +kernel : TG 0 = 0) (by decide +kernel) rfl (c_160 σ0 hσ0 p hp h_p sg h_sg (by omega)) (by decide) (by decide) (fun v30 σ31 h29 => ?_)
  obtain ⟨h32, h33, z35, rfl, h34⟩ := h29
  obtain rfl : σ0 = σ31 := Fr_nil h33
  refine En_Ps 1 (pc' := 20) (lv' := [(3, .ref a15), (0, .ref 0), (1, .int a), (2, .int b)]) (st' := [.int b, .int z35, .int b, .ref a15]) rfl ?_
  refine En_callS rfl rfl rfl rfl rfl rfl rfl rfl rfl (c_108ax σ0 hσ0 z35 b (geI rfl (by omega)) (leI rfl (by omega)) (geI rfl (by omega)) (leI rfl (by omega))) (by decide) (by decide) (fun v37 σ38 h36 => ?_)
  obtain ⟨h39, h40, z42, rfl, h41⟩ := h36
  have h43 := h41.2.2
  obtain rfl : σ0 = σ38 := Fr_nil h40
  refine En_callV rfl rfl rfl rfl rfl rfl rfl rfl ha15 (by decide +kernel) rfl (c_31x σ0 hσ0 a15 ha15 b z42 (geI rfl (by omega)) (leI rfl (by omega)) (geI rfl (by omega)) (leI rfl (by omega)) a18 ha18 h17 a21 ha21 h20 z24 h23 (by omega)) (by decide) (by decide) (fun v45 σ46 h44 => ?_)
  obtain ⟨h47, h48, z50, h51, rfl, h49⟩ := h44
  have h52 := h49.2.2.2.2
  have h53 := Fr_trans hF0 h48 (by decide +kernel)
  refine En_Ps 2 (pc' := 28) (lv' := [(3, .ref a15), (0, .ref 0), (1, .int a), (2, .int b)]) (st' := [.int a, .ref 0]) rfl ?_
  refine En_callV rfl rfl rfl rfl rfl rfl rfl rfl (by decide +kernel : TG 0 = 0) (by decide +kernel) rfl (c_114 σ46 h47 a (geI rfl (by omega)) (leI rfl (by omega)) p hp ((h48 _ _ (inW (by decide +kernel : TG 0 = 0) (by decide +kernel))).trans h_p) sg ((h48 _ _ (inW hp (by decide +kernel))).trans h_sg) (by omega)) (by decide) (by decide) (fun v58 σ59 h57 => ?_)
  obtain ⟨h60, h61, z63, rfl, h62⟩ := h57
  obtain rfl : σ46 = σ59 := Fr_nil h61
  refine En_Ps 2 (pc' := 34) (lv' := [(4, .int z63), (3, .ref a15), (0, .ref 0), (1, .int a), (2, .int b)]) (st' := [.ref a15]) rfl ?_
  refine En_callV rfl rfl rfl rfl rfl rfl rfl rfl ha15 (by decide +kernel) rfl (c_33x σ46 h47 a15 ha15 a18 ha18 ((h48 _ _ (inW ha15 (by decide +kernel))).trans h17) a21 ha21 ((h48 _ _ (inW ha15 (by decide +kernel))).trans h20) z50 h51 (by omega)) (by decide) (by decide) (fun v65 σ66 h64 => ?_)
  obtain ⟨h67, h68, z70, h71, rfl, h69⟩ := h64
  have h72 := h69.2.2.2.2.2.2
  have h73 := Fr_trans h53 h68 (by decide +kernel)
  refine En_Ps 2 (pc' := 40) (lv' := [(4, .int z63), (3, .ref a15), (0, .ref 0), (1, .int a), (2, .int b)]) (st' := [.ref 0, .int z63]) rfl ?_
  refine En_callV rfl rfl rfl rfl rfl rfl rfl rfl (by decide +kernel : TG 0 = 0) (by decide +kernel) rfl (c_160 σ66 h67 p hp ((h68 _ _ (inW (by decide +kernel : TG 0 = 0) (by decide +kernel))).trans ((h48 _ _ (inW (by decide +kernel : TG 0 = 0) (by decide +kernel))).trans h_p)) sg ((h68 _ _ (inW hp (by decide +kernel))).trans ((h48 _ _ (inW hp (by decide +kernel))).trans h_sg)) (by omega)) (by decide) (by decide) (fun v75 σ76 h74 => ?_)
  obtain ⟨h77, h78, z80, rfl, h79⟩ := h74
  obtain rfl : σ66 = σ76 := Fr_nil h78
  refine En_Ps 2 (pc' := 45) (lv' := [(4, .int z63), (3, .ref a15), (0, .ref 0), (1, .int a), (2, .int b)]) (st' := [.int ((z80 ^^^ ((Int32.ofInt (-1))))), .int z63]) rfl ?_
  refine En_nam (fun z81 h82 => ?_)
  refine En_Ps 1 (pc' := 46) (lv' := [(4, .int z63), (3, .ref a15), (0, .ref 0), (1, .int a), (2, .int b)]) (st' := [.int ((z63 &&& z81))]) rfl ?_
  refine En_nam (fun z83 h84 => ?_)
  refine En_callS rfl rfl rfl rfl rfl rfl rfl rfl rfl (c_7bx σ66 h67 z83) (by decide) (by decide) (fun v86 σ87 h85 => ?_)
  obtain ⟨h88, h89, z91, rfl, h90⟩ := h85
  obtain rfl : σ66 = σ87 := Fr_nil h89
  exact En_ret (v := some (.int z91)) rfl rfl rfl ⟨h67, h73, z91, rfl, ⟨by omega, by omega, KN_again hK (PLA_B hP) t27 h52 (DRP_e h72 (by omega)) t16 t19 t22 (by omega) (by omega) (by omega) (by omega)⟩⟩
/-- DoorSchool.gainOf(III)I -/
abbrev P_129x (σ0 : SG) (Wv : Int → Int) (a : Int32) (b : Int32) (c : Int32) (p : Nat) (sg : Int32) : PO := fun v σ => WT σ ∧ Fr [(20, 2), (21, 0), (22, 0)] σ0 σ ∧ ∃ ret : Int32, v = some (.int ret) ∧ -ret.toInt - 63 ≤ 0 ∧ ret.toInt - 63 ≤ 0 ∧ (KN σ p Wv (act Wv) ∧ OUT σ0 σ p)
set_option maxRecDepth 10000 in
set_option maxHeartbeats 4000000 in
theorem c_129x {Wv : Int → Int} (σ0 : SG) (hσ0 : WT σ0) (a : Int32) (b : Int32) (c : Int32) (hl_a : 0 ≤ a.toInt) (hu_a : a.toInt ≤ 3) (hl_b : 0 ≤ b.toInt) (hu_b : b.toInt ≤ 15) (hl_c : 0 ≤ c.toInt) (hu_c : c.toInt ≤ 1) (p : Nat) (hp : TG p = 18) (h_p : (σ0 0)[9]? = some (.ref p)) (sg : Int32) (h_sg : (σ0 p)[1]? = some (.int sg)) (hp0 : -sg.toInt ≤ 0) (hP : PLA p) (hX : FXP σ0 p) (hK : KN σ0 p Wv (act Wv)) (hB : WFw Wv) (ha : a.toInt < Wv 2) : En 4 92 none mr_129 (P_129x σ0 Wv a b c p sg) 0 [(0, .ref 0), (1, .int a), (2, .int b), (3, .int c)] [] σ0 := by
  obtain ⟨hl_sg, hu_sg⟩ := WT_int hσ0 (g := 18) hp (by decide +kernel) (l := (-1)) (u := 4) (by decide +kernel) h_sg
  have hF0 : Fr [(20, 2), (21, 0), (22, 0)] σ0 σ0 := Fr_rfl
  have t1 : Wv (0) = sg.toInt := KN_v hK (Or.inl (by decide)) (by omega) (by omega) (by rw [lcO_lt (by decide) (by decide), Nat.add_zero]) rfl h_sg
  obtain ⟨z3, h2, h4, h5⟩ := WT_peekI hσ0 hp (by decide +kernel : FT 18 3 = (0, 0, 4)) (by decide +kernel)
  have t6 : Wv (2) = z3.toInt := KN_v hK (Or.inl (by decide)) (by omega) (by omega) (by rw [lcO_lt (by decide) (by decide), Nat.add_zero]) rfl h2
  refine En_Ps 1 (pc' := 1) (lv' := [(0, .ref 0), (1, .int a), (2, .int b), (3, .int c)]) (st' := [.ref 0]) rfl ?_
  refine En_getK (j := 9) h_p rfl rfl rfl (by decide +kernel : TG 0 = 0) (by decide +kernel) ?_
  refine En_getR (j := 4) (g' := 19) (u := 0) rfl rfl rfl hp (by decide +kernel) hσ0 (by decide +kernel) (fun a8 h7 ha8 => ?_)
  have t9 : a8 = p + 1 := ref_uniq h7 (FXP_fr hP hX hF0 (by decide +kernel)).1
  refine En_Ps 1 (pc' := 8) (lv' := [(0, .ref 0), (1, .int a), (2, .int b), (3, .int c)]) (st' := [.int a, .ref a8]) rfl ?_
  refine En_aald (g' := 28) (u := 0) rfl rfl ha8 (by decide +kernel) hσ0 (by omega) (lnI (by decide +kernel : LN _ = 4) (by omega)) (FTsgl (by decide +kernel)) (fun a11 h10 ha11 => ?_)
  have t12 : a11 = p + 10 + 4 * (a.toInt).toNat := DRe (d := a.toInt) (FXP_fr hP hX hF0 (by decide +kernel)) t9 h10 (by omega) (by omega)
  have t13 := lc_d (d := a.toInt) (by omega) (by omega)
  refine En_getR (j := 0) (g' := 20) (u := 0) rfl rfl rfl ha11 (by decide +kernel) hσ0 (by decide +kernel) (fun a15 h14 ha15 => ?_)
  have t16 : a15 = p + 11 + 4 * (a.toInt).toNat := DLc (d := a.toInt) (FXP_fr hP hX hF0 (by decide +kernel)) t12 h14 (by omega) (by omega)
  obtain ⟨a18, h17, ha18⟩ := WT_peekR (g := 20) (j := 0) (g' := 21) (u := 0) hσ0 ha15 (by decide +kernel) (by decide +kernel)
  have t19 : a18 = p + 12 + 4 * (a.toInt).toNat := DKk (d := a.toInt) (FXP_fr hP hX hF0 (by decide +kernel)) t16 h17 (by omega) (by omega)
  obtain ⟨a21, h20, ha21⟩ := WT_peekR (g := 20) (j := 1) (g' := 22) (u := 0) hσ0 ha15 (by decide +kernel) (by decide +kernel)
  have t22 : a21 = p + 13 + 4 * (a.toInt).toNat := DKo (d := a.toInt) (FXP_fr hP hX hF0 (by decide +kernel)) t16 h20 (by omega) (by omega)
  obtain ⟨z24, h23, h25, h26⟩ := WT_peekI hσ0 ha15 (by decide +kernel : FT 20 2 = (0, 0, 13)) (by decide +kernel)
  have t27 : Wv (12 + 4 * (a.toInt)) = z24.toInt := KN_v hK (Or.inr (Or.inl ⟨by omega, by omega, by omega⟩)) (by omega) (by omega) (by omega) (by omega) h23
  have h28 := hB.2.2.2.2.2.2 a.toInt (by omega) (by omega)
  have : z24.toInt ≤ 12 := by omega
  refine En_Ps 4 (pc' := 17) (lv' := [(4, .ref a15), (0, .ref 0), (1, .int a), (2, .int b), (3, .int c)]) (st' := [.int a, .ref 0, .ref 0]) rfl ?_
  refine En_callV rfl rfl rfl rfl rfl rfl rfl rfl (by decide +kernel : TG 0 = 0) (by decide +kernel) rfl (c_114 σ0 hσ0 a (geI rfl (by omega)) (leI rfl (by omega)) p hp h_p sg h_sg (by omega)) (by decide) (by decide) (fun v33 σ34 h32 => ?_)
  obtain ⟨h35, h36, z38, rfl, h37⟩ := h32
  obtain rfl : σ0 = σ34 := Fr_nil h36
  refine En_callV rfl rfl rfl rfl rfl rfl rfl rfl (by decide +kernel : TG 0 = 0) (by decide +kernel) rfl (c_156 σ0 hσ0 z38 p hp h_p sg h_sg (by omega)) (by decide) (by decide) (fun v40 σ41 h39 => ?_)
  obtain ⟨h42, h43, z45, rfl, h44⟩ := h39
  obtain rfl : σ0 = σ41 := Fr_nil h43
  refine En_Ps 4 (pc' := 29) (lv' := [(5, .int z45), (4, .ref a15), (0, .ref 0), (1, .int a), (2, .int b), (3, .int c)]) (st' := [.int c, .int b, .ref a15]) rfl ?_
  refine En_callV rfl rfl rfl rfl rfl rfl rfl rfl ha15 (by decide +kernel) rfl (c_31x σ0 hσ0 a15 ha15 b c (geI rfl (by omega)) (leI rfl (by omega)) (geI rfl (by omega)) (leI rfl (by omega)) a18 ha18 h17 a21 ha21 h20 z24 h23 (by omega)) (by decide) (by decide) (fun v47 σ48 h46 => ?_)
  obtain ⟨h49, h50, z52, h53, rfl, h51⟩ := h46
  have h54 := h51.2.2.2.2
  have h55 := Fr_trans hF0 h50 (by decide +kernel)
  refine En_Ps 3 (pc' := 35) (lv' := [(5, .int z45), (4, .ref a15), (0, .ref 0), (1, .int a), (2, .int b), (3, .int c)]) (st' := [.int a, .ref 0, .ref 0]) rfl ?_
  refine En_callV rfl rfl rfl rfl rfl rfl rfl rfl (by decide +kernel : TG 0 = 0) (by decide +kernel) rfl (c_114 σ48 h49 a (geI rfl (by omega)) (leI rfl (by omega)) p hp ((h50 _ _ (inW (by decide +kernel : TG 0 = 0) (by decide +kernel))).trans h_p) sg ((h50 _ _ (inW hp (by decide +kernel))).trans h_sg) (by omega)) (by decide) (by decide) (fun v60 σ61 h59 => ?_)
  obtain ⟨h62, h63, z65, rfl, h64⟩ := h59
  obtain rfl : σ48 = σ61 := Fr_nil h63
  refine En_callV rfl rfl rfl rfl rfl rfl rfl rfl (by decide +kernel : TG 0 = 0) (by decide +kernel) rfl (c_156 σ48 h49 z65 p hp ((h50 _ _ (inW (by decide +kernel : TG 0 = 0) (by decide +kernel))).trans h_p) sg ((h50 _ _ (inW hp (by decide +kernel))).trans h_sg) (by omega)) (by decide) (by decide) (fun v67 σ68 h66 => ?_)
  obtain ⟨h69, h70, z72, rfl, h71⟩ := h66
  obtain rfl : σ48 = σ68 := Fr_nil h70
  refine En_Ps 2 (pc' := 45) (lv' := [(6, .int z72), (5, .int z45), (4, .ref a15), (0, .ref 0), (1, .int a), (2, .int b), (3, .int c)]) (st' := [.ref a15]) rfl ?_
  refine En_callV rfl rfl rfl rfl rfl rfl rfl rfl ha15 (by decide +kernel) rfl (c_33x σ48 h49 a15 ha15 a18 ha18 ((h50 _ _ (inW ha15 (by decide +kernel))).trans h17) a21 ha21 ((h50 _ _ (inW ha15 (by decide +kernel))).trans h20) z52 h53 (by omega)) (by decide) (by decide) (fun v74 σ75 h73 => ?_)
  obtain ⟨h76, h77, z79, h80, rfl, h78⟩ := h73
  have h81 := h78.2.2.2.2.2.2
  have h82 := Fr_trans h55 h77 (by decide +kernel)
  refine En_Ps 3 (pc' := 53) (lv' := [(6, .int z72), (5, .int z45), (4, .ref a15), (0, .ref 0), (1, .int a), (2, .int b), (3, .int c)]) (st' := [.int ((z72 - z45))]) rfl ?_
  refine En_top (subI rfl rfl (by omega) (by omega)) (fun z83 h84 => ?_)
  exact En_ret (v := some (.int z83)) rfl rfl rfl ⟨h76, h82, z83, rfl, ⟨by omega, by omega, KN_again hK (PLA_B hP) t27 h54 (DRP_e h81 (by omega)) t16 t19 t22 (by omega) (by omega) (by omega) (by omega)⟩⟩
/-- DoorSchool.isLesson(III)Z -/
abbrev P_144x (σ0 : SG) (Wv : Int → Int) (a : Int32) (b : Int32) (c : Int32) (p : Nat) (sg : Int32) : PO := fun v σ => WT σ ∧ Fr [] σ0 σ ∧ ∃ ret : Int32, v = some (.int ret) ∧ -ret.toInt ≤ 0 ∧ ret.toInt - 1 ≤ 0 ∧ Imp (ret.toInt ≤ 0 ∧ -ret.toInt ≤ 0) (-a.toInt - 2147483648 ≤ 0 ∧ a.toInt - 2147483647 ≤ 0) ∧ Imp (ret.toInt - 1 ≤ 0 ∧ -ret.toInt + 1 ≤ 0) (-a.toInt ≤ 0 ∧ a.toInt - 3 ≤ 0 ∧ -b.toInt ≤ 0 ∧ b.toInt - 15 ≤ 0 ∧ -c.toInt ≤ 0 ∧ c.toInt - 1 ≤ 0) ∧ ((ret.toInt = 1 ∧ okL Wv a.toInt b.toInt c.toInt) ∨ (ret.toInt = 0 ∧ ¬ okL Wv a.toInt b.toInt c.toInt))
set_option maxRecDepth 10000 in
set_option maxHeartbeats 4000000 in
theorem c_144x {Wv : Int → Int} (σ0 : SG) (hσ0 : WT σ0) (a : Int32) (b : Int32) (c : Int32) (p : Nat) (hp : TG p = 18) (h_p : (σ0 0)[9]? = some (.ref p)) (sg : Int32) (h_sg : (σ0 p)[1]? = some (.int sg)) (hp0 : -sg.toInt ≤ 0) (hP : PLA p) (hX : FXP σ0 p) (hK : KN σ0 p Wv (act Wv)) : En 2 41 none mr_144 (P_144x σ0 Wv a b c p sg) 0 [(0, .ref 0), (1, .int a), (2, .int b), (3, .int c)] [] σ0 := by
  obtain ⟨hl_sg, hu_sg⟩ := WT_int hσ0 (g := 18) hp (by decide +kernel) (l := (-1)) (u := 4) (by decide +kernel) h_sg
  have hF0 : Fr [] σ0 σ0 := Fr_rfl
  have t1 : Wv (0) = sg.toInt := KN_v hK (Or.inl (by decide)) (by omega) (by omega) (by rw [lcO_lt (by decide) (by decide), Nat.add_zero]) rfl h_sg
  refine En_Ps 1 (pc' := 1) (lv' := [(0, .ref 0), (1, .int a), (2, .int b), (3, .int c)]) (st' := [.ref 0]) rfl ?_
  refine En_getK (j := 9) h_p rfl rfl rfl (by decide +kernel : TG 0 = 0) (by decide +kernel) ?_
  refine En_Ps 1 (pc' := 5) (lv' := [(0, .ref 0), (1, .int a), (2, .int b), (3, .int c)]) (st' := [.int a, .ref p]) rfl ?_
  obtain ⟨z3, h2, h4, h5⟩ := WT_peekI hσ0 hp (by decide +kernel : FT 18 3 = (0, 0, 4)) (by decide +kernel)
  have t6 : Wv (2) = z3.toInt := KN_v hK (Or.inl (by decide)) (by omega) (by omega) (by rw [lcO_lt (by decide) (by decide), Nat.add_zero]) rfl h2
  refine En_callV rfl rfl rfl rfl rfl rfl rfl rfl hp (by decide +kernel) rfl (c_47x σ0 hσ0 p hp a z3 h2) (by decide) (by decide) (fun v8 σ9 h7 => ?_)
  obtain ⟨h10, h11, z13, rfl, h12⟩ := h7
  obtain rfl : σ0 = σ9 := Fr_nil h11
  have h14 := Imp_m h12.2.2.1
  have h15 := Imp_m h12.2.2.2.1
  have h16 := Imp_m h12.2.2.2.2.1
  have h17 := Imp_m h12.2.2.2.2.2
  refine En_iEq _ rfl rfl (fun h18 => ?_) (fun h18 => ?_)
  · have h19 := Imp_m h12.2.2.2.2.1 (by omega)
    refine En_Ps 1 (pc' := 34) (lv' := [(0, .ref 0), (1, .int a), (2, .int b), (3, .int c)]) (st' := [.int ((Int32.ofInt 0))]) rfl ?_
    refine En_top (by decide : (Int32.ofInt 0).toInt = 0) (fun z20 h21 => ?_)
    exact En_ret (v := some (.int z20)) rfl rfl (retZ rfl rfl (by omega) (by omega)) ⟨hσ0, hF0, z20, rfl, ⟨by omega, by omega, fun _ => by omega, fun _ => by omega, Or.inr ⟨by omega, fun ⟨q1, q2, q3, q4, q5, q6, q7⟩ => by omega⟩⟩⟩
  · have h22 := Imp_m h12.2.2.1 (by omega)
    have h23 := Imp_m h12.2.2.2.1 (by omega)
    have h24 := Imp_m h12.2.2.2.2.2 (by omega)
    refine En_Ps 1 (pc' := 12) (lv' := [(0, .ref 0), (1, .int a), (2, .int b), (3, .int c)]) (st' := [.ref 0]) rfl ?_
    refine En_getK (j := 9) h_p rfl rfl rfl (by decide +kernel : TG 0 = 0) (by decide +kernel) ?_
    refine En_Ps 1 (pc' := 16) (lv' := [(0, .ref 0), (1, .int a), (2, .int b), (3, .int c)]) (st' := [.int b, .ref p]) rfl ?_
    obtain ⟨z26, h25, h27, h28⟩ := WT_peekI hσ0 hp (by decide +kernel : FT 18 0 = (0, 0, 1601)) (by decide +kernel)
    have t29 : Wv (7) = z26.toInt := KN_v hK (Or.inl (by decide)) (by omega) (by omega) (by rw [lcO_lt (by decide) (by decide), Nat.add_zero]) rfl h25
    refine En_callV rfl rfl rfl rfl rfl rfl rfl rfl hp (by decide +kernel) rfl (c_49x σ0 hσ0 p hp b z26 h25 sg h_sg (by omega)) (by decide) (by decide) (fun v31 σ32 h30 => ?_)
    obtain ⟨h33, h34, z36, rfl, h35⟩ := h30
    have h37 := h35.2.2.2
    obtain rfl : σ0 = σ32 := Fr_nil h34
    have h38 := Imp_m h35.2.2.1
    have h39 := h37
    have h40 : pI (Wv 0) = pI (sg.toInt) := by rw [t1]
    refine En_iEq _ rfl rfl (fun h41 => ?_) (fun h41 => ?_)
    · refine En_Ps 1 (pc' := 34) (lv' := [(0, .ref 0), (1, .int a), (2, .int b), (3, .int c)]) (st' := [.int ((Int32.ofInt 0))]) rfl ?_
      refine En_top (by decide : (Int32.ofInt 0).toInt = 0) (fun z42 h43 => ?_)
      exact En_ret (v := some (.int z42)) rfl rfl (retZ rfl rfl (by omega) (by omega)) ⟨hσ0, hF0, z42, rfl, ⟨by omega, by omega, fun _ => by omega, fun _ => by omega, Or.inr ⟨by omega, fun ⟨q1, q2, q3, q4, q5, q6, q7⟩ => by omega⟩⟩⟩
    · have h44 := Imp_m h35.2.2.1 (by omega)
      refine En_Ps 1 (pc' := 23) (lv' := [(0, .ref 0), (1, .int a), (2, .int b), (3, .int c)]) (st' := [.int c]) rfl ?_
      refine En_callS rfl rfl rfl rfl rfl rfl rfl rfl rfl (c_149x σ0 hσ0 c) (by decide) (by decide) (fun v46 σ47 h45 => ?_)
      obtain ⟨h48, h49, z51, rfl, h50⟩ := h45
      have h52 := h50.2.2.2
      obtain rfl : σ0 = σ47 := Fr_nil h49
      have h53 := Imp_m h50.2.2.1
      refine En_iEq _ rfl rfl (fun h54 => ?_) (fun h54 => ?_)
      · refine En_Ps 1 (pc' := 34) (lv' := [(0, .ref 0), (1, .int a), (2, .int b), (3, .int c)]) (st' := [.int ((Int32.ofInt 0))]) rfl ?_
        refine En_top (by decide : (Int32.ofInt 0).toInt = 0) (fun z55 h56 => ?_)
        exact En_ret (v := some (.int z55)) rfl rfl (retZ rfl rfl (by omega) (by omega)) ⟨hσ0, hF0, z55, rfl, ⟨by omega, by omega, fun _ => by omega, fun _ => by omega, Or.inr ⟨by omega, fun ⟨q1, q2, q3, q4, q5, q6, q7⟩ => by omega⟩⟩⟩
      · have h57 := Imp_m h50.2.2.1 (by omega)
        refine En_Ps 2 (pc' := 34) (lv' := [(0, .ref 0), (1, .int a), (2, .int b), (3, .int c)]) (st' := [.int ((Int32.ofInt 1))]) rfl ?_
        refine En_top (by decide : (Int32.ofInt 1).toInt = 1) (fun z58 h59 => ?_)
        exact En_ret (v := some (.int z58)) rfl rfl (retZ rfl rfl (by omega) (by omega)) ⟨hσ0, hF0, z58, rfl, ⟨by omega, by omega, fun _ => by omega, fun _ => by omega, Or.inl ⟨by omega, by omega, by omega, by omega, by omega, by omega, by omega, by omega⟩⟩⟩
/-- DoorSchool.gains(III)I -/
abbrev P_130x (σ0 : SG) (Wv : Int → Int) (a : Int32) (b : Int32) (c : Int32) (p : Nat) (sg : Int32) : PO := fun v σ => WT σ ∧ Fr [(20, 2), (21, 0), (22, 0)] σ0 σ ∧ ∃ ret : Int32, v = some (.int ret) ∧ -ret.toInt - 1000 ≤ 0 ∧ ret.toInt - 63 ≤ 0 ∧ (KN σ p Wv (act Wv) ∧ OUT σ0 σ p)
set_option maxRecDepth 10000 in
set_option maxHeartbeats 4000000 in
theorem c_130x {Wv : Int → Int} (σ0 : SG) (hσ0 : WT σ0) (a : Int32) (b : Int32) (c : Int32) (p : Nat) (hp : TG p = 18) (h_p : (σ0 0)[9]? = some (.ref p)) (sg : Int32) (h_sg : (σ0 p)[1]? = some (.int sg)) (hp0 : -sg.toInt ≤ 0) (hP : PLA p) (hX : FXP σ0 p) (hK : KN σ0 p Wv (act Wv)) (hB : WFw Wv) : En 5 118 none mr_130 (P_130x σ0 Wv a b c p sg) 0 [(0, .ref 0), (1, .int a), (2, .int b), (3, .int c)] [] σ0 := by
  obtain ⟨hl_sg, hu_sg⟩ := WT_int hσ0 (g := 18) hp (by decide +kernel) (l := (-1)) (u := 4) (by decide +kernel) h_sg
  have hF0 : Fr [(20, 2), (21, 0), (22, 0)] σ0 σ0 := Fr_rfl
  have t1 : Wv (0) = sg.toInt := KN_v hK (Or.inl (by decide)) (by omega) (by omega) (by rw [lcO_lt (by decide) (by decide), Nat.add_zero]) rfl h_sg
  obtain ⟨z3, h2, h4, h5⟩ := WT_peekI hσ0 hp (by decide +kernel : FT 18 3 = (0, 0, 4)) (by decide +kernel)
  have t6 : Wv (2) = z3.toInt := KN_v hK (Or.inl (by decide)) (by omega) (by omega) (by rw [lcO_lt (by decide) (by decide), Nat.add_zero]) rfl h2
  refine En_Ps 4 (pc' := 4) (lv' := [(0, .ref 0), (1, .int a), (2, .int b), (3, .int c)]) (st' := [.int c, .int b, .int a, .ref 0]) rfl ?_
  refine En_callV rfl rfl rfl rfl rfl rfl rfl rfl (by decide +kernel : TG 0 = 0) (by decide +kernel) rfl (c_144x σ0 hσ0 a b c p hp h_p sg h_sg (by omega) hP (FXP_fr hP hX hF0 (by decide +kernel)) hK) (by decide) (by decide) (fun v8 σ9 h7 => ?_)
  obtain ⟨h10, h11, z13, rfl, h12⟩ := h7
  have h14 := h12.2.2.2.2
  obtain rfl : σ0 = σ9 := Fr_nil h11
  have h15 := h14
  refine En_iEq _ rfl rfl (fun h16 => ?_) (fun h16 => ?_)
  · have h17 := Imp_m h12.2.2.1 (by omega)
    refine En_Ps 1 (pc' := 23) (lv' := [(0, .ref 0), (1, .int a), (2, .int b), (3, .int c)]) (st' := [.int (((Int16.ofInt (-1000)).toInt32))]) rfl ?_
    refine En_top (by decide : ((Int16.ofInt (-1000)).toInt32).toInt = -1000) (fun z18 h19 => ?_)
    exact En_ret (v := some (.int z18)) rfl rfl rfl ⟨hσ0, hF0, z18, rfl, ⟨by omega, by omega, ⟨hK, OUT_0⟩⟩⟩
  · have h20 := Imp_m h12.2.2.2.1 (by omega)
    have h21 : okL Wv a.toInt b.toInt c.toInt := by rcases h15 with q | q; exact q.2; exfalso; omega
    have := h21.1
    have := h21.2.1
    refine En_Ps 4 (pc' := 14) (lv' := [(0, .ref 0), (1, .int a), (2, .int b), (3, .int c)]) (st' := [.int c, .int b, .int a, .ref 0]) rfl ?_
    refine En_callV rfl rfl rfl rfl rfl rfl rfl rfl (by decide +kernel : TG 0 = 0) (by decide +kernel) rfl (c_129x σ0 hσ0 a b c (geI rfl (by omega)) (leI rfl (by omega)) (geI rfl (by omega)) (leI rfl (by omega)) (geI rfl (by omega)) (leI rfl (by omega)) p hp h_p sg h_sg (by omega) hP (FXP_fr hP hX hF0 (by decide +kernel)) hK hB (by omega)) (by decide) (by decide) (fun v23 σ24 h22 => ?_)
    obtain ⟨h25, h26, z28, rfl, h27⟩ := h22
    have h29 := h27.2.2
    have h30 := Fr_trans hF0 h26 (by decide +kernel)
    have h31 := h29.2
    refine En_Ps 1 (pc' := 23) (lv' := [(0, .ref 0), (1, .int a), (2, .int b), (3, .int c)]) (st' := [.int z28]) rfl ?_
    exact En_ret (v := some (.int z28)) rfl rfl rfl ⟨h25, h30, z28, rfl, ⟨by omega, by omega, ⟨h29.1, h31⟩⟩⟩
/-- DoorSchool.harden(I)I -/
abbrev P_135x (σ0 : SG) (Wv : Int → Int) (a : Int32) (p : Nat) (sg : Int32) : PO := fun v σ => WT σ ∧ Fr [(20, 2), (21, 0), (22, 0)] σ0 σ ∧ ∃ ret : Int32, v = some (.int ret) ∧ -ret.toInt - 2 ≤ 0 ∧ ret.toInt - 15 ≤ 0 ∧ Imp (-ret.toInt - 1 ≤ 0) (-a.toInt ≤ 0 ∧ a.toInt - 3 ≤ 0) ∧ Imp (-ret.toInt ≤ 0) (ret.toInt - 15 ≤ 0) ∧ Imp (-ret.toInt - 1 ≤ 0) (a.toInt - Wv 2 + 1 ≤ 0) ∧ (KN σ p Wv (act Wv) ∧ OUT σ0 σ p)
set_option maxRecDepth 10000 in
set_option maxHeartbeats 4000000 in
theorem c_135x {Wv : Int → Int} (σ0 : SG) (hσ0 : WT σ0) (a : Int32) (p : Nat) (hp : TG p = 18) (h_p : (σ0 0)[9]? = some (.ref p)) (sg : Int32) (h_sg : (σ0 p)[1]? = some (.int sg)) (hp0 : -sg.toInt ≤ 0) (hP : PLA p) (hX : FXP σ0 p) (hK : KN σ0 p Wv (act Wv)) (hB : WFw Wv) : En 5 116 none mr_135 (P_135x σ0 Wv a p sg) 0 [(0, .ref 0), (1, .int a)] [] σ0 := by
  obtain ⟨hl_sg, hu_sg⟩ := WT_int hσ0 (g := 18) hp (by decide +kernel) (l := (-1)) (u := 4) (by decide +kernel) h_sg
  have hF0 : Fr [(20, 2), (21, 0), (22, 0)] σ0 σ0 := Fr_rfl
  have t1 : Wv (0) = sg.toInt := KN_v hK (Or.inl (by decide)) (by omega) (by omega) (by rw [lcO_lt (by decide) (by decide), Nat.add_zero]) rfl h_sg
  obtain ⟨z3, h2, h4, h5⟩ := WT_peekI hσ0 hp (by decide +kernel : FT 18 3 = (0, 0, 4)) (by decide +kernel)
  have t6 : Wv (2) = z3.toInt := KN_v hK (Or.inl (by decide)) (by omega) (by omega) (by rw [lcO_lt (by decide) (by decide), Nat.add_zero]) rfl h2
  refine En_Ps 1 (pc' := 1) (lv' := [(0, .ref 0), (1, .int a)]) (st' := [.ref 0]) rfl ?_
  refine En_getK (j := 9) h_p rfl rfl rfl (by decide +kernel : TG 0 = 0) (by decide +kernel) ?_
  refine En_Ps 1 (pc' := 5) (lv' := [(0, .ref 0), (1, .int a)]) (st' := [.int a, .ref p]) rfl ?_
  refine En_callV rfl rfl rfl rfl rfl rfl rfl rfl hp (by decide +kernel) rfl (c_47x σ0 hσ0 p hp a z3 h2) (by decide) (by decide) (fun v8 σ9 h7 => ?_)
  obtain ⟨h10, h11, z13, rfl, h12⟩ := h7
  obtain rfl : σ0 = σ9 := Fr_nil h11
  have h14 := Imp_m h12.2.2.1
  have h15 := Imp_m h12.2.2.2.1
  have h16 := Imp_m h12.2.2.2.2.1
  have h17 := Imp_m h12.2.2.2.2.2
  refine En_iNe _ rfl rfl (fun h18 => ?_) (fun h18 => ?_)
  · have h19 := Imp_m h12.2.2.1 (by omega)
    have h20 := Imp_m h12.2.2.2.1 (by omega)
    have h21 := Imp_m h12.2.2.2.2.2 (by omega)
    refine En_Ps 4 (pc' := 18) (lv' := [(2, .int ((Int32.ofInt (-1)))), (0, .ref 0), (1, .int a)]) (st' := [.int a, .ref 0]) rfl ?_
    refine En_callV rfl rfl rfl rfl rfl rfl rfl rfl (by decide +kernel : TG 0 = 0) (by decide +kernel) rfl (c_126 σ0 hσ0 a (geI rfl (by omega)) (leI rfl (by omega)) p hp h_p sg h_sg (by omega)) (by decide) (by decide) (fun v23 σ24 h22 => ?_)
    obtain ⟨h25, h26, z28, rfl, h27⟩ := h22
    obtain rfl : σ0 = σ24 := Fr_nil h26
    refine En_callS rfl rfl rfl rfl rfl rfl rfl rfl rfl (c_7bx σ0 hσ0 z28) (by decide) (by decide) (fun v30 σ31 h29 => ?_)
    obtain ⟨h32, h33, z35, rfl, h34⟩ := h29
    obtain rfl : σ0 = σ31 := Fr_nil h33
    refine En_Ps 3 (pc' := 28) (lv' := [(4, .int ((Int32.ofInt 0))), (3, .int z35), (2, .int ((Int32.ofInt (-1)))), (0, .ref 0), (1, .int a)]) (st' := []) rfl ?_
    have key28 : ∀ (n28 : Nat) (σ39 : SG) (y36 : Int32) (y37 : Int32) (y38 : Int32), WT σ39 → Fr [(20, 2), (21, 0), (22, 0)] σ0 σ39 → (σ39 0)[9]? = some (.ref p) → (σ39 p)[1]? = some (.int sg) → (σ39 p)[3]? = some (.int z3) → (-1) ≤ y36.toInt → y36.toInt ≤ 15 → 0 ≤ y37.toInt → y37.toInt ≤ 63 → 0 ≤ y38.toInt → y38.toInt ≤ 16 → y36.toInt - y38.toInt + 1 ≤ 0 → -y38.toInt + 16 < (n28 : Int) → KN σ39 p Wv (act Wv) → OUT σ0 σ39 p → En 5 116 none mr_135 (P_135x σ0 Wv a p sg) 28 [(0, .ref 0), (1, .int a), (2, .int y36), (3, .int y37), (4, .int y38)] [] σ39 := by
      intro n28
      induction n28 with
      | zero =>
        intro σ39 y36 y37 y38 h40 h41 h42 h43 h44 h45 h46 h47 h48 h49 h50 h51 h52 h53 h54
        exfalso; omega
      | succ n28 ih28 =>
        intro σ39 y36 y37 y38 h40 h41 h42 h43 h44 h45 h46 h47 h48 h49 h50 h51 h52 h53 h54
        refine En_Ps 2 (pc' := 31) (lv' := [(0, .ref 0), (1, .int a), (2, .int y36), (3, .int y37), (4, .int y38)]) (st' := [.ref 0, .int y38]) rfl ?_
        refine En_getK (j := 9) h42 rfl rfl rfl (by decide +kernel : TG 0 = 0) (by decide +kernel) ?_
        refine En_callV rfl rfl rfl rfl rfl rfl rfl rfl hp (by decide +kernel) rfl (c_51x σ39 h40 p hp sg h43 (by omega)) (by decide) (by decide) (fun v56 σ57 h55 => ?_)
        obtain ⟨h58, h59, z61, rfl, h60⟩ := h55
        have h62 := h60.2.2
        obtain rfl : σ39 = σ57 := Fr_nil h59
        refine En_icGe _ rfl rfl rfl (fun h63 => ?_) (fun h63 => ?_)
        · refine En_Ps 1 (pc' := 68) (lv' := [(0, .ref 0), (1, .int a), (2, .int y36), (3, .int y37), (4, .int y38)]) (st' := [.int y36]) rfl ?_
          exact En_ret (v := some (.int y36)) rfl rfl rfl ⟨h40, h41, y36, rfl, ⟨by omega, by omega, fun _ => by omega, fun _ => by omega, fun _ => by omega, ⟨h53, h54⟩⟩⟩
        · refine En_Ps 3 (pc' := 44) (lv' := [(0, .ref 0), (1, .int a), (2, .int y36), (3, .int y37), (4, .int y38)]) (st' := [.int y38, .int a, .ref 0]) rfl ?_
          refine En_callV rfl rfl rfl rfl rfl rfl rfl rfl (by decide +kernel : TG 0 = 0) (by decide +kernel) rfl (c_127x σ39 h40 a y38 (geI rfl (by omega)) (leI rfl (by omega)) (geI rfl (by omega)) (leI rfl (by omega)) p hp h42 sg h43 (by omega) hP (FXP_fr hP hX h41 (by decide +kernel)) h53 hB (by omega)) (by decide) (by decide) (fun v65 σ66 h64 => ?_)
          obtain ⟨h67, h68, z70, rfl, h69⟩ := h64
          have h71 := h69.2.2
          have h72 := Fr_trans h41 h68 (by decide +kernel)
          have h73 := OUT_tr h54 h71.2
          refine En_Ps 3 (pc' := 52) (lv' := [(5, .int z70), (0, .ref 0), (1, .int a), (2, .int y36), (3, .int y37), (4, .int y38)]) (st' := [.int y37, .int z70]) rfl ?_
          refine En_icGe _ rfl rfl rfl (fun h74 => ?_) (fun h74 => ?_)
          · refine En_Ps 1 (pc' := 64) (lv' := [(4, .int ((y38 + Int32.ofInt 1))), (5, .int z70), (0, .ref 0), (1, .int a), (2, .int y36), (3, .int y37)]) (st' := []) rfl ?_
            refine En_lv1 (addI rfl (by decide : (Int32.ofInt 1).toInt = 1) (by omega) (by omega)) (fun z75 h76 => ?_)
            refine En_Ps 1 (pc' := 28) (lv' := [(4, .int z75), (5, .int z70), (0, .ref 0), (1, .int a), (2, .int y36), (3, .int y37)]) (st' := []) rfl ?_
            refine En_lv (lv := [(0, .ref 0), (1, .int a), (2, .int y36), (3, .int y37), (4, .int z75)]) ⟨rfl, rfl, rfl, rfl, rfl, trivial⟩ ?_
            exact ih28 σ66 y36 y37 z75 h67 h72 ((h68 _ _ (inW (by decide +kernel : TG 0 = 0) (by decide +kernel))).trans h42) ((h68 _ _ (inW hp (by decide +kernel))).trans h43) ((h68 _ _ (inW hp (by decide +kernel))).trans h44) (by omega) (by omega) (by omega) (by omega) (by omega) (by omega) (by omega) (by omega) (h71.1) (h73)
          · refine En_Ps 5 (pc' := 64) (lv' := [(4, .int ((y38 + Int32.ofInt 1))), (2, .int y38), (3, .int z70), (5, .int z70), (0, .ref 0), (1, .int a)]) (st' := []) rfl ?_
            refine En_lv1 (addI rfl (by decide : (Int32.ofInt 1).toInt = 1) (by omega) (by omega)) (fun z77 h78 => ?_)
            refine En_Ps 1 (pc' := 28) (lv' := [(4, .int z77), (2, .int y38), (3, .int z70), (5, .int z70), (0, .ref 0), (1, .int a)]) (st' := []) rfl ?_
            refine En_lv (lv := [(0, .ref 0), (1, .int a), (2, .int y38), (3, .int z70), (4, .int z77)]) ⟨rfl, rfl, rfl, rfl, rfl, trivial⟩ ?_
            exact ih28 σ66 y38 z70 z77 h67 h72 ((h68 _ _ (inW (by decide +kernel : TG 0 = 0) (by decide +kernel))).trans h42) ((h68 _ _ (inW hp (by decide +kernel))).trans h43) ((h68 _ _ (inW hp (by decide +kernel))).trans h44) (by omega) (by omega) (by omega) (by omega) (by omega) (by omega) (by omega) (by omega) (h71.1) (h73)
    have := (by decide : (Int32.ofInt (-1)).toInt = -1)
    have := (by decide : (Int32.ofInt 0).toInt = 0)
    refine En_lv (lv := [(0, .ref 0), (1, .int a), (2, .int ((Int32.ofInt (-1)))), (3, .int z35), (4, .int ((Int32.ofInt 0)))]) ⟨rfl, rfl, rfl, rfl, rfl, trivial⟩ ?_
    exact key28 (Int.toNat (16) + 1) σ0 ((Int32.ofInt (-1))) z35 ((Int32.ofInt 0)) hσ0 hF0 h_p h_sg h2 (by omega) (by omega) (by omega) (by omega) (by omega) (by omega) (by omega) (by omega) (hK) (OUT_0)
  · have h79 := Imp_m h12.2.2.2.2.1 (by omega)
    refine En_Ps 1 (pc' := 13) (lv' := [(0, .ref 0), (1, .int a)]) (st' := [.int (((Int8.ofInt (-2)).toInt32))]) rfl ?_
    refine En_top (by decide : ((Int8.ofInt (-2)).toInt32).toInt = -2) (fun z80 h81 => ?_)
    exact En_ret (v := some (.int z80)) rfl rfl rfl ⟨hσ0, hF0, z80, rfl, ⟨by omega, by omega, fun _ => by omega, fun _ => by omega, fun _ => by omega, ⟨hK, OUT_0⟩⟩⟩

/-- DoorSchool.help(I)I -/
abbrev P_136x (σ0 : SG) (Wv : Int → Int) (a : Int32) (p : Nat) (sg : Int32) : PO := fun v σ => WT σ ∧ Fr [(20, 2), (21, 0), (22, 0)] σ0 σ ∧ ∃ ret : Int32, v = some (.int ret) ∧ -ret.toInt - 2 ≤ 0 ∧ ret.toInt - 49 ≤ 0 ∧ (KN σ p Wv (act Wv) ∧ OUT σ0 σ p)
set_option maxRecDepth 10000 in
set_option maxHeartbeats 4000000 in
theorem c_136x {Wv : Int → Int} (σ0 : SG) (hσ0 : WT σ0) (a : Int32) (p : Nat) (hp : TG p = 18) (h_p : (σ0 0)[9]? = some (.ref p)) (sg : Int32) (h_sg : (σ0 p)[1]? = some (.int sg)) (hp0 : -sg.toInt ≤ 0) (hP : PLA p) (hX : FXP σ0 p) (hK : KN σ0 p Wv (act Wv)) (hB : WFw Wv) : En 5 118 none mr_136 (P_136x σ0 Wv a p sg) 0 [(0, .ref 0), (1, .int a)] [] σ0 := by
  obtain ⟨hl_sg, hu_sg⟩ := WT_int hσ0 (g := 18) hp (by decide +kernel) (l := (-1)) (u := 4) (by decide +kernel) h_sg
  have hF0 : Fr [(20, 2), (21, 0), (22, 0)] σ0 σ0 := Fr_rfl
  have t1 : Wv (0) = sg.toInt := KN_v hK (Or.inl (by decide)) (by omega) (by omega) (by rw [lcO_lt (by decide) (by decide), Nat.add_zero]) rfl h_sg
  obtain ⟨z3, h2, h4, h5⟩ := WT_peekI hσ0 hp (by decide +kernel : FT 18 3 = (0, 0, 4)) (by decide +kernel)
  have t6 : Wv (2) = z3.toInt := KN_v hK (Or.inl (by decide)) (by omega) (by omega) (by rw [lcO_lt (by decide) (by decide), Nat.add_zero]) rfl h2
  refine En_Ps 1 (pc' := 1) (lv' := [(0, .ref 0), (1, .int a)]) (st' := [.ref 0]) rfl ?_
  refine En_getK (j := 9) h_p rfl rfl rfl (by decide +kernel : TG 0 = 0) (by decide +kernel) ?_
  refine En_Ps 1 (pc' := 5) (lv' := [(0, .ref 0), (1, .int a)]) (st' := [.int a, .ref p]) rfl ?_
  refine En_callV rfl rfl rfl rfl rfl rfl rfl rfl hp (by decide +kernel) rfl (c_47x σ0 hσ0 p hp a z3 h2) (by decide) (by decide) (fun v8 σ9 h7 => ?_)
  obtain ⟨h10, h11, z13, rfl, h12⟩ := h7
  obtain rfl : σ0 = σ9 := Fr_nil h11
  have h14 := Imp_m h12.2.2.1
  have h15 := Imp_m h12.2.2.2.1
  have h16 := Imp_m h12.2.2.2.2.1
  have h17 := Imp_m h12.2.2.2.2.2
  refine En_iNe _ rfl rfl (fun h18 => ?_) (fun h18 => ?_)
  · have h19 := Imp_m h12.2.2.1 (by omega)
    have h20 := Imp_m h12.2.2.2.1 (by omega)
    have h21 := Imp_m h12.2.2.2.2.2 (by omega)
    refine En_Ps 6 (pc' := 21) (lv' := [(4, .int ((Int32.ofInt 0))), (3, .int ((Int32.ofInt 0))), (2, .int ((Int32.ofInt (-1)))), (0, .ref 0), (1, .int a)]) (st' := []) rfl ?_
    have key21 : ∀ (n21 : Nat) (σ25 : SG) (y22 : Int32) (y23 : Int32) (y24 : Int32), WT σ25 → Fr [(20, 2), (21, 0), (22, 0)] σ0 σ25 → (σ25 0)[9]? = some (.ref p) → (σ25 p)[1]? = some (.int sg) → (σ25 p)[3]? = some (.int z3) → (-1) ≤ y22.toInt → y22.toInt ≤ 50 → 0 ≤ y23.toInt → y23.toInt ≤ 63 → 0 ≤ y24.toInt → y24.toInt ≤ 50 → y22.toInt - y24.toInt + 1 ≤ 0 → -y24.toInt + 50 < (n21 : Int) → KN σ25 p Wv (act Wv) → OUT σ0 σ25 p → En 5 118 none mr_136 (P_136x σ0 Wv a p sg) 21 [(0, .ref 0), (1, .int a), (2, .int y22), (3, .int y23), (4, .int y24)] [] σ25 := by
      intro n21
      induction n21 with
      | zero =>
        intro σ25 y22 y23 y24 h26 h27 h28 h29 h30 h31 h32 h33 h34 h35 h36 h37 h38 h39 h40
        exfalso; omega
      | succ n21 ih21 =>
        intro σ25 y22 y23 y24 h26 h27 h28 h29 h30 h31 h32 h33 h34 h35 h36 h37 h38 h39 h40
        refine En_Ps 3 (pc' := 25) (lv' := [(0, .ref 0), (1, .int a), (2, .int y22), (3, .int y23), (4, .int y24)]) (st' := [.ref 0, .int ((Int32.ofInt 2)), .int y24]) rfl ?_
        refine En_getK (j := 9) h28 rfl rfl rfl (by decide +kernel : TG 0 = 0) (by decide +kernel) ?_
        refine En_callV rfl rfl rfl rfl rfl rfl rfl rfl hp (by decide +kernel) rfl (c_51x σ25 h26 p hp sg h29 (by omega)) (by decide) (by decide) (fun v42 σ43 h41 => ?_)
        obtain ⟨h44, h45, z47, rfl, h46⟩ := h41
        have h48 := h46.2.2
        obtain rfl : σ25 = σ43 := Fr_nil h45
        refine En_Ps 1 (pc' := 32) (lv' := [(0, .ref 0), (1, .int a), (2, .int y22), (3, .int y23), (4, .int y24)]) (st' := [.int ((((Int32.ofInt 2)) * z47)), .int y24]) rfl ?_
        refine En_top (mulI (by decide : (Int32.ofInt 2).toInt = 2) rfl (Z := 2 * z47.toInt) (by omega) (by omega) (by omega)) (fun z49 h50 => ?_)
        refine En_icGe _ rfl rfl rfl (fun h51 => ?_) (fun h51 => ?_)
        · refine En_Ps 1 (pc' := 69) (lv' := [(0, .ref 0), (1, .int a), (2, .int y22), (3, .int y23), (4, .int y24)]) (st' := [.int y22]) rfl ?_
          exact En_ret (v := some (.int y22)) rfl rfl rfl ⟨h26, h27, y22, rfl, ⟨by omega, by omega, ⟨h39, h40⟩⟩⟩
        · refine En_Ps 4 (pc' := 40) (lv' := [(0, .ref 0), (1, .int a), (2, .int y22), (3, .int y23), (4, .int y24)]) (st' := [.int ((Int32.ofInt 2)), .int y24, .int a, .ref 0]) rfl ?_
          refine En_idiv (c := 2) rfl rfl (by decide : (Int32.ofInt 2).toInt = 2) (by omega) (by decide) (fun z52 h53 => ?_)
          refine En_Ps 2 (pc' := 44) (lv' := [(0, .ref 0), (1, .int a), (2, .int y22), (3, .int y23), (4, .int y24)]) (st' := [.int ((Int32.ofInt 2)), .int y24, .int z52, .int a, .ref 0]) rfl ?_
          refine En_irem (c := 2) rfl rfl (by decide : (Int32.ofInt 2).toInt = 2) (by omega) (by decide) (fun z54 h55 => ?_)
          refine En_callV rfl rfl rfl rfl rfl rfl rfl rfl (by decide +kernel : TG 0 = 0) (by decide +kernel) rfl (c_129x σ25 h26 a z52 z54 (geI rfl (by omega)) (leI rfl (by omega)) (geI rfl (by omega)) (leI rfl (by omega)) (geI rfl (by omega)) (leI rfl (by omega)) p hp h28 sg h29 (by omega) hP (FXP_fr hP hX h27 (by decide +kernel)) h39 hB (by omega)) (by decide) (by decide) (fun v57 σ58 h56 => ?_)
          obtain ⟨h59, h60, z62, rfl, h61⟩ := h56
          have h63 := h61.2.2
          have h64 := Fr_trans h27 h60 (by decide +kernel)
          have h65 := OUT_tr h40 h63.2
          refine En_Ps 3 (pc' := 53) (lv' := [(5, .int z62), (0, .ref 0), (1, .int a), (2, .int y22), (3, .int y23), (4, .int y24)]) (st' := [.int y23, .int z62]) rfl ?_
          refine En_icLe _ rfl rfl rfl (fun h66 => ?_) (fun h66 => ?_)
          · refine En_Ps 1 (pc' := 65) (lv' := [(4, .int ((y24 + Int32.ofInt 1))), (5, .int z62), (0, .ref 0), (1, .int a), (2, .int y22), (3, .int y23)]) (st' := []) rfl ?_
            refine En_lv1 (addI rfl (by decide : (Int32.ofInt 1).toInt = 1) (by omega) (by omega)) (fun z67 h68 => ?_)
            refine En_Ps 1 (pc' := 21) (lv' := [(4, .int z67), (5, .int z62), (0, .ref 0), (1, .int a), (2, .int y22), (3, .int y23)]) (st' := []) rfl ?_
            refine En_lv (lv := [(0, .ref 0), (1, .int a), (2, .int y22), (3, .int y23), (4, .int z67)]) ⟨rfl, rfl, rfl, rfl, rfl, trivial⟩ ?_
            exact ih21 σ58 y22 y23 z67 h59 h64 ((h60 _ _ (inW (by decide +kernel : TG 0 = 0) (by decide +kernel))).trans h28) ((h60 _ _ (inW hp (by decide +kernel))).trans h29) ((h60 _ _ (inW hp (by decide +kernel))).trans h30) (by omega) (by omega) (by omega) (by omega) (by omega) (by omega) (by omega) (by omega) (h63.1) (h65)
          · refine En_Ps 5 (pc' := 65) (lv' := [(4, .int ((y24 + Int32.ofInt 1))), (2, .int y24), (3, .int z62), (5, .int z62), (0, .ref 0), (1, .int a)]) (st' := []) rfl ?_
            refine En_lv1 (addI rfl (by decide : (Int32.ofInt 1).toInt = 1) (by omega) (by omega)) (fun z69 h70 => ?_)
            refine En_Ps 1 (pc' := 21) (lv' := [(4, .int z69), (2, .int y24), (3, .int z62), (5, .int z62), (0, .ref 0), (1, .int a)]) (st' := []) rfl ?_
            refine En_lv (lv := [(0, .ref 0), (1, .int a), (2, .int y24), (3, .int z62), (4, .int z69)]) ⟨rfl, rfl, rfl, rfl, rfl, trivial⟩ ?_
            exact ih21 σ58 y24 z62 z69 h59 h64 ((h60 _ _ (inW (by decide +kernel : TG 0 = 0) (by decide +kernel))).trans h28) ((h60 _ _ (inW hp (by decide +kernel))).trans h29) ((h60 _ _ (inW hp (by decide +kernel))).trans h30) (by omega) (by omega) (by omega) (by omega) (by omega) (by omega) (by omega) (by omega) (h63.1) (h65)
    have := (by decide : (Int32.ofInt (-1)).toInt = -1)
    have := (by decide : (Int32.ofInt 0).toInt = 0)
    have := (by decide : (Int32.ofInt 0).toInt = 0)
    refine En_lv (lv := [(0, .ref 0), (1, .int a), (2, .int ((Int32.ofInt (-1)))), (3, .int ((Int32.ofInt 0))), (4, .int ((Int32.ofInt 0)))]) ⟨rfl, rfl, rfl, rfl, rfl, trivial⟩ ?_
    exact key21 (Int.toNat (50) + 1) σ0 ((Int32.ofInt (-1))) ((Int32.ofInt 0)) ((Int32.ofInt 0)) hσ0 hF0 h_p h_sg h2 (by omega) (by omega) (by omega) (by omega) (by omega) (by omega) (by omega) (by omega) (hK) (OUT_0)
  · have h71 := Imp_m h12.2.2.2.2.1 (by omega)
    refine En_Ps 1 (pc' := 13) (lv' := [(0, .ref 0), (1, .int a)]) (st' := [.int (((Int8.ofInt (-2)).toInt32))]) rfl ?_
    refine En_top (by decide : ((Int8.ofInt (-2)).toInt32).toInt = -2) (fun z72 h73 => ?_)
    exact En_ret (v := some (.int z72)) rfl rfl rfl ⟨hσ0, hF0, z72, rfl, ⟨by omega, by omega, ⟨hK, OUT_0⟩⟩⟩
/-- DoorSchool.idle(I)I -/
abbrev P_141x (σ0 : SG) (Wv : Int → Int) (a : Int32) (p : Nat) (sg : Int32) : PO := fun v σ => WT σ ∧ Fr [(20, 2), (21, 0), (22, 0)] σ0 σ ∧ ∃ ret : Int32, v = some (.int ret) ∧ -ret.toInt - 2 ≤ 0 ∧ ret.toInt - 65535 ≤ 0 ∧ (KN σ p Wv (act Wv) ∧ OUT σ0 σ p)
set_option maxRecDepth 10000 in
set_option maxHeartbeats 4000000 in
theorem c_141x {Wv : Int → Int} (σ0 : SG) (hσ0 : WT σ0) (a : Int32) (p : Nat) (hp : TG p = 18) (h_p : (σ0 0)[9]? = some (.ref p)) (sg : Int32) (h_sg : (σ0 p)[1]? = some (.int sg)) (hp0 : -sg.toInt ≤ 0) (hP : PLA p) (hX : FXP σ0 p) (hK : KN σ0 p Wv (act Wv)) (hB : WFw Wv) : En 4 92 none mr_141 (P_141x σ0 Wv a p sg) 0 [(0, .ref 0), (1, .int a)] [] σ0 := by
  obtain ⟨hl_sg, hu_sg⟩ := WT_int hσ0 (g := 18) hp (by decide +kernel) (l := (-1)) (u := 4) (by decide +kernel) h_sg
  have hF0 : Fr [(20, 2), (21, 0), (22, 0)] σ0 σ0 := Fr_rfl
  have t1 : Wv (0) = sg.toInt := KN_v hK (Or.inl (by decide)) (by omega) (by omega) (by rw [lcO_lt (by decide) (by decide), Nat.add_zero]) rfl h_sg
  obtain ⟨z3, h2, h4, h5⟩ := WT_peekI hσ0 hp (by decide +kernel : FT 18 3 = (0, 0, 4)) (by decide +kernel)
  have t6 : Wv (2) = z3.toInt := KN_v hK (Or.inl (by decide)) (by omega) (by omega) (by rw [lcO_lt (by decide) (by decide), Nat.add_zero]) rfl h2
  refine En_Ps 1 (pc' := 1) (lv' := [(0, .ref 0), (1, .int a)]) (st' := [.ref 0]) rfl ?_
  refine En_getK (j := 9) h_p rfl rfl rfl (by decide +kernel : TG 0 = 0) (by decide +kernel) ?_
  refine En_Ps 1 (pc' := 5) (lv' := [(0, .ref 0), (1, .int a)]) (st' := [.int a, .ref p]) rfl ?_
  refine En_callV rfl rfl rfl rfl rfl rfl rfl rfl hp (by decide +kernel) rfl (c_47x σ0 hσ0 p hp a z3 h2) (by decide) (by decide) (fun v8 σ9 h7 => ?_)
  obtain ⟨h10, h11, z13, rfl, h12⟩ := h7
  obtain rfl : σ0 = σ9 := Fr_nil h11
  have h14 := Imp_m h12.2.2.1
  have h15 := Imp_m h12.2.2.2.1
  have h16 := Imp_m h12.2.2.2.2.1
  have h17 := Imp_m h12.2.2.2.2.2
  refine En_iNe _ rfl rfl (fun h18 => ?_) (fun h18 => ?_)
  · have h19 := Imp_m h12.2.2.1 (by omega)
    have h20 := Imp_m h12.2.2.2.1 (by omega)
    have h21 := Imp_m h12.2.2.2.2.2 (by omega)
    refine En_Ps 1 (pc' := 15) (lv' := [(0, .ref 0), (1, .int a)]) (st' := [.ref 0]) rfl ?_
    refine En_getK (j := 9) h_p rfl rfl rfl (by decide +kernel : TG 0 = 0) (by decide +kernel) ?_
    refine En_getR (j := 4) (g' := 19) (u := 0) rfl rfl rfl hp (by decide +kernel) hσ0 (by decide +kernel) (fun a23 h22 ha23 => ?_)
    have t24 : a23 = p + 1 := ref_uniq h22 (FXP_fr hP hX hF0 (by decide +kernel)).1
    refine En_Ps 1 (pc' := 22) (lv' := [(0, .ref 0), (1, .int a)]) (st' := [.int a, .ref a23]) rfl ?_
    refine En_aald (g' := 28) (u := 0) rfl rfl ha23 (by decide +kernel) hσ0 (by omega) (lnI (by decide +kernel : LN _ = 4) (by omega)) (FTsgl (by decide +kernel)) (fun a26 h25 ha26 => ?_)
    have t27 : a26 = p + 10 + 4 * (a.toInt).toNat := DRe (d := a.toInt) (FXP_fr hP hX hF0 (by decide +kernel)) t24 h25 (by omega) (by omega)
    have t28 := lc_d (d := a.toInt) (by omega) (by omega)
    refine En_getR (j := 0) (g' := 20) (u := 0) rfl rfl rfl ha26 (by decide +kernel) hσ0 (by decide +kernel) (fun a30 h29 ha30 => ?_)
    have t31 : a30 = p + 11 + 4 * (a.toInt).toNat := DLc (d := a.toInt) (FXP_fr hP hX hF0 (by decide +kernel)) t27 h29 (by omega) (by omega)
    obtain ⟨a33, h32, ha33⟩ := WT_peekR (g := 20) (j := 0) (g' := 21) (u := 0) hσ0 ha30 (by decide +kernel) (by decide +kernel)
    have t34 : a33 = p + 12 + 4 * (a.toInt).toNat := DKk (d := a.toInt) (FXP_fr hP hX hF0 (by decide +kernel)) t31 h32 (by omega) (by omega)
    obtain ⟨a36, h35, ha36⟩ := WT_peekR (g := 20) (j := 1) (g' := 22) (u := 0) hσ0 ha30 (by decide +kernel) (by decide +kernel)
    have t37 : a36 = p + 13 + 4 * (a.toInt).toNat := DKo (d := a.toInt) (FXP_fr hP hX hF0 (by decide +kernel)) t31 h35 (by omega) (by omega)
    obtain ⟨z39, h38, h40, h41⟩ := WT_peekI hσ0 ha30 (by decide +kernel : FT 20 2 = (0, 0, 13)) (by decide +kernel)
    have t42 : Wv (12 + 4 * (a.toInt)) = z39.toInt := KN_v hK (Or.inr (Or.inl ⟨by omega, by omega, by omega⟩)) (by omega) (by omega) (by omega) (by omega) h38
    have h43 := hB.2.2.2.2.2.2 a.toInt (by omega) (by omega)
    have : z39.toInt ≤ 12 := by omega
    refine En_Ps 3 (pc' := 29) (lv' := [(2, .ref a30), (0, .ref 0), (1, .int a)]) (st' := [.int a, .ref 0]) rfl ?_
    refine En_callV rfl rfl rfl rfl rfl rfl rfl rfl (by decide +kernel : TG 0 = 0) (by decide +kernel) rfl (c_114 σ0 hσ0 a (geI rfl (by omega)) (leI rfl (by omega)) p hp h_p sg h_sg (by omega)) (by decide) (by decide) (fun v48 σ49 h47 => ?_)
    obtain ⟨h50, h51, z53, rfl, h52⟩ := h47
    obtain rfl : σ0 = σ49 := Fr_nil h51
    refine En_Ps 2 (pc' := 34) (lv' := [(3, .int z53), (2, .ref a30), (0, .ref 0), (1, .int a)]) (st' := [.ref a30]) rfl ?_
    refine En_getK (j := 2) h38 rfl rfl rfl ha30 (by decide +kernel) ?_
    refine En_Ps 5 (pc' := 45) (lv' := [(6, .int ((Int32.ofInt 0))), (5, .int ((Int32.ofInt 0))), (4, .int z39), (3, .int z53), (2, .ref a30), (0, .ref 0), (1, .int a)]) (st' := []) rfl ?_
    have key45 : ∀ (n45 : Nat) (σ57 : SG) (y54 : Int32) (y55 : Int32) (y56 : Int32), WT σ57 → Fr [(20, 2), (21, 0), (22, 0)] σ0 σ57 → (σ57 0)[9]? = some (.ref p) → (σ57 p)[1]? = some (.int sg) → (σ57 p)[3]? = some (.int z3) → (σ57 p)[4]? = some (.ref a23) → (σ57 a23)[(a.toInt).toNat]? = some (.ref a26) → (σ57 a26)[0]? = some (.ref a30) → (σ57 a30)[0]? = some (.ref a33) → (σ57 a30)[1]? = some (.ref a36) → (σ57 a30)[2]? = some (.int y56) → 0 ≤ y54.toInt → y54.toInt ≤ 65535 → 0 ≤ y55.toInt → y55.toInt ≤ 12 → 0 ≤ y56.toInt → y56.toInt ≤ 12 → y56.toInt - z39.toInt ≤ 0 → z39.toInt - y56.toInt ≤ 0 → y55.toInt - y56.toInt ≤ 0 → z39.toInt - y55.toInt < (n45 : Int) → KN σ57 p Wv (act Wv) → OUT σ0 σ57 p → En 4 92 none mr_141 (P_141x σ0 Wv a p sg) 45 [(0, .ref 0), (1, .int a), (2, .ref a30), (3, .int z53), (4, .int z39), (5, .int y54), (6, .int y55)] [] σ57 := by
      intro n45
      induction n45 with
      | zero =>
        intro σ57 y54 y55 y56 h58 h59 h60 h61 h62 h63 h64 h65 h66 h67 h68 h69 h70 h71 h72 h73 h74 h75 h76 h77 h78 h79 h80
        exfalso; omega
      | succ n45 ih45 =>
        intro σ57 y54 y55 y56 h58 h59 h60 h61 h62 h63 h64 h65 h66 h67 h68 h69 h70 h71 h72 h73 h74 h75 h76 h77 h78 h79 h80
        refine En_Ps 2 (pc' := 49) (lv' := [(0, .ref 0), (1, .int a), (2, .ref a30), (3, .int z53), (4, .int z39), (5, .int y54), (6, .int y55)]) (st' := [.int z39, .int y55]) rfl ?_
        refine En_icGe _ rfl rfl rfl (fun h81 => ?_) (fun h81 => ?_)
        · refine En_Ps 1 (pc' := 112) (lv' := [(0, .ref 0), (1, .int a), (2, .ref a30), (3, .int z53), (4, .int z39), (5, .int y54), (6, .int y55)]) (st' := [.int y54]) rfl ?_
          exact En_ret (v := some (.int y54)) rfl rfl rfl ⟨h58, h59, y54, rfl, ⟨by omega, by omega, ⟨h79, h80⟩⟩⟩
        · refine En_Ps 1 (pc' := 53) (lv' := [(0, .ref 0), (1, .int a), (2, .ref a30), (3, .int z53), (4, .int z39), (5, .int y54), (6, .int y55)]) (st' := [.ref a30]) rfl ?_
          refine En_getK (j := 0) h66 rfl rfl rfl ha30 (by decide +kernel) ?_
          refine En_Ps 1 (pc' := 58) (lv' := [(0, .ref 0), (1, .int a), (2, .ref a30), (3, .int z53), (4, .int z39), (5, .int y54), (6, .int y55)]) (st' := [.int y55, .ref a33]) rfl ?_
          refine En_iald (l := 0) (u := 15) rfl rfl ha33 (by decide +kernel) h58 (by omega) (lnI (by decide +kernel : LN _ = 13) (by omega)) (FTsgl (by decide +kernel)) (fun z83 h82 h84 h85 => ?_)
          have t86 := lc_l (d := a.toInt) (m := y55.toInt) (by omega) (by omega) (by omega) (by omega)
          have t87 : Wv (26 + 24 * (a.toInt) + 2 * (y55.toInt)) = z83.toInt := KN_v h79 (act_lk (d := a.toInt) (m := y55.toInt) (by omega) (by omega) (by omega) (by omega) (by omega) (by omega)) (by omega) (by omega) (by omega) (by omega) h82
          refine En_Ps 2 (pc' := 62) (lv' := [(7, .int z83), (0, .ref 0), (1, .int a), (2, .ref a30), (3, .int z53), (4, .int z39), (5, .int y54), (6, .int y55)]) (st' := [.ref a30]) rfl ?_
          refine En_getK (j := 1) h67 rfl rfl rfl ha30 (by decide +kernel) ?_
          refine En_Ps 1 (pc' := 67) (lv' := [(7, .int z83), (0, .ref 0), (1, .int a), (2, .ref a30), (3, .int z53), (4, .int z39), (5, .int y54), (6, .int y55)]) (st' := [.int y55, .ref a36]) rfl ?_
          refine En_iald (l := 0) (u := 1) rfl rfl ha36 (by decide +kernel) h58 (by omega) (lnI (by decide +kernel : LN _ = 13) (by omega)) (FTsgl (by decide +kernel)) (fun z89 h88 h90 h91 => ?_)
          have t92 := lc_l (d := a.toInt) (m := y55.toInt) (by omega) (by omega) (by omega) (by omega)
          have t93 : Wv (26 + 24 * (a.toInt) + 2 * (y55.toInt) + 1) = z89.toInt := KN_v h79 (act_lo (d := a.toInt) (m := y55.toInt) (by omega) (by omega) (by omega) (by omega) (by omega) (by omega)) (by omega) (by omega) (by omega) (by omega) h88
          refine En_Ps 1 (pc' := 70) (lv' := [(8, .int z89), (7, .int z83), (0, .ref 0), (1, .int a), (2, .ref a30), (3, .int z53), (4, .int z39), (5, .int y54), (6, .int y55)]) (st' := []) rfl ?_
          have h94 : ci σ57 a30 2 = y56.toInt := ci_at (j := 2) h68 rfl
          have h95 : z83.toInt = ci σ57 a33 (y55.toInt) := (ci_at h82 rfl).symm
          have h96 : z89.toInt = ci σ57 a36 (y55.toInt) := (ci_at h88 rfl).symm
          refine En_Ps 2 (pc' := 73) (lv' := [(8, .int z89), (7, .int z83), (0, .ref 0), (1, .int a), (2, .ref a30), (3, .int z53), (4, .int z39), (5, .int y54), (6, .int y55)]) (st' := [.int y55, .ref a30]) rfl ?_
          refine En_callV rfl rfl rfl rfl rfl rfl rfl rfl ha30 (by decide +kernel) rfl (c_41bx σ57 h58 a30 ha30 y55 (geI rfl (by omega)) (leI rfl (by omega)) a33 ha33 h66 a36 ha36 h67 y56 h68 (by omega)) (by decide) (by decide) (fun v98 σ99 h97 => ?_)
          obtain ⟨h100, h101, z103, h104, rfl, h102⟩ := h97
          have h105 := h102.2.2.2.2.2.2
          have h106 := Fr_trans h59 h101 (by decide +kernel)
          refine En_Ps 2 (pc' := 78) (lv' := [(8, .int z89), (7, .int z83), (0, .ref 0), (1, .int a), (2, .ref a30), (3, .int z53), (4, .int z39), (5, .int y54), (6, .int y55)]) (st' := [.int a, .ref 0]) rfl ?_
          refine En_callV rfl rfl rfl rfl rfl rfl rfl rfl (by decide +kernel : TG 0 = 0) (by decide +kernel) rfl (c_114 σ99 h100 a (geI rfl (by omega)) (leI rfl (by omega)) p hp ((h101 _ _ (inW (by decide +kernel : TG 0 = 0) (by decide +kernel))).trans h60) sg ((h101 _ _ (inW hp (by decide +kernel))).trans h61) (by omega)) (by decide) (by decide) (fun v111 σ112 h110 => ?_)
          obtain ⟨h113, h114, z116, rfl, h115⟩ := h110
          obtain rfl : σ99 = σ112 := Fr_nil h114
          refine En_Ps 1 (pc' := 82) (lv' := [(8, .int z89), (7, .int z83), (0, .ref 0), (1, .int a), (2, .ref a30), (3, .int z53), (4, .int z39), (5, .int y54), (6, .int y55)]) (st' := [.int z53, .int z116]) rfl ?_
          refine En_icNe _ rfl rfl rfl (fun h117 => ?_) (fun h117 => ?_)
          · refine En_Ps 4 (pc' := 101) (lv' := [(8, .int z89), (7, .int z83), (0, .ref 0), (1, .int a), (2, .ref a30), (3, .int z53), (4, .int z39), (5, .int y54), (6, .int y55)]) (st' := [.int z89, .int z83, .int y55, .ref a30]) rfl ?_
            refine En_callV rfl rfl rfl rfl rfl rfl rfl rfl ha30 (by decide +kernel) rfl (c_38bx σ99 h100 a30 ha30 y55 z83 z89 (geI rfl (by omega)) (leI rfl (by omega)) (geI rfl (by omega)) (leI rfl (by omega)) (geI rfl (by omega)) (leI rfl (by omega)) a33 ha33 ((h101 _ _ (inW ha30 (by decide +kernel))).trans h66) a36 ha36 ((h101 _ _ (inW ha30 (by decide +kernel))).trans h67) z103 h104 (by omega) (by omega)) (by decide) (by decide) (fun v119 σ120 h118 => ?_)
            obtain ⟨h121, h122, z124, h125, rfl, h123⟩ := h118
            have h126 := h123.2.2.2.2
            have h127 := Fr_trans h106 h122 (by decide +kernel)
            have h128 := KN_tp h79 h105 h126 (by omega) h94 h95 h96 (by omega) (by omega) (by omega) (by omega) (by omega)
            have h129 := OUT_tr h80 h128.2
            refine En_Ps 1 (pc' := 107) (lv' := [(6, .int ((y55 + Int32.ofInt 1))), (8, .int z89), (7, .int z83), (0, .ref 0), (1, .int a), (2, .ref a30), (3, .int z53), (4, .int z39), (5, .int y54)]) (st' := []) rfl ?_
            refine En_lv1 (addI rfl (by decide : (Int32.ofInt 1).toInt = 1) (by omega) (by omega)) (fun z130 h131 => ?_)
            refine En_Ps 1 (pc' := 45) (lv' := [(6, .int z130), (8, .int z89), (7, .int z83), (0, .ref 0), (1, .int a), (2, .ref a30), (3, .int z53), (4, .int z39), (5, .int y54)]) (st' := []) rfl ?_
            refine En_lv (lv := [(0, .ref 0), (1, .int a), (2, .ref a30), (3, .int z53), (4, .int z39), (5, .int y54), (6, .int z130)]) ⟨rfl, rfl, rfl, rfl, rfl, rfl, rfl, trivial⟩ ?_
            exact ih45 σ120 y54 z130 z124 h121 h127 ((h122 _ _ (inW (by decide +kernel : TG 0 = 0) (by decide +kernel))).trans ((h101 _ _ (inW (by decide +kernel : TG 0 = 0) (by decide +kernel))).trans h60)) ((h122 _ _ (inW hp (by decide +kernel))).trans ((h101 _ _ (inW hp (by decide +kernel))).trans h61)) ((h122 _ _ (inW hp (by decide +kernel))).trans ((h101 _ _ (inW hp (by decide +kernel))).trans h62)) ((h122 _ _ (inW hp (by decide +kernel))).trans ((h101 _ _ (inW hp (by decide +kernel))).trans h63)) ((h122 _ _ (inWa ha23 (by decide +kernel))).trans ((h101 _ _ (inWa ha23 (by decide +kernel))).trans h64)) ((h122 _ _ (inW ha26 (by decide +kernel))).trans ((h101 _ _ (inW ha26 (by decide +kernel))).trans h65)) ((h122 _ _ (inW ha30 (by decide +kernel))).trans ((h101 _ _ (inW ha30 (by decide +kernel))).trans h66)) ((h122 _ _ (inW ha30 (by decide +kernel))).trans ((h101 _ _ (inW ha30 (by decide +kernel))).trans h67)) h125 (by omega) (by omega) (by omega) (by omega) (by omega) (by omega) (by omega) (by omega) (by omega) (by omega) (h128.1) (h129)
          · refine En_Ps 4 (pc' := 91) (lv' := [(8, .int z89), (7, .int z83), (0, .ref 0), (1, .int a), (2, .ref a30), (3, .int z53), (4, .int z39), (5, .int y54), (6, .int y55)]) (st' := [.int ((((Int32.ofInt 1)) <<< (y55 &&& 31))), .int y54]) rfl ?_
            refine En_rng (shl1_p 11 rfl (by omega) (by omega) (by decide)) (fun z132 h133 h134 => ?_)
            refine En_Ps 1 (pc' := 92) (lv' := [(8, .int z89), (7, .int z83), (0, .ref 0), (1, .int a), (2, .ref a30), (3, .int z53), (4, .int z39), (5, .int y54), (6, .int y55)]) (st' := [.int ((y54 ||| z132))]) rfl ?_
            refine En_rng (l := 0) (u := 65535) (or_rng 16 rfl rfl (by omega) (by omega) (by omega) (by omega) (by decide)) (fun z135 h136 h137 => ?_)
            refine En_Ps 5 (pc' := 101) (lv' := [(5, .int z135), (8, .int z89), (7, .int z83), (0, .ref 0), (1, .int a), (2, .ref a30), (3, .int z53), (4, .int z39), (6, .int y55)]) (st' := [.int z89, .int z83, .int y55, .ref a30]) rfl ?_
            refine En_callV rfl rfl rfl rfl rfl rfl rfl rfl ha30 (by decide +kernel) rfl (c_38bx σ99 h100 a30 ha30 y55 z83 z89 (geI rfl (by omega)) (leI rfl (by omega)) (geI rfl (by omega)) (leI rfl (by omega)) (geI rfl (by omega)) (leI rfl (by omega)) a33 ha33 ((h101 _ _ (inW ha30 (by decide +kernel))).trans h66) a36 ha36 ((h101 _ _ (inW ha30 (by decide +kernel))).trans h67) z103 h104 (by omega) (by omega)) (by decide) (by decide) (fun v139 σ140 h138 => ?_)
            obtain ⟨h141, h142, z144, h145, rfl, h143⟩ := h138
            have h146 := h143.2.2.2.2
            have h147 := Fr_trans h106 h142 (by decide +kernel)
            have h148 := KN_tp h79 h105 h146 (by omega) h94 h95 h96 (by omega) (by omega) (by omega) (by omega) (by omega)
            have h149 := OUT_tr h80 h148.2
            refine En_Ps 1 (pc' := 107) (lv' := [(6, .int ((y55 + Int32.ofInt 1))), (5, .int z135), (8, .int z89), (7, .int z83), (0, .ref 0), (1, .int a), (2, .ref a30), (3, .int z53), (4, .int z39)]) (st' := []) rfl ?_
            refine En_lv1 (addI rfl (by decide : (Int32.ofInt 1).toInt = 1) (by omega) (by omega)) (fun z150 h151 => ?_)
            refine En_Ps 1 (pc' := 45) (lv' := [(6, .int z150), (5, .int z135), (8, .int z89), (7, .int z83), (0, .ref 0), (1, .int a), (2, .ref a30), (3, .int z53), (4, .int z39)]) (st' := []) rfl ?_
            refine En_lv (lv := [(0, .ref 0), (1, .int a), (2, .ref a30), (3, .int z53), (4, .int z39), (5, .int z135), (6, .int z150)]) ⟨rfl, rfl, rfl, rfl, rfl, rfl, rfl, trivial⟩ ?_
            exact ih45 σ140 z135 z150 z144 h141 h147 ((h142 _ _ (inW (by decide +kernel : TG 0 = 0) (by decide +kernel))).trans ((h101 _ _ (inW (by decide +kernel : TG 0 = 0) (by decide +kernel))).trans h60)) ((h142 _ _ (inW hp (by decide +kernel))).trans ((h101 _ _ (inW hp (by decide +kernel))).trans h61)) ((h142 _ _ (inW hp (by decide +kernel))).trans ((h101 _ _ (inW hp (by decide +kernel))).trans h62)) ((h142 _ _ (inW hp (by decide +kernel))).trans ((h101 _ _ (inW hp (by decide +kernel))).trans h63)) ((h142 _ _ (inWa ha23 (by decide +kernel))).trans ((h101 _ _ (inWa ha23 (by decide +kernel))).trans h64)) ((h142 _ _ (inW ha26 (by decide +kernel))).trans ((h101 _ _ (inW ha26 (by decide +kernel))).trans h65)) ((h142 _ _ (inW ha30 (by decide +kernel))).trans ((h101 _ _ (inW ha30 (by decide +kernel))).trans h66)) ((h142 _ _ (inW ha30 (by decide +kernel))).trans ((h101 _ _ (inW ha30 (by decide +kernel))).trans h67)) h145 (by omega) (by omega) (by omega) (by omega) (by omega) (by omega) (by omega) (by omega) (by omega) (by omega) (h148.1) (h149)
    have := (by decide : (Int32.ofInt 0).toInt = 0)
    have := (by decide : (Int32.ofInt 0).toInt = 0)
    refine En_lv (lv := [(0, .ref 0), (1, .int a), (2, .ref a30), (3, .int z53), (4, .int z39), (5, .int ((Int32.ofInt 0))), (6, .int ((Int32.ofInt 0)))]) ⟨rfl, rfl, rfl, rfl, rfl, rfl, rfl, trivial⟩ ?_
    exact key45 (Int.toNat (z39.toInt) + 1) σ0 ((Int32.ofInt 0)) ((Int32.ofInt 0)) z39 hσ0 hF0 h_p h_sg h2 h22 h25 h29 h32 h35 h38 (by omega) (by omega) (by omega) (by omega) (by omega) (by omega) (by omega) (by omega) (by omega) (by omega) (hK) (OUT_0)
  · have h152 := Imp_m h12.2.2.2.2.1 (by omega)
    refine En_Ps 1 (pc' := 13) (lv' := [(0, .ref 0), (1, .int a)]) (st' := [.int (((Int8.ofInt (-2)).toInt32))]) rfl ?_
    refine En_top (by decide : ((Int8.ofInt (-2)).toInt32).toInt = -2) (fun z153 h154 => ?_)
    exact En_ret (v := some (.int z153)) rfl rfl rfl ⟨hσ0, hF0, z153, rfl, ⟨by omega, by omega, ⟨hK, OUT_0⟩⟩⟩
/-- DoorSchool.image(I)I -/
abbrev P_142x (σ0 : SG) (a : Int32) (p : Nat) (sg : Int32) : PO := fun v σ => WT σ ∧ Fr [(20, 2), (21, 0), (22, 0), (23, 0), (24, 0), (25, 0), (26, 0), (27, 0), (28, 1), (28, 2), (28, 3), (30, 0), (31, 0), (31, 1), (31, 2), (31, 3), (31, 6), (31, 7), (31, 8), (31, 11), (31, 14)] σ0 σ ∧ ∃ ret : Int32, v = some (.int ret) ∧ -ret.toInt - 2 ≤ 0 ∧ ret.toInt ≤ 0 ∧ Imp (-a.toInt ≤ 0 ∧ a.toInt - 2 ≤ 0) (ret.toInt ≤ 0 ∧ -ret.toInt ≤ 0) ∧ Imp (a.toInt + 1 ≤ 0) (ret.toInt + 2 ≤ 0 ∧ -ret.toInt - 2 ≤ 0) ∧ Imp (-a.toInt + 3 ≤ 0) (ret.toInt + 2 ≤ 0 ∧ -ret.toInt - 2 ≤ 0) ∧ IMC σ0 σ p a.toInt
set_option maxRecDepth 10000 in
set_option maxHeartbeats 4000000 in
theorem c_142x (σ0 : SG) (hσ0 : WT σ0) (a : Int32) (p : Nat) (hp : TG p = 18) (h_p : (σ0 0)[9]? = some (.ref p)) (sg : Int32) (h_sg : (σ0 p)[1]? = some (.int sg)) (hp0 : -sg.toInt ≤ 0) (hP : PLA p) (hX : FXP σ0 p) (hM : IMX σ0) : En 4 124 none mr_142 (P_142x σ0 a p sg) 0 [(0, .ref 0), (1, .int a)] [] σ0 := by
  obtain ⟨hl_sg, hu_sg⟩ := WT_int hσ0 (g := 18) hp (by decide +kernel) (l := (-1)) (u := 4) (by decide +kernel) h_sg
  have hF0 : Fr [(20, 2), (21, 0), (22, 0), (23, 0), (24, 0), (25, 0), (26, 0), (27, 0), (28, 1), (28, 2), (28, 3), (30, 0), (31, 0), (31, 1), (31, 2), (31, 3), (31, 6), (31, 7), (31, 8), (31, 11), (31, 14)] σ0 σ0 := Fr_rfl
  refine En_Ps 1 (pc' := 1) (lv' := [(0, .ref 0), (1, .int a)]) (st' := [.int a]) rfl ?_
  refine En_iLt _ rfl rfl (fun h1 => ?_) (fun h1 => ?_)
  · refine En_Ps 1 (pc' := 11) (lv' := [(0, .ref 0), (1, .int a)]) (st' := [.int (((Int8.ofInt (-2)).toInt32))]) rfl ?_
    refine En_top (by decide : ((Int8.ofInt (-2)).toInt32).toInt = -2) (fun z2 h3 => ?_)
    exact En_ret (v := some (.int z2)) rfl rfl rfl ⟨hσ0, hF0, z2, rfl, ⟨by omega, by omega, fun _ => by omega, fun _ => by omega, fun _ => by omega, IMC_no (by omega)⟩⟩
  · refine En_Ps 2 (pc' := 6) (lv' := [(0, .ref 0), (1, .int a)]) (st' := [.int ((Int32.ofInt 3)), .int a]) rfl ?_
    refine En_icLt _ rfl (by decide : (Int32.ofInt 3).toInt = 3) rfl (fun h4 => ?_) (fun h4 => ?_)
    · refine En_Ps 1 (pc' := 13) (lv' := [(0, .ref 0), (1, .int a)]) (st' := [.ref 0]) rfl ?_
      refine En_getU (j := 7) (u := 70) (g' := 29) (q := 0) rfl rfl rfl (by decide +kernel : TG 0 = 0) (by decide +kernel) hσ0 (by decide +kernel) (by decide +kernel) (fun h5 => ?_)
      refine En_Ps 1 (pc' := 17) (lv' := [(0, .ref 0), (1, .int a)]) (st' := [.int a, .ref 70]) rfl ?_
      refine En_aald (g' := 31) (u := 0) rfl rfl (by decide +kernel : TG 70 = 29) (by decide +kernel) hσ0 (by omega) (lnI (by decide +kernel : LN _ = 3) (by omega)) (FTsgl (by decide +kernel)) (fun a8 h7 ha8 => ?_)
      have h9 : a8 = 72 + 26 * (a.toInt).toNat := ref_uniq h7 (hM (a.toInt).toNat (by omega)).1
      refine En_Ps 1 (pc' := 19) (lv' := [(0, .ref 0), (1, .int a)]) (st' := [.ref 0, .ref a8]) rfl ?_
      refine En_getK (j := 9) h_p rfl rfl rfl (by decide +kernel : TG 0 = 0) (by decide +kernel) ?_
      refine En_callV rfl rfl rfl rfl rfl rfl rfl rfl ha8 (by decide +kernel) rfl (c_53ax σ0 hσ0 a8 ha8 p hp sg h_sg (by omega) (by rw [h9]; exact (SEP_i (by omega) hP).1) (by rw [h9]; exact (hM (a.toInt).toNat (by omega)).2) hX) (by decide) (by decide) (fun v11 σ12 h10 => ?_)
      obtain ⟨h13, h14, rfl, h15⟩ := h10
      have h16 := h15
      have h17 := Fr_trans hF0 h14 (by decide +kernel)
      refine En_Ps 1 (pc' := 26) (lv' := [(0, .ref 0), (1, .int a)]) (st' := [.ref 0]) rfl ?_
      refine En_getU (j := 8) (u := 71) (g' := 30) (q := 0) rfl rfl rfl (by decide +kernel : TG 0 = 0) (by decide +kernel) h13 (by decide +kernel) (by decide +kernel) (fun h18 => ?_)
      refine En_Ps 2 (pc' := 31) (lv' := [(0, .ref 0), (1, .int a)]) (st' := [.int ((Int32.ofInt 1)), .int a, .ref 71]) rfl ?_
      refine En_bast (l := 0) (u := 1) rfl rfl (by decide +kernel : TG 71 = 30) (by decide +kernel) (narZ (by decide : (Int32.ofInt 1).toInt = 1) (by omega) (by omega)) (by omega) (lnI (by decide +kernel : LN _ = 3) (by omega)) (FTsgl (by decide +kernel)) (rngI (by decide : (Int32.ofInt 1).toInt = 1) (by omega) (by omega)) h13 h17 (by decide +kernel) (fun σ20 h21 h22 h23 h24 => ?_)
      refine En_Ps 1 (pc' := 33) (lv' := [(0, .ref 0), (1, .int a)]) (st' := [.int ((Int32.ofInt 0))]) rfl ?_
      refine En_top (by decide : (Int32.ofInt 0).toInt = 0) (fun z25 h26 => ?_)
      exact En_ret (v := some (.int z25)) rfl rfl rfl ⟨h21, h22, z25, rfl, ⟨by omega, by omega, fun _ => by omega, fun _ => by omega, fun _ => by omega, IMC_ok (by omega) (by omega) h16 h9 h23 h24 (by decide)⟩⟩
    · refine En_Ps 1 (pc' := 11) (lv' := [(0, .ref 0), (1, .int a)]) (st' := [.int (((Int8.ofInt (-2)).toInt32))]) rfl ?_
      refine En_top (by decide : ((Int8.ofInt (-2)).toInt32).toInt = -2) (fun z27 h28 => ?_)
      exact En_ret (v := some (.int z27)) rfl rfl rfl ⟨hσ0, hF0, z27, rfl, ⟨by omega, by omega, fun _ => by omega, fun _ => by omega, fun _ => by omega, IMC_no (by omega)⟩⟩
/-- DoorSchool.left(I)I -/
abbrev P_152x (σ0 : SG) (Wv : Int → Int) (a : Int32) (p : Nat) (sg : Int32) : PO := fun v σ => WT σ ∧ Fr [(20, 2), (21, 0), (22, 0)] σ0 σ ∧ ∃ ret : Int32, v = some (.int ret) ∧ -ret.toInt - 2 ≤ 0 ∧ ret.toInt - 63 ≤ 0 ∧ (KN σ p Wv (act Wv) ∧ OUT σ0 σ p)
set_option maxRecDepth 10000 in
set_option maxHeartbeats 4000000 in
theorem c_152x {Wv : Int → Int} (σ0 : SG) (hσ0 : WT σ0) (a : Int32) (p : Nat) (hp : TG p = 18) (h_p : (σ0 0)[9]? = some (.ref p)) (sg : Int32) (h_sg : (σ0 p)[1]? = some (.int sg)) (hp0 : -sg.toInt ≤ 0) (hP : PLA p) (hX : FXP σ0 p) (hK : KN σ0 p Wv (act Wv)) (hB : WFw Wv) : En 6 141 none mr_152 (P_152x σ0 Wv a p sg) 0 [(0, .ref 0), (1, .int a)] [] σ0 := by
  obtain ⟨hl_sg, hu_sg⟩ := WT_int hσ0 (g := 18) hp (by decide +kernel) (l := (-1)) (u := 4) (by decide +kernel) h_sg
  have hF0 : Fr [(20, 2), (21, 0), (22, 0)] σ0 σ0 := Fr_rfl
  have t1 : Wv (0) = sg.toInt := KN_v hK (Or.inl (by decide)) (by omega) (by omega) (by rw [lcO_lt (by decide) (by decide), Nat.add_zero]) rfl h_sg
  obtain ⟨z3, h2, h4, h5⟩ := WT_peekI hσ0 hp (by decide +kernel : FT 18 3 = (0, 0, 4)) (by decide +kernel)
  have t6 : Wv (2) = z3.toInt := KN_v hK (Or.inl (by decide)) (by omega) (by omega) (by rw [lcO_lt (by decide) (by decide), Nat.add_zero]) rfl h2
  refine En_Ps 2 (pc' := 2) (lv' := [(0, .ref 0), (1, .int a)]) (st' := [.int a, .ref 0]) rfl ?_
  refine En_callV rfl rfl rfl rfl rfl rfl rfl rfl (by decide +kernel : TG 0 = 0) (by decide +kernel) rfl (c_135x σ0 hσ0 a p hp h_p sg h_sg (by omega) hP (FXP_fr hP hX hF0 (by decide +kernel)) hK hB) (by decide) (by decide) (fun v8 σ9 h7 => ?_)
  obtain ⟨h10, h11, z13, rfl, h12⟩ := h7
  have h14 := h12.2.2.2.2.2
  have h15 := Fr_trans hF0 h11 (by decide +kernel)
  have h16 := h14.2
  refine En_Ps 3 (pc' := 9) (lv' := [(2, .int z13), (0, .ref 0), (1, .int a)]) (st' := [.int (((Int8.ofInt (-2)).toInt32)), .int z13]) rfl ?_
  refine En_icNe _ rfl (by decide : ((Int8.ofInt (-2)).toInt32).toInt = -2) rfl (fun h17 => ?_) (fun h17 => ?_)
  · have h18 := Imp_m h12.2.2.1 (by omega)
    have h19 := Imp_m h12.2.2.2.2.1 (by omega)
    refine En_Ps 2 (pc' := 17) (lv' := [(2, .int z13), (0, .ref 0), (1, .int a)]) (st' := [.int ((Int32.ofInt (-1))), .int z13]) rfl ?_
    refine En_icNe _ rfl (by decide : (Int32.ofInt (-1)).toInt = -1) rfl (fun h20 => ?_) (fun h20 => ?_)
    · have h21 := Imp_m h12.2.2.2.1 (by omega)
      refine En_Ps 3 (pc' := 34) (lv' := [(2, .int z13), (0, .ref 0), (1, .int a)]) (st' := [.int z13, .int a, .ref 0]) rfl ?_
      refine En_callV rfl rfl rfl rfl rfl rfl rfl rfl (by decide +kernel : TG 0 = 0) (by decide +kernel) rfl (c_127x σ9 h10 a z13 (geI rfl (by omega)) (leI rfl (by omega)) (geI rfl (by omega)) (leI rfl (by omega)) p hp ((h11 _ _ (inW (by decide +kernel : TG 0 = 0) (by decide +kernel))).trans h_p) sg ((h11 _ _ (inW hp (by decide +kernel))).trans h_sg) (by omega) hP (FXP_fr hP hX h15 (by decide +kernel)) h14.1 hB (by omega)) (by decide) (by decide) (fun v23 σ24 h22 => ?_)
      obtain ⟨h25, h26, z28, rfl, h27⟩ := h22
      have h29 := h27.2.2
      have h30 := Fr_trans h15 h26 (by decide +kernel)
      have h31 := OUT_tr h16 h29.2
      exact En_ret (v := some (.int z28)) rfl rfl rfl ⟨h25, h30, z28, rfl, ⟨by omega, by omega, ⟨h29.1, h31⟩⟩⟩
    · refine En_Ps 2 (pc' := 22) (lv' := [(2, .int z13), (0, .ref 0), (1, .int a)]) (st' := [.int a, .ref 0]) rfl ?_
      refine En_callV rfl rfl rfl rfl rfl rfl rfl rfl (by decide +kernel : TG 0 = 0) (by decide +kernel) rfl (c_126 σ9 h10 a (geI rfl (by omega)) (leI rfl (by omega)) p hp ((h11 _ _ (inW (by decide +kernel : TG 0 = 0) (by decide +kernel))).trans h_p) sg ((h11 _ _ (inW hp (by decide +kernel))).trans h_sg) (by omega)) (by decide) (by decide) (fun v33 σ34 h32 => ?_)
      obtain ⟨h35, h36, z38, rfl, h37⟩ := h32
      obtain rfl : σ9 = σ34 := Fr_nil h36
      refine En_callS rfl rfl rfl rfl rfl rfl rfl rfl rfl (c_7bx σ9 h10 z38) (by decide) (by decide) (fun v40 σ41 h39 => ?_)
      obtain ⟨h42, h43, z45, rfl, h44⟩ := h39
      obtain rfl : σ9 = σ41 := Fr_nil h43
      refine En_Ps 1 (pc' := 37) (lv' := [(2, .int z13), (0, .ref 0), (1, .int a)]) (st' := [.int z45]) rfl ?_
      exact En_ret (v := some (.int z45)) rfl rfl rfl ⟨h10, h15, z45, rfl, ⟨by omega, by omega, ⟨h14.1, h16⟩⟩⟩
  · refine En_Ps 1 (pc' := 14) (lv' := [(2, .int z13), (0, .ref 0), (1, .int a)]) (st' := [.int (((Int8.ofInt (-2)).toInt32))]) rfl ?_
    refine En_top (by decide : ((Int8.ofInt (-2)).toInt32).toInt = -2) (fun z46 h47 => ?_)
    exact En_ret (v := some (.int z46)) rfl rfl rfl ⟨h10, h15, z46, rfl, ⟨by omega, by omega, ⟨h14.1, h16⟩⟩⟩
/-- DoorSchool.lesson(III)I -/
abbrev P_154x (σ0 : SG) (Wv : Int → Int) (a : Int32) (b : Int32) (c : Int32) (p : Nat) (sg : Int32) : PO := fun v σ => WT σ ∧ Fr [] σ0 σ ∧ ∃ ret : Int32, v = some (.int ret) ∧ -ret.toInt - 2 ≤ 0 ∧ ret.toInt - 15 ≤ 0 ∧ ret.toInt = leR Wv a.toInt b.toInt c.toInt
set_option maxRecDepth 10000 in
set_option maxHeartbeats 4000000 in
theorem c_154x {Wv : Int → Int} (σ0 : SG) (hσ0 : WT σ0) (a : Int32) (b : Int32) (c : Int32) (p : Nat) (hp : TG p = 18) (h_p : (σ0 0)[9]? = some (.ref p)) (sg : Int32) (h_sg : (σ0 p)[1]? = some (.int sg)) (hp0 : -sg.toInt ≤ 0) (hP : PLA p) (hX : FXP σ0 p) (hK : KN σ0 p Wv (act Wv)) (hB : WFw Wv) : En 1 21 none mr_154 (P_154x σ0 Wv a b c p sg) 0 [(0, .ref 0), (1, .int a), (2, .int b), (3, .int c)] [] σ0 := by
  obtain ⟨hl_sg, hu_sg⟩ := WT_int hσ0 (g := 18) hp (by decide +kernel) (l := (-1)) (u := 4) (by decide +kernel) h_sg
  have hF0 : Fr [] σ0 σ0 := Fr_rfl
  have t1 : Wv (0) = sg.toInt := KN_v hK (Or.inl (by decide)) (by omega) (by omega) (by rw [lcO_lt (by decide) (by decide), Nat.add_zero]) rfl h_sg
  refine En_Ps 1 (pc' := 1) (lv' := [(0, .ref 0), (1, .int a), (2, .int b), (3, .int c)]) (st' := [.ref 0]) rfl ?_
  refine En_getK (j := 9) h_p rfl rfl rfl (by decide +kernel : TG 0 = 0) (by decide +kernel) ?_
  refine En_Ps 1 (pc' := 5) (lv' := [(0, .ref 0), (1, .int a), (2, .int b), (3, .int c)]) (st' := [.int a, .ref p]) rfl ?_
  obtain ⟨z3, h2, h4, h5⟩ := WT_peekI hσ0 hp (by decide +kernel : FT 18 3 = (0, 0, 4)) (by decide +kernel)
  have t6 : Wv (2) = z3.toInt := KN_v hK (Or.inl (by decide)) (by omega) (by omega) (by rw [lcO_lt (by decide) (by decide), Nat.add_zero]) rfl h2
  refine En_callV rfl rfl rfl rfl rfl rfl rfl rfl hp (by decide +kernel) rfl (c_47x σ0 hσ0 p hp a z3 h2) (by decide) (by decide) (fun v8 σ9 h7 => ?_)
  obtain ⟨h10, h11, z13, rfl, h12⟩ := h7
  obtain rfl : σ0 = σ9 := Fr_nil h11
  have h14 := Imp_m h12.2.2.1
  have h15 := Imp_m h12.2.2.2.1
  have h16 := Imp_m h12.2.2.2.2.1
  have h17 := Imp_m h12.2.2.2.2.2
  refine En_iEq _ rfl rfl (fun h18 => ?_) (fun h18 => ?_)
  · have h19 := Imp_m h12.2.2.2.2.1 (by omega)
    refine En_Ps 1 (pc' := 20) (lv' := [(0, .ref 0), (1, .int a), (2, .int b), (3, .int c)]) (st' := [.int (((Int8.ofInt (-2)).toInt32))]) rfl ?_
    refine En_top (by decide : ((Int8.ofInt (-2)).toInt32).toInt = -2) (fun z20 h21 => ?_)
    exact En_ret (v := some (.int z20)) rfl rfl rfl ⟨hσ0, hF0, z20, rfl, ⟨by omega, by omega, (by have e := leR_2 (w := Wv) (d := a.toInt) (i := b.toInt) (q := c.toInt) (by omega); omega)⟩⟩
  · have h22 := Imp_m h12.2.2.1 (by omega)
    have h23 := Imp_m h12.2.2.2.1 (by omega)
    have h24 := Imp_m h12.2.2.2.2.2 (by omega)
    refine En_Ps 1 (pc' := 12) (lv' := [(0, .ref 0), (1, .int a), (2, .int b), (3, .int c)]) (st' := [.int c]) rfl ?_
    refine En_callS rfl rfl rfl rfl rfl rfl rfl rfl rfl (c_149x σ0 hσ0 c) (by decide) (by decide) (fun v26 σ27 h25 => ?_)
    obtain ⟨h28, h29, z31, rfl, h30⟩ := h25
    have h32 := h30.2.2.2
    obtain rfl : σ0 = σ27 := Fr_nil h29
    have h33 := Imp_m h30.2.2.1
    refine En_iNe _ rfl rfl (fun h34 => ?_) (fun h34 => ?_)
    · have h35 := Imp_m h30.2.2.1 (by omega)
      have h36 := hB.2.2.2.2.2.2 a.toInt (by omega) (by omega)
      refine En_Ps 1 (pc' := 22) (lv' := [(0, .ref 0), (1, .int a), (2, .int b), (3, .int c)]) (st' := [.ref 0]) rfl ?_
      refine En_getK (j := 9) h_p rfl rfl rfl (by decide +kernel : TG 0 = 0) (by decide +kernel) ?_
      refine En_getR (j := 4) (g' := 19) (u := 0) rfl rfl rfl hp (by decide +kernel) hσ0 (by decide +kernel) (fun a38 h37 ha38 => ?_)
      have t39 : a38 = p + 1 := ref_uniq h37 (FXP_fr hP hX hF0 (by decide +kernel)).1
      refine En_Ps 1 (pc' := 29) (lv' := [(0, .ref 0), (1, .int a), (2, .int b), (3, .int c)]) (st' := [.int a, .ref a38]) rfl ?_
      refine En_aald (g' := 28) (u := 0) rfl rfl ha38 (by decide +kernel) hσ0 (by omega) (lnI (by decide +kernel : LN _ = 4) (by omega)) (FTsgl (by decide +kernel)) (fun a41 h40 ha41 => ?_)
      have t42 : a41 = p + 10 + 4 * (a.toInt).toNat := DRe (d := a.toInt) (FXP_fr hP hX hF0 (by decide +kernel)) t39 h40 (by omega) (by omega)
      have t43 := lc_d (d := a.toInt) (by omega) (by omega)
      refine En_getR (j := 0) (g' := 20) (u := 0) rfl rfl rfl ha41 (by decide +kernel) hσ0 (by decide +kernel) (fun a45 h44 ha45 => ?_)
      have t46 : a45 = p + 11 + 4 * (a.toInt).toNat := DLc (d := a.toInt) (FXP_fr hP hX hF0 (by decide +kernel)) t42 h44 (by omega) (by omega)
      refine En_Ps 2 (pc' := 36) (lv' := [(4, .ref a45), (0, .ref 0), (1, .int a), (2, .int b), (3, .int c)]) (st' := [.int b]) rfl ?_
      refine En_iLt _ rfl rfl (fun h47 => ?_) (fun h47 => ?_)
      · refine En_Ps 1 (pc' := 49) (lv' := [(4, .ref a45), (0, .ref 0), (1, .int a), (2, .int b), (3, .int c)]) (st' := [.int ((Int32.ofInt (-1)))]) rfl ?_
        refine En_top (by decide : (Int32.ofInt (-1)).toInt = -1) (fun z48 h49 => ?_)
        exact En_ret (v := some (.int z48)) rfl rfl rfl ⟨hσ0, hF0, z48, rfl, ⟨by omega, by omega, (by have e := leR_1 (w := Wv) (d := a.toInt) (i := b.toInt) (q := c.toInt) (by omega) (by omega); omega)⟩⟩
      · refine En_Ps 2 (pc' := 42) (lv' := [(4, .ref a45), (0, .ref 0), (1, .int a), (2, .int b), (3, .int c)]) (st' := [.ref a45, .int b]) rfl ?_
        refine En_getI (j := 2) (l := 0) (u := 13) rfl rfl rfl ha45 (by decide +kernel) hσ0 (by decide +kernel) (fun z51 h50 h52 h53 => ?_)
        have t54 : Wv (12 + 4 * (a.toInt)) = z51.toInt := KN_v hK (Or.inr (Or.inl ⟨by omega, by omega, by omega⟩)) (by omega) (by omega) (by omega) (by omega) h50
        refine En_icLt _ rfl rfl rfl (fun h55 => ?_) (fun h55 => ?_)
        · refine En_Ps 1 (pc' := 51) (lv' := [(4, .ref a45), (0, .ref 0), (1, .int a), (2, .int b), (3, .int c)]) (st' := [.int c]) rfl ?_
          refine En_iNe _ rfl rfl (fun h56 => ?_) (fun h56 => ?_)
          · refine En_Ps 1 (pc' := 66) (lv' := [(4, .ref a45), (0, .ref 0), (1, .int a), (2, .int b), (3, .int c)]) (st' := [.ref a45]) rfl ?_
            refine En_getR (j := 1) (g' := 22) (u := 0) rfl rfl rfl ha45 (by decide +kernel) hσ0 (by decide +kernel) (fun a58 h57 ha58 => ?_)
            have t59 : a58 = p + 13 + 4 * (a.toInt).toNat := DKo (d := a.toInt) (FXP_fr hP hX hF0 (by decide +kernel)) t46 h57 (by omega) (by omega)
            refine En_Ps 1 (pc' := 70) (lv' := [(4, .ref a45), (0, .ref 0), (1, .int a), (2, .int b), (3, .int c)]) (st' := [.int b, .ref a58]) rfl ?_
            refine En_iald (l := 0) (u := 1) rfl rfl ha58 (by decide +kernel) hσ0 (by omega) (lnI (by decide +kernel : LN _ = 13) (by omega)) (FTsgl (by decide +kernel)) (fun z61 h60 h62 h63 => ?_)
            have t64 := lc_l (d := a.toInt) (m := b.toInt) (by omega) (by omega) (by omega) (by omega)
            have t65 : Wv (26 + 24 * (a.toInt) + 2 * (b.toInt) + 1) = z61.toInt := KN_v hK (act_lo (d := a.toInt) (m := b.toInt) (by omega) (by omega) (by omega) (by omega) (by omega) (by omega)) (by omega) (by omega) (by omega) (by omega) h60
            exact En_ret (v := some (.int z61)) rfl rfl rfl ⟨hσ0, hF0, z61, rfl, ⟨by omega, by omega, (by have e := leR_y (w := Wv) (d := a.toInt) (i := b.toInt) (q := c.toInt) (by omega) (by omega) t65; omega)⟩⟩
          · refine En_Ps 1 (pc' := 56) (lv' := [(4, .ref a45), (0, .ref 0), (1, .int a), (2, .int b), (3, .int c)]) (st' := [.ref a45]) rfl ?_
            refine En_getR (j := 0) (g' := 21) (u := 0) rfl rfl rfl ha45 (by decide +kernel) hσ0 (by decide +kernel) (fun a67 h66 ha67 => ?_)
            have t68 : a67 = p + 12 + 4 * (a.toInt).toNat := DKk (d := a.toInt) (FXP_fr hP hX hF0 (by decide +kernel)) t46 h66 (by omega) (by omega)
            refine En_Ps 1 (pc' := 60) (lv' := [(4, .ref a45), (0, .ref 0), (1, .int a), (2, .int b), (3, .int c)]) (st' := [.int b, .ref a67]) rfl ?_
            refine En_iald (l := 0) (u := 15) rfl rfl ha67 (by decide +kernel) hσ0 (by omega) (lnI (by decide +kernel : LN _ = 13) (by omega)) (FTsgl (by decide +kernel)) (fun z70 h69 h71 h72 => ?_)
            have t73 := lc_l (d := a.toInt) (m := b.toInt) (by omega) (by omega) (by omega) (by omega)
            have t74 : Wv (26 + 24 * (a.toInt) + 2 * (b.toInt)) = z70.toInt := KN_v hK (act_lk (d := a.toInt) (m := b.toInt) (by omega) (by omega) (by omega) (by omega) (by omega) (by omega)) (by omega) (by omega) (by omega) (by omega) h69
            refine En_Ps 1 (pc' := 71) (lv' := [(4, .ref a45), (0, .ref 0), (1, .int a), (2, .int b), (3, .int c)]) (st' := [.int z70]) rfl ?_
            exact En_ret (v := some (.int z70)) rfl rfl rfl ⟨hσ0, hF0, z70, rfl, ⟨by omega, by omega, (by have e := leR_y (w := Wv) (d := a.toInt) (i := b.toInt) (q := c.toInt) (by omega) (by omega) t74; omega)⟩⟩
        · refine En_Ps 1 (pc' := 49) (lv' := [(4, .ref a45), (0, .ref 0), (1, .int a), (2, .int b), (3, .int c)]) (st' := [.int ((Int32.ofInt (-1)))]) rfl ?_
          refine En_top (by decide : (Int32.ofInt (-1)).toInt = -1) (fun z75 h76 => ?_)
          exact En_ret (v := some (.int z75)) rfl rfl rfl ⟨hσ0, hF0, z75, rfl, ⟨by omega, by omega, (by have e := leR_1 (w := Wv) (d := a.toInt) (i := b.toInt) (q := c.toInt) (by omega) (by omega); omega)⟩⟩
    · refine En_Ps 1 (pc' := 20) (lv' := [(0, .ref 0), (1, .int a), (2, .int b), (3, .int c)]) (st' := [.int (((Int8.ofInt (-2)).toInt32))]) rfl ?_
      refine En_top (by decide : ((Int8.ofInt (-2)).toInt32).toInt = -2) (fun z77 h78 => ?_)
      exact En_ret (v := some (.int z77)) rfl rfl rfl ⟨hσ0, hF0, z77, rfl, ⟨by omega, by omega, (by have e := leR_2 (w := Wv) (d := a.toInt) (i := b.toInt) (q := c.toInt) (by omega); omega)⟩⟩
/-- DoorSchool.opens(II)I -/
abbrev P_159x (σ0 : SG) (Wv : Int → Int) (a : Int32) (b : Int32) (p : Nat) (sg : Int32) : PO := fun v σ => WT σ ∧ Fr [] σ0 σ ∧ ∃ ret : Int32, v = some (.int ret) ∧ -ret.toInt - 2 ≤ 0 ∧ ret.toInt - 1 ≤ 0 ∧ ret.toInt = opR Wv a.toInt b.toInt
set_option maxRecDepth 10000 in
set_option maxHeartbeats 4000000 in
theorem c_159x {Wv : Int → Int} (σ0 : SG) (hσ0 : WT σ0) (a : Int32) (b : Int32) (p : Nat) (hp : TG p = 18) (h_p : (σ0 0)[9]? = some (.ref p)) (sg : Int32) (h_sg : (σ0 p)[1]? = some (.int sg)) (hp0 : -sg.toInt ≤ 0) (hP : PLA p) (hX : FXP σ0 p) (hK : KN σ0 p Wv (act Wv)) (hB : WFw Wv) (hT : TWN Wv) (hQ : 0 < Wv 7 → RULx σ0 (Wv 0)) (hq : QX Wv) : En 4 92 none mr_159 (P_159x σ0 Wv a b p sg) 0 [(0, .ref 0), (1, .int a), (2, .int b)] [] σ0 := by
  obtain ⟨hl_sg, hu_sg⟩ := WT_int hσ0 (g := 18) hp (by decide +kernel) (l := (-1)) (u := 4) (by decide +kernel) h_sg
  have hF0 : Fr [] σ0 σ0 := Fr_rfl
  have t1 : Wv (0) = sg.toInt := KN_v hK (Or.inl (by decide)) (by omega) (by omega) (by rw [lcO_lt (by decide) (by decide), Nat.add_zero]) rfl h_sg
  obtain ⟨z3, h2, h4, h5⟩ := WT_peekI hσ0 hp (by decide +kernel : FT 18 3 = (0, 0, 4)) (by decide +kernel)
  have t6 : Wv (2) = z3.toInt := KN_v hK (Or.inl (by decide)) (by omega) (by omega) (by rw [lcO_lt (by decide) (by decide), Nat.add_zero]) rfl h2
  have h7 := hB.2.2.1
  have h8 := hB.1
  have h9 := hB.2.1
  refine En_Ps 1 (pc' := 1) (lv' := [(0, .ref 0), (1, .int a), (2, .int b)]) (st' := [.ref 0]) rfl ?_
  refine En_getK (j := 9) h_p rfl rfl rfl (by decide +kernel : TG 0 = 0) (by decide +kernel) ?_
  refine En_Ps 1 (pc' := 5) (lv' := [(0, .ref 0), (1, .int a), (2, .int b)]) (st' := [.int a, .ref p]) rfl ?_
  refine En_callV rfl rfl rfl rfl rfl rfl rfl rfl hp (by decide +kernel) rfl (c_47x σ0 hσ0 p hp a z3 h2) (by decide) (by decide) (fun v11 σ12 h10 => ?_)
  obtain ⟨h13, h14, z16, rfl, h15⟩ := h10
  obtain rfl : σ0 = σ12 := Fr_nil h14
  have h17 := Imp_m h15.2.2.1
  have h18 := Imp_m h15.2.2.2.1
  have h19 := Imp_m h15.2.2.2.2.1
  have h20 := Imp_m h15.2.2.2.2.2
  refine En_iEq _ rfl rfl (fun h21 => ?_) (fun h21 => ?_)
  · have h22 := Imp_m h15.2.2.2.2.1 (by omega)
    refine En_Ps 1 (pc' := 24) (lv' := [(0, .ref 0), (1, .int a), (2, .int b)]) (st' := [.int (((Int8.ofInt (-2)).toInt32))]) rfl ?_
    refine En_top (by decide : ((Int8.ofInt (-2)).toInt32).toInt = -2) (fun z23 h24 => ?_)
    exact En_ret (v := some (.int z23)) rfl rfl rfl ⟨hσ0, hF0, z23, rfl, ⟨by omega, by omega, opR_n (fun ⟨q1, q2, q3, q4, q5⟩ => by omega) (by omega)⟩⟩
  · have h25 := Imp_m h15.2.2.1 (by omega)
    have h26 := Imp_m h15.2.2.2.1 (by omega)
    have h27 := Imp_m h15.2.2.2.2.2 (by omega)
    refine En_Ps 1 (pc' := 12) (lv' := [(0, .ref 0), (1, .int a), (2, .int b)]) (st' := [.ref 0]) rfl ?_
    refine En_getK (j := 9) h_p rfl rfl rfl (by decide +kernel : TG 0 = 0) (by decide +kernel) ?_
    refine En_Ps 1 (pc' := 16) (lv' := [(0, .ref 0), (1, .int a), (2, .int b)]) (st' := [.int b, .ref p]) rfl ?_
    obtain ⟨z29, h28, h30, h31⟩ := WT_peekI hσ0 hp (by decide +kernel : FT 18 0 = (0, 0, 1601)) (by decide +kernel)
    have t32 : Wv (7) = z29.toInt := KN_v hK (Or.inl (by decide)) (by omega) (by omega) (by rw [lcO_lt (by decide) (by decide), Nat.add_zero]) rfl h28
    refine En_callV rfl rfl rfl rfl rfl rfl rfl rfl hp (by decide +kernel) rfl (c_49x σ0 hσ0 p hp b z29 h28 sg h_sg (by omega)) (by decide) (by decide) (fun v34 σ35 h33 => ?_)
    obtain ⟨h36, h37, z39, rfl, h38⟩ := h33
    have h40 := h38.2.2.2
    obtain rfl : σ0 = σ35 := Fr_nil h37
    have h41 := h40
    have h42 : pI (Wv 0) = pI (sg.toInt) := by rw [t1]
    refine En_iNe _ rfl rfl (fun h43 => ?_) (fun h43 => ?_)
    · have h44 := Imp_m h38.2.2.1 (by omega)
      have h45 := pI_rng (s := Wv 0) (by omega) (by omega)
      have h46 : 0 ≤ b.toInt ∧ b.toInt ≤ 15 := by omega
      refine En_Ps 2 (pc' := 27) (lv' := [(0, .ref 0), (1, .int a), (2, .int b)]) (st' := [.int a, .ref 0]) rfl ?_
      refine En_callV rfl rfl rfl rfl rfl rfl rfl rfl (by decide +kernel : TG 0 = 0) (by decide +kernel) rfl (c_114x σ0 hσ0 a (geI rfl (by omega)) (leI rfl (by omega)) p hp h_p sg h_sg (by omega) hP (FXP_fr hP hX hF0 (by decide +kernel)) hK hB hT (by omega) (hQ (hq (by omega)))) (by decide) (by decide) (fun v48 σ49 h47 => ?_)
      obtain ⟨h50, h51, z53, rfl, h52⟩ := h47
      have h54 := h52.2.2
      obtain rfl : σ0 = σ49 := Fr_nil h51
      refine En_Ps 1 (pc' := 31) (lv' := [(0, .ref 0), (1, .int a), (2, .int b)]) (st' := [.int b, .int z53]) rfl ?_
      refine En_callS rfl rfl rfl rfl rfl rfl rfl rfl rfl (c_108ax σ0 hσ0 z53 b (geI rfl (by omega)) (leI rfl (by omega)) (geI rfl (by omega)) (leI rfl (by omega))) (by decide) (by decide) (fun v56 σ57 h55 => ?_)
      obtain ⟨h58, h59, z61, rfl, h60⟩ := h55
      have h62 := h60.2.2
      obtain rfl : σ0 = σ57 := Fr_nil h59
      exact En_ret (v := some (.int z61)) rfl rfl rfl ⟨hσ0, hF0, z61, rfl, ⟨by omega, by omega, opR_y ⟨by omega, by omega, by omega, by omega, by omega⟩ h62 h54⟩⟩
    · refine En_Ps 1 (pc' := 24) (lv' := [(0, .ref 0), (1, .int a), (2, .int b)]) (st' := [.int (((Int8.ofInt (-2)).toInt32))]) rfl ?_
      refine En_top (by decide : ((Int8.ofInt (-2)).toInt32).toInt = -2) (fun z63 h64 => ?_)
      exact En_ret (v := some (.int z63)) rfl rfl rfl ⟨hσ0, hF0, z63, rfl, ⟨by omega, by omega, opR_n (fun ⟨q1, q2, q3, q4, q5⟩ => by omega) (by omega)⟩⟩
/-- DoorSchool.owns(II)I -/
abbrev P_161x (σ0 : SG) (Wv : Int → Int) (a : Int32) (b : Int32) (p : Nat) (sg : Int32) : PO := fun v σ => WT σ ∧ Fr [(18, 6), (18, 7)] σ0 σ ∧ ∃ ret : Int32, v = some (.int ret) ∧ -ret.toInt - 2 ≤ 0 ∧ ret.toInt - 65535 ≤ 0 ∧ (KN σ p (owW Wv a.toInt b.toInt) (act (owW Wv a.toInt b.toInt)) ∧ OUT σ0 σ p)
set_option maxRecDepth 10000 in
set_option maxHeartbeats 4000000 in
theorem c_161x {Wv : Int → Int} (σ0 : SG) (hσ0 : WT σ0) (a : Int32) (b : Int32) (p : Nat) (hp : TG p = 18) (h_p : (σ0 0)[9]? = some (.ref p)) (sg : Int32) (h_sg : (σ0 p)[1]? = some (.int sg)) (hp0 : -sg.toInt ≤ 0) (hP : PLA p) (hX : FXP σ0 p) (hK : KN σ0 p Wv (act Wv)) : En 3 63 none mr_161 (P_161x σ0 Wv a b p sg) 0 [(0, .ref 0), (1, .int a), (2, .int b)] [] σ0 := by
  obtain ⟨hl_sg, hu_sg⟩ := WT_int hσ0 (g := 18) hp (by decide +kernel) (l := (-1)) (u := 4) (by decide +kernel) h_sg
  have hF0 : Fr [(18, 6), (18, 7)] σ0 σ0 := Fr_rfl
  have t1 : Wv (0) = sg.toInt := KN_v hK (Or.inl (by decide)) (by omega) (by omega) (by rw [lcO_lt (by decide) (by decide), Nat.add_zero]) rfl h_sg
  refine En_Ps 1 (pc' := 1) (lv' := [(0, .ref 0), (1, .int a), (2, .int b)]) (st' := [.ref 0]) rfl ?_
  refine En_getK (j := 9) h_p rfl rfl rfl (by decide +kernel : TG 0 = 0) (by decide +kernel) ?_
  refine En_Ps 2 (pc' := 6) (lv' := [(0, .ref 0), (1, .int a), (2, .int b)]) (st' := [.int b, .int a, .ref p]) rfl ?_
  obtain ⟨z3, h2, h4, h5⟩ := WT_peekI hσ0 hp (by decide +kernel : FT 18 0 = (0, 0, 1601)) (by decide +kernel)
  have t6 : Wv (7) = z3.toInt := KN_v hK (Or.inl (by decide)) (by omega) (by omega) (by rw [lcO_lt (by decide) (by decide), Nat.add_zero]) rfl h2
  refine En_callV rfl rfl rfl rfl rfl rfl rfl rfl hp (by decide +kernel) rfl (c_50x σ0 hσ0 p hp a b z3 h2 sg h_sg (by omega)) (by decide) (by decide) (fun v8 σ9 h7 => ?_)
  obtain ⟨h10, h11, z13, rfl, h12⟩ := h7
  have h14 := h12.2.2.2
  obtain rfl : σ0 = σ9 := Fr_nil h11
  have h15 := h14
  have h16 : pI (Wv 0) = pI (sg.toInt) := by rw [t1]
  refine En_iNe _ rfl rfl (fun h17 => ?_) (fun h17 => ?_)
  · have h18 := Imp_m h12.2.2.1 (by omega)
    refine En_Ps 1 (pc' := 16) (lv' := [(0, .ref 0), (1, .int a), (2, .int b)]) (st' := [.ref 0]) rfl ?_
    refine En_callV rfl rfl rfl rfl rfl rfl rfl rfl (by decide +kernel : TG 0 = 0) (by decide +kernel) rfl (c_160 σ0 hσ0 p hp h_p sg h_sg (by omega)) (by decide) (by decide) (fun v20 σ21 h19 => ?_)
    obtain ⟨h22, h23, z25, rfl, h24⟩ := h19
    obtain rfl : σ0 = σ21 := Fr_nil h23
    refine En_Ps 2 (pc' := 21) (lv' := [(3, .int z25), (0, .ref 0), (1, .int a), (2, .int b)]) (st' := [.ref 0]) rfl ?_
    refine En_getK (j := 9) h_p rfl rfl rfl (by decide +kernel : TG 0 = 0) (by decide +kernel) ?_
    refine En_Ps 1 (pc' := 25) (lv' := [(3, .int z25), (0, .ref 0), (1, .int a), (2, .int b)]) (st' := [.int a, .ref p]) rfl ?_
    refine En_put (j := 6) rfl rfl rfl hp (by decide +kernel) rfl (vI (l := 0) (u := 15) (by decide +kernel) rfl (by omega) (by omega)) hσ0 hF0 (by decide +kernel) (fun σ26 h27 h28 h29 h30 => ?_)
    refine En_Ps 1 (pc' := 29) (lv' := [(3, .int z25), (0, .ref 0), (1, .int a), (2, .int b)]) (st' := [.ref 0]) rfl ?_
    refine En_getK (j := 9) ((h30 _ _ (Or.inr (by decide))).trans h_p) rfl rfl rfl (by decide +kernel : TG 0 = 0) (by decide +kernel) ?_
    refine En_Ps 1 (pc' := 33) (lv' := [(3, .int z25), (0, .ref 0), (1, .int a), (2, .int b)]) (st' := [.int b, .ref p]) rfl ?_
    refine En_put (j := 7) rfl rfl rfl hp (by decide +kernel) rfl (vI (l := 0) (u := 15) (by decide +kernel) rfl (by omega) (by omega)) h27 h28 (by decide +kernel) (fun σ31 h32 h33 h34 h35 => ?_)
    refine En_Ps 1 (pc' := 37) (lv' := [(3, .int z25), (0, .ref 0), (1, .int a), (2, .int b)]) (st' := [.int z25]) rfl ?_
    exact En_ret (v := some (.int z25)) rfl rfl rfl ⟨h32, h33, z25, rfl, ⟨by omega, by omega, (by rw [owW_y (by omega)]; exact KN_two hK (PLA_B hP) h29 h30 h34 h35)⟩⟩
  · refine En_Ps 1 (pc' := 14) (lv' := [(0, .ref 0), (1, .int a), (2, .int b)]) (st' := [.int (((Int8.ofInt (-2)).toInt32))]) rfl ?_
    refine En_top (by decide : ((Int8.ofInt (-2)).toInt32).toInt = -2) (fun z36 h37 => ?_)
    exact En_ret (v := some (.int z36)) rfl rfl rfl ⟨hσ0, hF0, z36, rfl, ⟨by omega, by omega, (by rw [owW_n (by omega)]; exact ⟨hK, OUT_0⟩)⟩⟩
/-- DoorSchool.row(III)I -/
abbrev P_165x (σ0 : SG) (a : Int32) (b : Int32) (c : Int32) (p : Nat) (sg : Int32) : PO := fun v σ => WT σ ∧ Fr [(33, 1), (33, 2), (33, 3), (34, 0)] σ0 σ ∧ ∃ ret : Int32, v = some (.int ret) ∧ -ret.toInt - 3 ≤ 0 ∧ ret.toInt ≤ 0 ∧ Imp (-a.toInt ≤ 0 ∧ a.toInt - 3 ≤ 0 ∧ -b.toInt ≤ 0 ∧ b.toInt - 3 ≤ 0 ∧ c.toInt - 60 ≤ 0 ∧ -c.toInt ≤ 0) (ret.toInt ≤ 0 ∧ -ret.toInt ≤ 0) ∧ Imp (-a.toInt ≤ 0 ∧ a.toInt - 3 ≤ 0 ∧ -b.toInt ≤ 0 ∧ b.toInt - 3 ≤ 0 ∧ c.toInt - 60 ≤ 0 ∧ c.toInt + 1 ≤ 0) (ret.toInt + 3 ≤ 0 ∧ -ret.toInt - 3 ≤ 0) ∧ Imp (a.toInt + 1 ≤ 0) (ret.toInt + 2 ≤ 0 ∧ -ret.toInt - 2 ≤ 0) ∧ Imp (-a.toInt + 4 ≤ 0) (ret.toInt + 2 ≤ 0 ∧ -ret.toInt - 2 ≤ 0) ∧ Imp (b.toInt + 1 ≤ 0) (ret.toInt + 2 ≤ 0 ∧ -ret.toInt - 2 ≤ 0) ∧ Imp (-b.toInt + 4 ≤ 0) (ret.toInt + 2 ≤ 0 ∧ -ret.toInt - 2 ≤ 0) ∧ Imp (-c.toInt + 61 ≤ 0) (ret.toInt + 2 ≤ 0 ∧ -ret.toInt - 2 ≤ 0)
set_option maxRecDepth 10000 in
set_option maxHeartbeats 4000000 in
theorem c_165x (σ0 : SG) (hσ0 : WT σ0) (a : Int32) (b : Int32) (c : Int32) (p : Nat) (hp : TG p = 18) (h_p : (σ0 0)[9]? = some (.ref p)) (sg : Int32) (h_sg : (σ0 p)[1]? = some (.int sg)) (hp0 : -sg.toInt ≤ 0) : En 2 46 none mr_165 (P_165x σ0 a b c p sg) 0 [(0, .ref 0), (1, .int a), (2, .int b), (3, .int c)] [] σ0 := by
  obtain ⟨hl_sg, hu_sg⟩ := WT_int hσ0 (g := 18) hp (by decide +kernel) (l := (-1)) (u := 4) (by decide +kernel) h_sg
  have hF0 : Fr [(33, 1), (33, 2), (33, 3), (34, 0)] σ0 σ0 := Fr_rfl
  refine En_Ps 1 (pc' := 1) (lv' := [(0, .ref 0), (1, .int a), (2, .int b), (3, .int c)]) (st' := [.int a]) rfl ?_
  refine En_callS rfl rfl rfl rfl rfl rfl rfl rfl rfl (c_147 σ0 hσ0 a) (by decide) (by decide) (fun v2 σ3 h1 => ?_)
  obtain ⟨h4, h5, z7, rfl, h6⟩ := h1
  have h8 := Fr_trans hF0 h5 (by decide +kernel)
  refine En_iEq _ rfl rfl (fun h9 => ?_) (fun h9 => ?_)
  · refine En_Ps 1 (pc' := 24) (lv' := [(0, .ref 0), (1, .int a), (2, .int b), (3, .int c)]) (st' := [.int (((Int8.ofInt (-2)).toInt32))]) rfl ?_
    refine En_top (by decide : ((Int8.ofInt (-2)).toInt32).toInt = -2) (fun z10 h11 => ?_)
    exact En_ret (v := some (.int z10)) rfl rfl rfl ⟨h4, h8, z10, rfl, ⟨by omega, by omega, fun _ => by omega, fun _ => by omega, fun _ => by omega, fun _ => by omega, fun _ => by omega, fun _ => by omega, fun _ => by omega⟩⟩
  · refine En_Ps 1 (pc' := 8) (lv' := [(0, .ref 0), (1, .int a), (2, .int b), (3, .int c)]) (st' := [.int b]) rfl ?_
    refine En_iLt _ rfl rfl (fun h12 => ?_) (fun h12 => ?_)
    · refine En_Ps 1 (pc' := 24) (lv' := [(0, .ref 0), (1, .int a), (2, .int b), (3, .int c)]) (st' := [.int (((Int8.ofInt (-2)).toInt32))]) rfl ?_
      refine En_top (by decide : ((Int8.ofInt (-2)).toInt32).toInt = -2) (fun z13 h14 => ?_)
      exact En_ret (v := some (.int z13)) rfl rfl rfl ⟨h4, h8, z13, rfl, ⟨by omega, by omega, fun _ => by omega, fun _ => by omega, fun _ => by omega, fun _ => by omega, fun _ => by omega, fun _ => by omega, fun _ => by omega⟩⟩
    · refine En_Ps 2 (pc' := 13) (lv' := [(0, .ref 0), (1, .int a), (2, .int b), (3, .int c)]) (st' := [.int ((Int32.ofInt 4)), .int b]) rfl ?_
      refine En_icGe _ rfl (by decide : (Int32.ofInt 4).toInt = 4) rfl (fun h15 => ?_) (fun h15 => ?_)
      · refine En_Ps 1 (pc' := 24) (lv' := [(0, .ref 0), (1, .int a), (2, .int b), (3, .int c)]) (st' := [.int (((Int8.ofInt (-2)).toInt32))]) rfl ?_
        refine En_top (by decide : ((Int8.ofInt (-2)).toInt32).toInt = -2) (fun z16 h17 => ?_)
        exact En_ret (v := some (.int z16)) rfl rfl rfl ⟨h4, h8, z16, rfl, ⟨by omega, by omega, fun _ => by omega, fun _ => by omega, fun _ => by omega, fun _ => by omega, fun _ => by omega, fun _ => by omega, fun _ => by omega⟩⟩
      · refine En_Ps 2 (pc' := 19) (lv' := [(0, .ref 0), (1, .int a), (2, .int b), (3, .int c)]) (st' := [.int (((Int8.ofInt 60).toInt32)), .int c]) rfl ?_
        refine En_icLe _ rfl (by decide : ((Int8.ofInt 60).toInt32).toInt = 60) rfl (fun h18 => ?_) (fun h18 => ?_)
        · refine En_Ps 1 (pc' := 26) (lv' := [(0, .ref 0), (1, .int a), (2, .int b), (3, .int c)]) (st' := [.int c]) rfl ?_
          refine En_iGe _ rfl rfl (fun h19 => ?_) (fun h19 => ?_)
          · refine En_Ps 1 (pc' := 33) (lv' := [(0, .ref 0), (1, .int a), (2, .int b), (3, .int c)]) (st' := [.ref 0]) rfl ?_
            refine En_getU (j := 6) (u := 150) (g' := 32) (q := 0) rfl rfl rfl (by decide +kernel : TG 0 = 0) (by decide +kernel) h4 (by decide +kernel) (by decide +kernel) (fun h20 => ?_)
            refine En_Ps 1 (pc' := 37) (lv' := [(0, .ref 0), (1, .int a), (2, .int b), (3, .int c)]) (st' := [.int a, .ref 150]) rfl ?_
            refine En_aald (g' := 33) (u := 0) rfl rfl (by decide +kernel : TG 150 = 32) (by decide +kernel) h4 (by omega) (lnI (by decide +kernel : LN _ = 4) (by omega)) (FTsgl (by decide +kernel)) (fun a23 h22 ha23 => ?_)
            refine En_Ps 2 (pc' := 40) (lv' := [(0, .ref 0), (1, .int a), (2, .int b), (3, .int c)]) (st' := [.int c, .int b, .ref a23]) rfl ?_
            refine En_callV rfl rfl rfl rfl rfl rfl rfl rfl ha23 (by decide +kernel) rfl (c_84 σ3 h4 a23 ha23 b c (geI rfl (by omega)) (leI rfl (by omega)) (geI rfl (by omega)) (leI rfl (by omega))) (by decide) (by decide) (fun v25 σ26 h24 => ?_)
            obtain ⟨h27, h28, rfl, h29⟩ := h24
            have h30 := Fr_trans h8 h28 (by decide +kernel)
            refine En_Ps 1 (pc' := 44) (lv' := [(0, .ref 0), (1, .int a), (2, .int b), (3, .int c)]) (st' := [.int ((Int32.ofInt 0))]) rfl ?_
            refine En_top (by decide : (Int32.ofInt 0).toInt = 0) (fun z31 h32 => ?_)
            exact En_ret (v := some (.int z31)) rfl rfl rfl ⟨h27, h30, z31, rfl, ⟨by omega, by omega, fun _ => by omega, fun _ => by omega, fun _ => by omega, fun _ => by omega, fun _ => by omega, fun _ => by omega, fun _ => by omega⟩⟩
          · refine En_Ps 1 (pc' := 31) (lv' := [(0, .ref 0), (1, .int a), (2, .int b), (3, .int c)]) (st' := [.int (((Int8.ofInt (-3)).toInt32))]) rfl ?_
            refine En_top (by decide : ((Int8.ofInt (-3)).toInt32).toInt = -3) (fun z33 h34 => ?_)
            exact En_ret (v := some (.int z33)) rfl rfl rfl ⟨h4, h8, z33, rfl, ⟨by omega, by omega, fun _ => by omega, fun _ => by omega, fun _ => by omega, fun _ => by omega, fun _ => by omega, fun _ => by omega, fun _ => by omega⟩⟩
        · refine En_Ps 1 (pc' := 24) (lv' := [(0, .ref 0), (1, .int a), (2, .int b), (3, .int c)]) (st' := [.int (((Int8.ofInt (-2)).toInt32))]) rfl ?_
          refine En_top (by decide : ((Int8.ofInt (-2)).toInt32).toInt = -2) (fun z35 h36 => ?_)
          exact En_ret (v := some (.int z35)) rfl rfl rfl ⟨h4, h8, z35, rfl, ⟨by omega, by omega, fun _ => by omega, fun _ => by omega, fun _ => by omega, fun _ => by omega, fun _ => by omega, fun _ => by omega, fun _ => by omega⟩⟩
/-- DoorSchool.rule(II)I -/
abbrev P_166x (σ0 : SG) (Wv : Int → Int) (a : Int32) (b : Int32) (p : Nat) (sg : Int32) : PO := fun v σ => WT σ ∧ Fr [] σ0 σ ∧ ∃ ret : Int32, v = some (.int ret) ∧ -ret.toInt - 2 ≤ 0 ∧ ret.toInt - 80 ≤ 0 ∧ ret.toInt = ruR Wv a.toInt b.toInt
set_option maxRecDepth 10000 in
set_option maxHeartbeats 4000000 in
theorem c_166x {Wv : Int → Int} (σ0 : SG) (hσ0 : WT σ0) (a : Int32) (b : Int32) (p : Nat) (hp : TG p = 18) (h_p : (σ0 0)[9]? = some (.ref p)) (sg : Int32) (h_sg : (σ0 p)[1]? = some (.int sg)) (hp0 : -sg.toInt ≤ 0) (hP : PLA p) (hX : FXP σ0 p) (hK : KN σ0 p Wv (act Wv)) (hB : WFw Wv) (hT : TWN Wv) (hQ : 0 < Wv 7 → RULx σ0 (Wv 0)) (hq : QX Wv) : En 2 45 none mr_166 (P_166x σ0 Wv a b p sg) 0 [(0, .ref 0), (1, .int a), (2, .int b)] [] σ0 := by
  obtain ⟨hl_sg, hu_sg⟩ := WT_int hσ0 (g := 18) hp (by decide +kernel) (l := (-1)) (u := 4) (by decide +kernel) h_sg
  have hF0 : Fr [] σ0 σ0 := Fr_rfl
  have t1 : Wv (0) = sg.toInt := KN_v hK (Or.inl (by decide)) (by omega) (by omega) (by rw [lcO_lt (by decide) (by decide), Nat.add_zero]) rfl h_sg
  obtain ⟨z3, h2, h4, h5⟩ := WT_peekI hσ0 hp (by decide +kernel : FT 18 3 = (0, 0, 4)) (by decide +kernel)
  have t6 : Wv (2) = z3.toInt := KN_v hK (Or.inl (by decide)) (by omega) (by omega) (by rw [lcO_lt (by decide) (by decide), Nat.add_zero]) rfl h2
  have h7 := hB.2.2.1
  have h8 := hB.1
  have h9 := hB.2.1
  refine En_Ps 1 (pc' := 1) (lv' := [(0, .ref 0), (1, .int a), (2, .int b)]) (st' := [.ref 0]) rfl ?_
  refine En_getK (j := 9) h_p rfl rfl rfl (by decide +kernel : TG 0 = 0) (by decide +kernel) ?_
  refine En_Ps 1 (pc' := 5) (lv' := [(0, .ref 0), (1, .int a), (2, .int b)]) (st' := [.int a, .ref p]) rfl ?_
  refine En_callV rfl rfl rfl rfl rfl rfl rfl rfl hp (by decide +kernel) rfl (c_47x σ0 hσ0 p hp a z3 h2) (by decide) (by decide) (fun v11 σ12 h10 => ?_)
  obtain ⟨h13, h14, z16, rfl, h15⟩ := h10
  obtain rfl : σ0 = σ12 := Fr_nil h14
  have h17 := Imp_m h15.2.2.1
  have h18 := Imp_m h15.2.2.2.1
  have h19 := Imp_m h15.2.2.2.2.1
  have h20 := Imp_m h15.2.2.2.2.2
  refine En_iEq _ rfl rfl (fun h21 => ?_) (fun h21 => ?_)
  · have h22 := Imp_m h15.2.2.2.2.1 (by omega)
    refine En_Ps 1 (pc' := 22) (lv' := [(0, .ref 0), (1, .int a), (2, .int b)]) (st' := [.int (((Int8.ofInt (-2)).toInt32))]) rfl ?_
    refine En_top (by decide : ((Int8.ofInt (-2)).toInt32).toInt = -2) (fun z23 h24 => ?_)
    exact En_ret (v := some (.int z23)) rfl rfl rfl ⟨hσ0, hF0, z23, rfl, ⟨by omega, by omega, ruR_n (fun ⟨q1, q2, q3, q4⟩ => by omega) (by omega)⟩⟩
  · have h25 := Imp_m h15.2.2.1 (by omega)
    have h26 := Imp_m h15.2.2.2.1 (by omega)
    have h27 := Imp_m h15.2.2.2.2.2 (by omega)
    refine En_Ps 1 (pc' := 12) (lv' := [(0, .ref 0), (1, .int a), (2, .int b)]) (st' := [.int b]) rfl ?_
    refine En_iLt _ rfl rfl (fun h28 => ?_) (fun h28 => ?_)
    · refine En_Ps 1 (pc' := 22) (lv' := [(0, .ref 0), (1, .int a), (2, .int b)]) (st' := [.int (((Int8.ofInt (-2)).toInt32))]) rfl ?_
      refine En_top (by decide : ((Int8.ofInt (-2)).toInt32).toInt = -2) (fun z29 h30 => ?_)
      exact En_ret (v := some (.int z29)) rfl rfl rfl ⟨hσ0, hF0, z29, rfl, ⟨by omega, by omega, ruR_n (fun ⟨q1, q2, q3, q4⟩ => by omega) (by omega)⟩⟩
    · refine En_Ps 2 (pc' := 17) (lv' := [(0, .ref 0), (1, .int a), (2, .int b)]) (st' := [.int ((Int32.ofInt 2)), .int b]) rfl ?_
      refine En_icLe _ rfl (by decide : (Int32.ofInt 2).toInt = 2) rfl (fun h31 => ?_) (fun h31 => ?_)
      · refine En_Ps 1 (pc' := 24) (lv' := [(0, .ref 0), (1, .int a), (2, .int b)]) (st' := [.ref 0]) rfl ?_
        refine En_getK (j := 9) h_p rfl rfl rfl (by decide +kernel : TG 0 = 0) (by decide +kernel) ?_
        refine En_getR (j := 4) (g' := 19) (u := 0) rfl rfl rfl hp (by decide +kernel) hσ0 (by decide +kernel) (fun a33 h32 ha33 => ?_)
        have t34 : a33 = p + 1 := ref_uniq h32 (FXP_fr hP hX hF0 (by decide +kernel)).1
        refine En_Ps 1 (pc' := 31) (lv' := [(0, .ref 0), (1, .int a), (2, .int b)]) (st' := [.int a, .ref a33]) rfl ?_
        refine En_aald (g' := 28) (u := 0) rfl rfl ha33 (by decide +kernel) hσ0 (by omega) (lnI (by decide +kernel : LN _ = 4) (by omega)) (FTsgl (by decide +kernel)) (fun a36 h35 ha36 => ?_)
        have t37 : a36 = p + 10 + 4 * (a.toInt).toNat := DRe (d := a.toInt) (FXP_fr hP hX hF0 (by decide +kernel)) t34 h35 (by omega) (by omega)
        have t38 := lc_d (d := a.toInt) (by omega) (by omega)
        refine En_getR (j := 0) (g' := 20) (u := 0) rfl rfl rfl ha36 (by decide +kernel) hσ0 (by decide +kernel) (fun a40 h39 ha40 => ?_)
        have t41 : a40 = p + 11 + 4 * (a.toInt).toNat := DLc (d := a.toInt) (FXP_fr hP hX hF0 (by decide +kernel)) t37 h39 (by omega) (by omega)
        refine En_Ps 1 (pc' := 36) (lv' := [(3, .ref a40), (0, .ref 0), (1, .int a), (2, .int b)]) (st' := []) rfl ?_
        obtain ⟨z43, h42, h44, h45⟩ := WT_peekI hσ0 (by decide +kernel : TG 4 = 4) (by decide +kernel : FT 4 0 = (0, 0, 16)) (by decide +kernel)
        obtain ⟨z47, h46, h48, h49⟩ := WT_peekI hσ0 (by decide +kernel : TG 4 = 4) (by decide +kernel : FT 4 1 = (0, 0, 81)) (by decide +kernel)
        have h50 : z43.toInt = pI (Wv 0) := (ci_at (j := 0) h42 rfl).symm.trans (hQ (hq (by omega))).1
        have h51 : z47.toInt = nR (Wv 0) := (ci_at (j := 1) h46 rfl).symm.trans (hQ (hq (by omega))).2.1
        have h52 := pI_rng (s := Wv 0) (by omega) (by omega)
        have h53 := nR_rg (s := Wv 0) (by omega) (by omega)
        have h54 := hB.2.2.2.2.2.2 (a.toInt) (by omega) (by omega)
        refine En_Ps 1 (pc' := 37) (lv' := [(3, .ref a40), (0, .ref 0), (1, .int a), (2, .int b)]) (st' := [.ref 0]) rfl ?_
        refine En_getU (j := 2) (u := 4) (g' := 4) (q := 0) rfl rfl rfl (by decide +kernel : TG 0 = 0) (by decide +kernel) hσ0 (by decide +kernel) (by decide +kernel) (fun h55 => ?_)
        refine En_Ps 2 (pc' := 42) (lv' := [(3, .ref a40), (0, .ref 0), (1, .int a), (2, .int b)]) (st' := [.int ((Int32.ofInt 1)), .ref a40, .ref 4]) rfl ?_
        obtain ⟨a58, h57, ha58⟩ := WT_peekR (g := 20) (j := 0) (g' := 21) (u := 0) hσ0 ha40 (by decide +kernel) (by decide +kernel)
        have t59 : a58 = p + 12 + 4 * (a.toInt).toNat := DKk (d := a.toInt) (FXP_fr hP hX hF0 (by decide +kernel)) t41 h57 (by omega) (by omega)
        obtain ⟨a61, h60, ha61⟩ := WT_peekR (g := 20) (j := 1) (g' := 22) (u := 0) hσ0 ha40 (by decide +kernel) (by decide +kernel)
        have t62 : a61 = p + 13 + 4 * (a.toInt).toNat := DKo (d := a.toInt) (FXP_fr hP hX hF0 (by decide +kernel)) t41 h60 (by omega) (by omega)
        obtain ⟨z64, h63, h65, h66⟩ := WT_peekI hσ0 ha40 (by decide +kernel : FT 20 2 = (0, 0, 13)) (by decide +kernel)
        have t67 : Wv (12 + 4 * (a.toInt)) = z64.toInt := KN_v hK (Or.inr (Or.inl ⟨by omega, by omega, by omega⟩)) (by omega) (by omega) (by omega) (by omega) h63
        have := (by decide : ((Int32.ofInt 1)).toInt = 1)
        refine En_callV rfl rfl rfl rfl rfl rfl rfl rfl ha40 (by decide +kernel) rfl (c_39x σ0 hσ0 a40 ha40 ((Int32.ofInt 1)) a58 ha58 h57 a61 ha61 h60 z64 h63) (by decide) (by decide) (fun v69 σ70 h68 => ?_)
        obtain ⟨h71, h72, z74, rfl, h73⟩ := h68
        have h75 := h73.2.2
        obtain rfl : σ0 = σ70 := Fr_nil h72
        refine En_Ps 2 (pc' := 47) (lv' := [(3, .ref a40), (0, .ref 0), (1, .int a), (2, .int b)]) (st' := [.int ((Int32.ofInt 0)), .ref a40, .int z74, .ref 4]) rfl ?_
        have := (by decide : ((Int32.ofInt 0)).toInt = 0)
        refine En_callV rfl rfl rfl rfl rfl rfl rfl rfl ha40 (by decide +kernel) rfl (c_39x σ0 hσ0 a40 ha40 ((Int32.ofInt 0)) a58 ha58 h57 a61 ha61 h60 z64 h63) (by decide) (by decide) (fun v77 σ78 h76 => ?_)
        obtain ⟨h79, h80, z82, rfl, h81⟩ := h76
        have h83 := h81.2.2
        obtain rfl : σ0 = σ78 := Fr_nil h80
        refine En_callV rfl rfl rfl rfl rfl rfl rfl rfl (by decide +kernel : TG 4 = 4) (by decide +kernel) rfl (c_78x σ0 hσ0 z74 z82 (geI rfl (by omega)) (leI rfl (by omega)) (geI rfl (by omega)) (leI rfl (by omega)) z47 h46 (fun i i0 i1 => TB_rg (hQ (hq (by omega))).2.2 (by omega) i i0 (by omega))) (by decide) (by decide) (fun v85 σ86 h84 => ?_)
        obtain ⟨h87, h88, z90, rfl, h89⟩ := h84
        have h91 := h89.2.2
        obtain rfl : σ0 = σ86 := Fr_nil h88
        have h92 := FIR_ag (fun i i0 i1 => TB_rg (hQ (hq (by omega))).2.2 (by omega) i i0 (by omega)) (by omega) (fun i i0 i1 => row_rg (n := 13) (l := 0) (u := 15) hσ0 ha58 (by decide +kernel) i i0 (by omega)) (fun i i0 i1 => row_rg (n := 13) (l := 0) (u := 1) hσ0 ha61 (by decide +kernel) i i0 (by omega)) h75 h83 h91
        have h93 : z90.toInt = fr1 Wv a.toInt := fr1_of t67 h51 (KN_lk hK (by omega) (by omega) (by omega) t67.symm (by omega) t59) (KN_lo hK (by omega) (by omega) (by omega) t67.symm (by omega) t62) (fun i i0 i1 => TB_D (hQ (hq (by omega))).2.2 i i0 (by omega)) h92
        have h94 := fr1_rg (w := Wv) (d := a.toInt)
        refine En_Ps 3 (pc' := 58) (lv' := [(4, .int z90), (3, .ref a40), (0, .ref 0), (1, .int a), (2, .int b)]) (st' := [.int ((Int32.ofInt (-1))), .int z90]) rfl ?_
        refine En_icEq _ rfl (by decide : (Int32.ofInt (-1)).toInt = -1) rfl (fun h95 => ?_) (fun h95 => ?_)
        · refine En_Ps 1 (pc' := 68) (lv' := [(4, .int z90), (3, .ref a40), (0, .ref 0), (1, .int a), (2, .int b)]) (st' := [.int z90]) rfl ?_
          exact En_ret (v := some (.int z90)) rfl rfl rfl ⟨hσ0, hF0, z90, rfl, ⟨by omega, by omega, ruR_y ⟨by omega, by omega, by omega, by omega⟩ h93 (pkR_1 (by omega) (by omega))⟩⟩
        · refine En_Ps 2 (pc' := 63) (lv' := [(4, .int z90), (3, .ref a40), (0, .ref 0), (1, .int a), (2, .int b)]) (st' := [.int ((Int32.ofInt 2)), .int b]) rfl ?_
          refine En_icNe _ rfl (by decide : (Int32.ofInt 2).toInt = 2) rfl (fun h96 => ?_) (fun h96 => ?_)
          · refine En_Ps 1 (pc' := 70) (lv' := [(4, .int z90), (3, .ref a40), (0, .ref 0), (1, .int a), (2, .int b)]) (st' := [.int b]) rfl ?_
            refine En_iNe _ rfl rfl (fun h97 => ?_) (fun h97 => ?_)
            · refine En_Ps 1 (pc' := 87) (lv' := [(4, .int z90), (3, .ref a40), (0, .ref 0), (1, .int a), (2, .int b)]) (st' := [.ref 0]) rfl ?_
              refine En_getK (j := 2) h55 rfl rfl rfl (by decide +kernel : TG 0 = 0) (by decide +kernel) ?_
              refine En_getU (j := 3) (u := 6) (g' := 6) (q := 0) rfl rfl rfl (by decide +kernel : TG 4 = 4) (by decide +kernel) hσ0 (by decide +kernel) (by decide +kernel) (fun h98 => ?_)
              refine En_Ps 1 (pc' := 95) (lv' := [(4, .int z90), (3, .ref a40), (0, .ref 0), (1, .int a), (2, .int b)]) (st' := [.int z90, .ref 6]) rfl ?_
              refine En_iald (l := 0) (u := 15) rfl rfl (by decide +kernel : TG 6 = 6) (by decide +kernel) hσ0 (by omega) (lnI (by decide +kernel : LN _ = 81) (by omega)) (FTsgl (by decide +kernel)) (fun z101 h100 h102 h103 => ?_)
              have h104 : ci σ0 6 (z90.toInt) = z101.toInt := ci_at h100 rfl
              exact En_ret (v := some (.int z101)) rfl rfl rfl ⟨hσ0, hF0, z101, rfl, ⟨by omega, by omega, ruR_y ⟨by omega, by omega, by omega, by omega⟩ h93 (pkR_V (by omega) (by omega) (by omega) (h104.symm.trans (TB_MV (hQ (hq (by omega))).2.2 (by omega) (by omega)).2))⟩⟩
            · refine En_Ps 1 (pc' := 74) (lv' := [(4, .int z90), (3, .ref a40), (0, .ref 0), (1, .int a), (2, .int b)]) (st' := [.ref 0]) rfl ?_
              refine En_getK (j := 2) h55 rfl rfl rfl (by decide +kernel : TG 0 = 0) (by decide +kernel) ?_
              refine En_getU (j := 2) (u := 5) (g' := 5) (q := 0) rfl rfl rfl (by decide +kernel : TG 4 = 4) (by decide +kernel) hσ0 (by decide +kernel) (by decide +kernel) (fun h105 => ?_)
              refine En_Ps 1 (pc' := 82) (lv' := [(4, .int z90), (3, .ref a40), (0, .ref 0), (1, .int a), (2, .int b)]) (st' := [.int z90, .ref 5]) rfl ?_
              refine En_iald (l := 0) (u := 15) rfl rfl (by decide +kernel : TG 5 = 5) (by decide +kernel) hσ0 (by omega) (lnI (by decide +kernel : LN _ = 81) (by omega)) (FTsgl (by decide +kernel)) (fun z108 h107 h109 h110 => ?_)
              have h111 : ci σ0 5 (z90.toInt) = z108.toInt := ci_at h107 rfl
              refine En_Ps 1 (pc' := 96) (lv' := [(4, .int z90), (3, .ref a40), (0, .ref 0), (1, .int a), (2, .int b)]) (st' := [.int z108]) rfl ?_
              exact En_ret (v := some (.int z108)) rfl rfl rfl ⟨hσ0, hF0, z108, rfl, ⟨by omega, by omega, ruR_y ⟨by omega, by omega, by omega, by omega⟩ h93 (pkR_M (by omega) (by omega) (h111.symm.trans (TB_MV (hQ (hq (by omega))).2.2 (by omega) (by omega)).1))⟩⟩
          · refine En_Ps 1 (pc' := 68) (lv' := [(4, .int z90), (3, .ref a40), (0, .ref 0), (1, .int a), (2, .int b)]) (st' := [.int z90]) rfl ?_
            exact En_ret (v := some (.int z90)) rfl rfl rfl ⟨hσ0, hF0, z90, rfl, ⟨by omega, by omega, ruR_y ⟨by omega, by omega, by omega, by omega⟩ h93 (pkR_1 (by omega) (by omega))⟩⟩
      · refine En_Ps 1 (pc' := 22) (lv' := [(0, .ref 0), (1, .int a), (2, .int b)]) (st' := [.int (((Int8.ofInt (-2)).toInt32))]) rfl ?_
        refine En_top (by decide : ((Int8.ofInt (-2)).toInt32).toInt = -2) (fun z112 h113 => ?_)
        exact En_ret (v := some (.int z112)) rfl rfl rfl ⟨hσ0, hF0, z112, rfl, ⟨by omega, by omega, ruR_n (fun ⟨q1, q2, q3, q4⟩ => by omega) (by omega)⟩⟩

/-- DoorSchool.rules(I)I -/
abbrev P_167x (σ0 : SG) (Wv : Int → Int) (a : Int32) (p : Nat) (sg : Int32) : PO := fun v σ => WT σ ∧ Fr [] σ0 σ ∧ ∃ ret : Int32, v = some (.int ret) ∧ -ret.toInt - 2 ≤ 0 ∧ ret.toInt - 81 ≤ 0 ∧ ret.toInt = rsR Wv a.toInt
set_option maxRecDepth 10000 in
set_option maxHeartbeats 4000000 in
theorem c_167x {Wv : Int → Int} (σ0 : SG) (hσ0 : WT σ0) (a : Int32) (p : Nat) (hp : TG p = 18) (h_p : (σ0 0)[9]? = some (.ref p)) (sg : Int32) (h_sg : (σ0 p)[1]? = some (.int sg)) (hp0 : -sg.toInt ≤ 0) (hP : PLA p) (hX : FXP σ0 p) (hK : KN σ0 p Wv (act Wv)) (hB : WFw Wv) (hT : TWN Wv) (hQ : 0 < Wv 7 → RULx σ0 (Wv 0)) (hq : QX Wv) : En 2 46 none mr_167 (P_167x σ0 Wv a p sg) 0 [(0, .ref 0), (1, .int a)] [] σ0 := by
  obtain ⟨hl_sg, hu_sg⟩ := WT_int hσ0 (g := 18) hp (by decide +kernel) (l := (-1)) (u := 4) (by decide +kernel) h_sg
  have hF0 : Fr [] σ0 σ0 := Fr_rfl
  have t1 : Wv (0) = sg.toInt := KN_v hK (Or.inl (by decide)) (by omega) (by omega) (by rw [lcO_lt (by decide) (by decide), Nat.add_zero]) rfl h_sg
  obtain ⟨z3, h2, h4, h5⟩ := WT_peekI hσ0 hp (by decide +kernel : FT 18 3 = (0, 0, 4)) (by decide +kernel)
  have t6 : Wv (2) = z3.toInt := KN_v hK (Or.inl (by decide)) (by omega) (by omega) (by rw [lcO_lt (by decide) (by decide), Nat.add_zero]) rfl h2
  have h7 := hB.2.2.1
  have h8 := hB.1
  have h9 := hB.2.1
  refine En_Ps 1 (pc' := 1) (lv' := [(0, .ref 0), (1, .int a)]) (st' := [.ref 0]) rfl ?_
  refine En_getK (j := 9) h_p rfl rfl rfl (by decide +kernel : TG 0 = 0) (by decide +kernel) ?_
  refine En_Ps 1 (pc' := 5) (lv' := [(0, .ref 0), (1, .int a)]) (st' := [.int a, .ref p]) rfl ?_
  refine En_callV rfl rfl rfl rfl rfl rfl rfl rfl hp (by decide +kernel) rfl (c_47x σ0 hσ0 p hp a z3 h2) (by decide) (by decide) (fun v11 σ12 h10 => ?_)
  obtain ⟨h13, h14, z16, rfl, h15⟩ := h10
  obtain rfl : σ0 = σ12 := Fr_nil h14
  have h17 := Imp_m h15.2.2.1
  have h18 := Imp_m h15.2.2.2.1
  have h19 := Imp_m h15.2.2.2.2.1
  have h20 := Imp_m h15.2.2.2.2.2
  refine En_iNe _ rfl rfl (fun h21 => ?_) (fun h21 => ?_)
  · have h22 := Imp_m h15.2.2.1 (by omega)
    have h23 := Imp_m h15.2.2.2.1 (by omega)
    have h24 := Imp_m h15.2.2.2.2.2 (by omega)
    refine En_Ps 1 (pc' := 15) (lv' := [(0, .ref 0), (1, .int a)]) (st' := [.ref 0]) rfl ?_
    refine En_getK (j := 9) h_p rfl rfl rfl (by decide +kernel : TG 0 = 0) (by decide +kernel) ?_
    refine En_getR (j := 4) (g' := 19) (u := 0) rfl rfl rfl hp (by decide +kernel) hσ0 (by decide +kernel) (fun a26 h25 ha26 => ?_)
    have t27 : a26 = p + 1 := ref_uniq h25 (FXP_fr hP hX hF0 (by decide +kernel)).1
    refine En_Ps 1 (pc' := 22) (lv' := [(0, .ref 0), (1, .int a)]) (st' := [.int a, .ref a26]) rfl ?_
    refine En_aald (g' := 28) (u := 0) rfl rfl ha26 (by decide +kernel) hσ0 (by omega) (lnI (by decide +kernel : LN _ = 4) (by omega)) (FTsgl (by decide +kernel)) (fun a29 h28 ha29 => ?_)
    have t30 : a29 = p + 10 + 4 * (a.toInt).toNat := DRe (d := a.toInt) (FXP_fr hP hX hF0 (by decide +kernel)) t27 h28 (by omega) (by omega)
    have t31 := lc_d (d := a.toInt) (by omega) (by omega)
    refine En_getR (j := 0) (g' := 20) (u := 0) rfl rfl rfl ha29 (by decide +kernel) hσ0 (by decide +kernel) (fun a33 h32 ha33 => ?_)
    have t34 : a33 = p + 11 + 4 * (a.toInt).toNat := DLc (d := a.toInt) (FXP_fr hP hX hF0 (by decide +kernel)) t30 h32 (by omega) (by omega)
    refine En_Ps 1 (pc' := 27) (lv' := [(2, .ref a33), (0, .ref 0), (1, .int a)]) (st' := []) rfl ?_
    obtain ⟨z36, h35, h37, h38⟩ := WT_peekI hσ0 (by decide +kernel : TG 4 = 4) (by decide +kernel : FT 4 0 = (0, 0, 16)) (by decide +kernel)
    obtain ⟨z40, h39, h41, h42⟩ := WT_peekI hσ0 (by decide +kernel : TG 4 = 4) (by decide +kernel : FT 4 1 = (0, 0, 81)) (by decide +kernel)
    have h43 : z36.toInt = pI (Wv 0) := (ci_at (j := 0) h35 rfl).symm.trans (hQ (hq (by omega))).1
    have h44 : z40.toInt = nR (Wv 0) := (ci_at (j := 1) h39 rfl).symm.trans (hQ (hq (by omega))).2.1
    have h45 := pI_rng (s := Wv 0) (by omega) (by omega)
    have h46 := nR_rg (s := Wv 0) (by omega) (by omega)
    have h47 := hB.2.2.2.2.2.2 (a.toInt) (by omega) (by omega)
    refine En_Ps 1 (pc' := 28) (lv' := [(2, .ref a33), (0, .ref 0), (1, .int a)]) (st' := [.ref 0]) rfl ?_
    refine En_getU (j := 2) (u := 4) (g' := 4) (q := 0) rfl rfl rfl (by decide +kernel : TG 0 = 0) (by decide +kernel) hσ0 (by decide +kernel) (by decide +kernel) (fun h48 => ?_)
    refine En_Ps 2 (pc' := 33) (lv' := [(2, .ref a33), (0, .ref 0), (1, .int a)]) (st' := [.int ((Int32.ofInt 1)), .ref a33, .ref 4]) rfl ?_
    obtain ⟨a51, h50, ha51⟩ := WT_peekR (g := 20) (j := 0) (g' := 21) (u := 0) hσ0 ha33 (by decide +kernel) (by decide +kernel)
    have t52 : a51 = p + 12 + 4 * (a.toInt).toNat := DKk (d := a.toInt) (FXP_fr hP hX hF0 (by decide +kernel)) t34 h50 (by omega) (by omega)
    obtain ⟨a54, h53, ha54⟩ := WT_peekR (g := 20) (j := 1) (g' := 22) (u := 0) hσ0 ha33 (by decide +kernel) (by decide +kernel)
    have t55 : a54 = p + 13 + 4 * (a.toInt).toNat := DKo (d := a.toInt) (FXP_fr hP hX hF0 (by decide +kernel)) t34 h53 (by omega) (by omega)
    obtain ⟨z57, h56, h58, h59⟩ := WT_peekI hσ0 ha33 (by decide +kernel : FT 20 2 = (0, 0, 13)) (by decide +kernel)
    have t60 : Wv (12 + 4 * (a.toInt)) = z57.toInt := KN_v hK (Or.inr (Or.inl ⟨by omega, by omega, by omega⟩)) (by omega) (by omega) (by omega) (by omega) h56
    have := (by decide : ((Int32.ofInt 1)).toInt = 1)
    refine En_callV rfl rfl rfl rfl rfl rfl rfl rfl ha33 (by decide +kernel) rfl (c_39x σ0 hσ0 a33 ha33 ((Int32.ofInt 1)) a51 ha51 h50 a54 ha54 h53 z57 h56) (by decide) (by decide) (fun v62 σ63 h61 => ?_)
    obtain ⟨h64, h65, z67, rfl, h66⟩ := h61
    have h68 := h66.2.2
    obtain rfl : σ0 = σ63 := Fr_nil h65
    refine En_Ps 2 (pc' := 38) (lv' := [(2, .ref a33), (0, .ref 0), (1, .int a)]) (st' := [.int ((Int32.ofInt 0)), .ref a33, .int z67, .ref 4]) rfl ?_
    have := (by decide : ((Int32.ofInt 0)).toInt = 0)
    refine En_callV rfl rfl rfl rfl rfl rfl rfl rfl ha33 (by decide +kernel) rfl (c_39x σ0 hσ0 a33 ha33 ((Int32.ofInt 0)) a51 ha51 h50 a54 ha54 h53 z57 h56) (by decide) (by decide) (fun v70 σ71 h69 => ?_)
    obtain ⟨h72, h73, z75, rfl, h74⟩ := h69
    have h76 := h74.2.2
    obtain rfl : σ0 = σ71 := Fr_nil h73
    refine En_callV rfl rfl rfl rfl rfl rfl rfl rfl (by decide +kernel : TG 4 = 4) (by decide +kernel) rfl (c_79x σ0 hσ0 z67 z75 (geI rfl (by omega)) (leI rfl (by omega)) (geI rfl (by omega)) (leI rfl (by omega)) z40 h39 (fun i i0 i1 => TB_rg (hQ (hq (by omega))).2.2 (by omega) i i0 (by omega))) (by decide) (by decide) (fun v78 σ79 h77 => ?_)
    obtain ⟨h80, h81, z83, rfl, h82⟩ := h77
    have h84 := h82.2.2
    obtain rfl : σ0 = σ79 := Fr_nil h81
    have h85 := CNT_ag (fun i i0 i1 => TB_rg (hQ (hq (by omega))).2.2 (by omega) i i0 (by omega)) (by omega) (fun i i0 i1 => row_rg (n := 13) (l := 0) (u := 15) hσ0 ha51 (by decide +kernel) i i0 (by omega)) (fun i i0 i1 => row_rg (n := 13) (l := 0) (u := 1) hσ0 ha54 (by decide +kernel) i i0 (by omega)) h68 h76 h84
    have h86 : z83.toInt = fc1 Wv a.toInt := fc1_of t60 h44 (KN_lk hK (by omega) (by omega) (by omega) t60.symm (by omega) t52) (KN_lo hK (by omega) (by omega) (by omega) t60.symm (by omega) t55) (fun i i0 i1 => TB_D (hQ (hq (by omega))).2.2 i i0 (by omega)) h85
    exact En_ret (v := some (.int z83)) rfl rfl rfl ⟨hσ0, hF0, z83, rfl, ⟨by omega, by omega, rsR_y ⟨by omega, by omega⟩ h86⟩⟩
  · have h87 := Imp_m h15.2.2.2.2.1 (by omega)
    refine En_Ps 1 (pc' := 13) (lv' := [(0, .ref 0), (1, .int a)]) (st' := [.int (((Int8.ofInt (-2)).toInt32))]) rfl ?_
    refine En_top (by decide : ((Int8.ofInt (-2)).toInt32).toInt = -2) (fun z88 h89 => ?_)
    exact En_ret (v := some (.int z88)) rfl rfl rfl ⟨hσ0, hF0, z88, rfl, ⟨by omega, by omega, rsR_n (fun ⟨q1, q2⟩ => by omega) (by omega)⟩⟩
/-- DoorSchool.school()I -/
abbrev P_169x (σ0 : SG) (By : Int → Int) (Nb : Int) (p : Nat) (sg : Int32) (p2 : Nat) : PO := fun v σ => WT σ ∧ Fr [(0, 9), (0, 10), (1, 1), (3, 1), (3, 2), (3, 3), (3, 4), (3, 5), (3, 6), (4, 0), (4, 1), (5, 0), (6, 0), (7, 0), (18, 0), (18, 1), (18, 2), (18, 3), (18, 6), (18, 7), (18, 8), (18, 11), (18, 14), (20, 2), (21, 0), (22, 0), (23, 0), (24, 0), (25, 0), (26, 0), (28, 1), (28, 2), (28, 3)] σ0 σ ∧ ∃ m1 : Int32, (σ 1)[1]? = some (.int m1) ∧ ∃ ret : Int32, v = some (.int ret) ∧ OUT σ0 σ p2 ∧ -ret.toInt - 4 ≤ 0 ∧ ret.toInt - 1601 ≤ 0 ∧ -m1.toInt ≤ 0 ∧ m1.toInt ≤ 0 ∧ -m1.toInt + sg.toInt - 4 ≤ 0 ∧ m1.toInt - sg.toInt ≤ 0 ∧ m1.toInt ≤ 0 ∧ -m1.toInt ≤ 0 ∧ ((INVc σ ∧ SCC By Nb σ ret.toInt) ∧ SPL By Nb σ p p2 ∧ RSC By Nb σ0 σ p2)
set_option maxRecDepth 10000 in
set_option maxHeartbeats 4000000 in
theorem c_169x {By : Int → Int} {Nb : Int} (σ0 : SG) (hσ0 : WT σ0) (p : Nat) (hp : TG p = 18) (h_p : (σ0 0)[9]? = some (.ref p)) (sg : Int32) (h_sg : (σ0 p)[1]? = some (.int sg)) (p2 : Nat) (hp2 : TG p2 = 18) (h_p2 : (σ0 0)[10]? = some (.ref p2)) (hp0 : -sg.toInt ≤ 0) (hne : p ≠ p2) (hB : TPc By Nb σ0) (hP2 : PLA p2) (hX2 : FXP σ0 p2) : En 8 181 none mr_169 (P_169x σ0 By Nb p sg p2) 0 [(0, .ref 0)] [] σ0 := by
  obtain ⟨hl_sg, hu_sg⟩ := WT_int hσ0 (g := 18) hp (by decide +kernel) (l := (-1)) (u := 4) (by decide +kernel) h_sg
  have hF0 : Fr [(0, 9), (0, 10), (1, 1), (3, 1), (3, 2), (3, 3), (3, 4), (3, 5), (3, 6), (4, 0), (4, 1), (5, 0), (6, 0), (7, 0), (18, 0), (18, 1), (18, 2), (18, 3), (18, 6), (18, 7), (18, 8), (18, 11), (18, 14), (20, 2), (21, 0), (22, 0), (23, 0), (24, 0), (25, 0), (26, 0), (28, 1), (28, 2), (28, 3)] σ0 σ0 := Fr_rfl
  refine En_Ps 1 (pc' := 1) (lv' := [(0, .ref 0)]) (st' := [.ref 0]) rfl ?_
  refine En_getU (j := 1) (u := 3) (g' := 3) (q := 0) rfl rfl rfl (by decide +kernel : TG 0 = 0) (by decide +kernel) hσ0 (by decide +kernel) (by decide +kernel) (fun h1 => ?_)
  refine En_Ps 1 (pc' := 5) (lv' := [(0, .ref 0)]) (st' := [.ref 0, .ref 3]) rfl ?_
  refine En_getK (j := 10) h_p2 rfl rfl rfl (by decide +kernel : TG 0 = 0) (by decide +kernel) ?_
  refine En_callV rfl rfl rfl rfl rfl rfl rfl rfl (by decide +kernel : TG 3 = 3) (by decide +kernel) rfl (c_60x σ0 hσ0 p2 hp2 hB hP2 hX2) (by decide) (by decide) (fun v4 σ5 h3 => ?_)
  obtain ⟨h6, h7, z9, h10, z11, h12, rfl, h8⟩ := h3
  have h13 := h8.2.2.2.2.2.2
  have h14 := Fr_trans hF0 h7 (by decide +kernel)
  have h15 := RSAM_tr (RSAM_0 (σ := σ0)) (RSAM_fr h7 (by decide +kernel))
  have o16 : OUT σ0 σ5 p2 := OUT_tr OUT_0 h8.1
  obtain ⟨z18, h17, h19, h20⟩ := WT_peekI h6 hp2 (by decide +kernel : FT 18 0 = (0, 0, 1601)) (by decide +kernel)
  obtain ⟨z22, h21, h23, h24⟩ := WT_peekI h6 (by decide +kernel : TG 3 = 3) (by decide +kernel : FT 3 6 = (0, (-1), 1600)) (by decide +kernel)
  have h25 := CT_k h13.2.1 h10
  have h26 : (fRead By Nb 1601 S00).1 = 0 → (fRead By Nb 1601 S00).2.2.2 7 = z18.toInt := fun zz => KN_v (h13.2.2 zz) (Or.inl (by decide)) (by decide) (by decide) (by rw [lcO_lt (by decide) (by decide), Nat.add_zero]) (by decide) h17
  have h27 : (fRead By Nb 1601 S00).2.1 = z22.toInt := h13.2.1.2.2.1.symm.trans (ci_at (j := 6) h21 rfl)
  have h28 : ((fRead By Nb 1601 S00).1 = 0 → KN σ5 p2 (fRead By Nb 1601 S00).2.2.2 (act (fRead By Nb 1601 S00).2.2.2)) := h13.2.2
  refine En_Ps 1 (pc' := 12) (lv' := [(0, .ref 0)]) (st' := [.ref 0]) rfl ?_
  refine En_getU (j := 0) (u := 1) (g' := 1) (q := 0) rfl rfl rfl (by decide +kernel : TG 0 = 0) (by decide +kernel) h6 (by decide +kernel) (by decide +kernel) (fun h29 => ?_)
  refine En_Ps 1 (pc' := 16) (lv' := [(0, .ref 0)]) (st' := [.int ((Int32.ofInt 0)), .ref 1]) rfl ?_
  refine En_put (j := 1) rfl rfl rfl (by decide +kernel : TG 1 = 1) (by decide +kernel) rfl (vI (l := 0) (u := 1600) (by decide +kernel) (by decide : (Int32.ofInt 0).toInt = 0) (by omega) (by omega)) h6 h14 (by decide +kernel) (fun σ31 h32 h33 h34 h35 => ?_)
  have h36 : ((fRead By Nb 1601 S00).1 = 0 → KN σ31 p2 (fRead By Nb 1601 S00).2.2.2 (act (fRead By Nb 1601 S00).2.2.2)) := fun zz => KN_ne (h28 zz) h35 (by have := hP2; unfold PLA at this; omega)
  have h37 := RSAM_ne h15 h35 (by decide)
  have o38 : OUT σ0 σ31 p2 := OUT_pn o16 h35 (by decide +kernel : TG 1 = 1) (by decide)
  refine En_Ps 1 (pc' := 20) (lv' := [(0, .ref 0)]) (st' := [.ref 0]) rfl ?_
  refine En_getK (j := 1) ((h35 _ _ (Or.inl (neTG (by decide +kernel : TG 0 = 0) (by decide +kernel : TG 1 = 1) (by decide)))).trans ((h7 _ _ (inW (by decide +kernel : TG 0 = 0) (by decide +kernel))).trans h1)) rfl rfl rfl (by decide +kernel : TG 0 = 0) (by decide +kernel) ?_
  refine En_getK (j := 5) ((h35 _ _ (Or.inr (by decide))).trans h10) rfl rfl rfl (by decide +kernel : TG 3 = 3) (by decide +kernel) ?_
  refine En_iEq _ rfl rfl (fun h39 => ?_) (fun h39 => ?_)
  · refine En_Ps 1 (pc' := 33) (lv' := [(0, .ref 0)]) (st' := [.ref 0]) rfl ?_
    refine En_getK (j := 9) ((h35 _ _ (Or.inr (by decide))).trans ((h7 _ _ (inW (by decide +kernel : TG 0 = 0) (by decide +kernel))).trans h_p)) rfl rfl rfl (by decide +kernel : TG 0 = 0) (by decide +kernel) ?_
    refine En_Ps 3 (pc' := 39) (lv' := [(1, .ref p), (0, .ref 0)]) (st' := [.ref 0, .ref 0]) rfl ?_
    refine En_getK (j := 10) ((h35 _ _ (Or.inr (by decide))).trans ((h7 _ _ (inW (by decide +kernel : TG 0 = 0) (by decide +kernel))).trans h_p2)) rfl rfl rfl (by decide +kernel : TG 0 = 0) (by decide +kernel) ?_
    refine En_put (j := 9) rfl rfl rfl (by decide +kernel : TG 0 = 0) (by decide +kernel) rfl (vR (g' := 18) (u := 0) (by decide +kernel) hp2) h32 h33 (by decide +kernel) (fun σ40 h41 h42 h43 h44 => ?_)
    have h45 : ((fRead By Nb 1601 S00).1 = 0 → KN σ40 p2 (fRead By Nb 1601 S00).2.2.2 (act (fRead By Nb 1601 S00).2.2.2)) := fun zz => KN_ne (h36 zz) h44 (by have := hP2; unfold PLA at this; omega)
    have h46 := RSAM_ne h37 h44 (by decide)
    have o47 : OUT σ0 σ40 p2 := OUT_pn o38 h44 (by decide +kernel : TG 0 = 0) (by decide)
    refine En_Ps 2 (pc' := 47) (lv' := [(1, .ref p), (0, .ref 0)]) (st' := [.ref p, .ref 0]) rfl ?_
    refine En_put (j := 10) rfl rfl rfl (by decide +kernel : TG 0 = 0) (by decide +kernel) rfl (vR (g' := 18) (u := 0) (by decide +kernel) hp) h41 h42 (by decide +kernel) (fun σ48 h49 h50 h51 h52 => ?_)
    have h53 : ((fRead By Nb 1601 S00).1 = 0 → KN σ48 p2 (fRead By Nb 1601 S00).2.2.2 (act (fRead By Nb 1601 S00).2.2.2)) := fun zz => KN_ne (h45 zz) h52 (by have := hP2; unfold PLA at this; omega)
    have h54 := RSAM_ne h46 h52 (by decide)
    have o55 : OUT σ0 σ48 p2 := OUT_pn o47 h52 (by decide +kernel : TG 0 = 0) (by decide)
    refine En_Ps 1 (pc' := 51) (lv' := [(1, .ref p), (0, .ref 0)]) (st' := [.ref 0]) rfl ?_
    refine En_getU (j := 2) (u := 4) (g' := 4) (q := 0) rfl rfl rfl (by decide +kernel : TG 0 = 0) (by decide +kernel) h49 (by decide +kernel) (by decide +kernel) (fun h56 => ?_)
    refine En_Ps 1 (pc' := 55) (lv' := [(1, .ref p), (0, .ref 0)]) (st' := [.ref 0, .ref 4]) rfl ?_
    refine En_getK (j := 9) ((h52 _ _ (Or.inr (by decide))).trans h43) rfl rfl rfl (by decide +kernel : TG 0 = 0) (by decide +kernel) ?_
    refine En_getK (j := 1) ((h52 _ _ (Or.inr (by decide))).trans ((h44 _ _ (Or.inr (by decide))).trans ((h35 _ _ (Or.inl (neTG hp2 (by decide +kernel : TG 1 = 1) (by decide)))).trans h12))) rfl rfl rfl hp2 (by decide +kernel) ?_
    refine En_callV rfl rfl rfl rfl rfl rfl rfl rfl (by decide +kernel : TG 4 = 4) (by decide +kernel) rfl (c_82x σ48 h49 z11 (geI rfl (by omega)) (leI rfl (by omega))) (by decide) (by decide) (fun v59 σ60 h58 => ?_)
    obtain ⟨h61, h62, rfl, h63⟩ := h58
    have h64 := h63
    have h65 := Fr_trans h50 h62 (by decide +kernel)
    have h66 : ((fRead By Nb 1601 S00).1 = 0 → KN σ60 p2 (fRead By Nb 1601 S00).2.2.2 (act (fRead By Nb 1601 S00).2.2.2)) := fun zz => KN_fr hP2 (h53 zz) h62 (by decide +kernel)
    have o67 : OUT σ0 σ60 p2 := OUT_fr o55 h62 (by decide +kernel)
    refine En_Ps 1 (pc' := 65) (lv' := [(1, .ref p), (0, .ref 0)]) (st' := [.ref 0]) rfl ?_
    refine En_getK (j := 9) ((h62 _ _ (inW (by decide +kernel : TG 0 = 0) (by decide +kernel))).trans ((h52 _ _ (Or.inr (by decide))).trans h43)) rfl rfl rfl (by decide +kernel : TG 0 = 0) (by decide +kernel) ?_
    refine En_getK (j := 0) ((h62 _ _ (inW hp2 (by decide +kernel))).trans ((h52 _ _ (Or.inr (by decide))).trans ((h44 _ _ (Or.inr (by decide))).trans ((h35 _ _ (Or.inr (by decide))).trans h17)))) rfl rfl rfl hp2 (by decide +kernel) ?_
    have := (by decide : (Int32.ofInt 0).toInt = 0)
    exact En_ret (v := some (.int z18)) rfl rfl rfl ⟨h61, h65, (Int32.ofInt 0), ((h62 _ _ (inW (by decide +kernel : TG 1 = 1) (by decide +kernel))).trans ((h52 _ _ (Or.inr (by decide))).trans ((h44 _ _ (Or.inr (by decide))).trans h34))), z18, rfl, ⟨o67, by omega, by omega, by omega, by omega, by omega, by omega, by omega, by omega, ⟨⟨⟨p2, p, z11, hp2, hp, ((h62 _ _ (inW (by decide +kernel : TG 0 = 0) (by decide +kernel))).trans ((h52 _ _ (Or.inr (by decide))).trans h43)), ((h62 _ _ (inW (by decide +kernel : TG 0 = 0) (by decide +kernel))).trans h51), (fun e => hne e.symm), ((h62 _ _ (inW hp2 (by decide +kernel))).trans ((h52 _ _ (Or.inr (by decide))).trans ((h44 _ _ (Or.inr (by decide))).trans ((h35 _ _ (Or.inl (neTG hp2 (by decide +kernel : TG 1 = 1) (by decide)))).trans h12)))), (by omega)⟩, ⟨(ci_at (j := 5) ((h62 _ _ (inW (by decide +kernel : TG 3 = 3) (by decide +kernel))).trans ((h52 _ _ (Or.inr (by decide))).trans ((h44 _ _ (Or.inr (by decide))).trans ((h35 _ _ (Or.inr (by decide))).trans h10)))) rfl).trans (by omega), (ci_at (j := 6) ((h62 _ _ (inW (by decide +kernel : TG 3 = 3) (by decide +kernel))).trans ((h52 _ _ (Or.inr (by decide))).trans ((h44 _ _ (Or.inr (by decide))).trans ((h35 _ _ (Or.inr (by decide))).trans h21)))) rfl).trans (by omega), fun zz => by omega, fun zz => by omega⟩⟩, ⟨fun zz => absurd (by omega) zz, fun zz => ⟨((h62 _ _ (inW (by decide +kernel : TG 0 = 0) (by decide +kernel))).trans ((h52 _ _ (Or.inr (by decide))).trans h43)), h66 zz⟩⟩, ⟨fun _ => (RULx_eq h64 (ci_at (j := 1) ((h62 _ _ (inW hp2 (by decide +kernel))).trans ((h52 _ _ (Or.inr (by decide))).trans ((h44 _ _ (Or.inr (by decide))).trans ((h35 _ _ (Or.inl (neTG hp2 (by decide +kernel : TG 1 = 1) (by decide)))).trans h12)))) rfl)), fun zz => absurd (by omega) zz⟩⟩⟩⟩
  · refine En_Ps 1 (pc' := 31) (lv' := [(0, .ref 0)]) (st' := [.int (((Int8.ofInt (-4)).toInt32))]) rfl ?_
    have := (by decide : (Int32.ofInt 0).toInt = 0)
    refine En_top (by decide : ((Int8.ofInt (-4)).toInt32).toInt = -4) (fun z68 h69 => ?_)
    exact En_ret (v := some (.int z68)) rfl rfl rfl ⟨h32, h33, (Int32.ofInt 0), h34, z68, rfl, ⟨o38, by omega, by omega, by omega, by omega, by omega, by omega, by omega, by omega, ⟨⟨⟨p, p2, sg, hp, hp2, ((h35 _ _ (Or.inr (by decide))).trans ((h7 _ _ (inW (by decide +kernel : TG 0 = 0) (by decide +kernel))).trans h_p)), ((h35 _ _ (Or.inr (by decide))).trans ((h7 _ _ (inW (by decide +kernel : TG 0 = 0) (by decide +kernel))).trans h_p2)), hne, ((h35 _ _ (Or.inl (neTG hp (by decide +kernel : TG 1 = 1) (by decide)))).trans (((h13.1 p hp hne)).trans h_sg)), (by omega)⟩, ⟨(ci_at (j := 5) ((h35 _ _ (Or.inr (by decide))).trans h10) rfl).trans (by omega), (ci_at (j := 6) ((h35 _ _ (Or.inr (by decide))).trans h21) rfl).trans (by omega), fun zz => by omega, fun zz => by omega⟩⟩, ⟨fun _ => ((h35 _ _ (Or.inr (by decide))).trans ((h7 _ _ (inW (by decide +kernel : TG 0 = 0) (by decide +kernel))).trans h_p)), fun zz => absurd zz (by omega)⟩, ⟨fun zz => absurd zz (by omega), fun _ => h37⟩⟩⟩⟩
/-- DoorSchool.teach(III)I -/
abbrev P_174x (σ0 : SG) (Wv : Int → Int) (a : Int32) (b : Int32) (c : Int32) (p : Nat) (sg : Int32) : PO := fun v σ => WT σ ∧ Fr [(18, 14), (20, 2), (21, 0), (22, 0), (27, 0)] σ0 σ ∧ ∃ ret : Int32, v = some (.int ret) ∧ -ret.toInt - 5 ≤ 0 ∧ ret.toInt - 12 ≤ 0 ∧ (ret.toInt = tcR Wv a.toInt b.toInt c.toInt ∧ KN σ p (tcW Wv a.toInt b.toInt c.toInt) (act (tcW Wv a.toInt b.toInt c.toInt)) ∧ OUT σ0 σ p)
set_option maxRecDepth 10000 in
set_option maxHeartbeats 4000000 in
theorem c_174x {Wv : Int → Int} (σ0 : SG) (hσ0 : WT σ0) (a : Int32) (b : Int32) (c : Int32) (p : Nat) (hp : TG p = 18) (h_p : (σ0 0)[9]? = some (.ref p)) (sg : Int32) (h_sg : (σ0 p)[1]? = some (.int sg)) (hp0 : -sg.toInt ≤ 0) (hP : PLA p) (hX : FXP σ0 p) (hK : KN σ0 p Wv (act Wv)) : En 3 64 none mr_174 (P_174x σ0 Wv a b c p sg) 0 [(0, .ref 0), (1, .int a), (2, .int b), (3, .int c)] [] σ0 := by
  obtain ⟨hl_sg, hu_sg⟩ := WT_int hσ0 (g := 18) hp (by decide +kernel) (l := (-1)) (u := 4) (by decide +kernel) h_sg
  have hF0 : Fr [(18, 14), (20, 2), (21, 0), (22, 0), (27, 0)] σ0 σ0 := Fr_rfl
  have t1 : Wv (0) = sg.toInt := KN_v hK (Or.inl (by decide)) (by omega) (by omega) (by rw [lcO_lt (by decide) (by decide), Nat.add_zero]) rfl h_sg
  refine En_Ps 4 (pc' := 4) (lv' := [(0, .ref 0), (1, .int a), (2, .int b), (3, .int c)]) (st' := [.int c, .int b, .int a, .ref 0]) rfl ?_
  refine En_callV rfl rfl rfl rfl rfl rfl rfl rfl (by decide +kernel : TG 0 = 0) (by decide +kernel) rfl (c_144x σ0 hσ0 a b c p hp h_p sg h_sg (by omega) hP (FXP_fr hP hX hF0 (by decide +kernel)) hK) (by decide) (by decide) (fun v3 σ4 h2 => ?_)
  obtain ⟨h5, h6, z8, rfl, h7⟩ := h2
  have h9 := h7.2.2.2.2
  obtain rfl : σ0 = σ4 := Fr_nil h6
  have h10 := h9
  refine En_iNe _ rfl rfl (fun h11 => ?_) (fun h11 => ?_)
  · have h12 := Imp_m h7.2.2.2.1 (by omega)
    have h13 : okL Wv a.toInt b.toInt c.toInt := by rcases h10 with q | q; exact q.2; exfalso; omega
    have h14 := h13.1
    have h15 := h13.2.1
    refine En_Ps 1 (pc' := 14) (lv' := [(0, .ref 0), (1, .int a), (2, .int b), (3, .int c)]) (st' := [.ref 0]) rfl ?_
    refine En_getK (j := 9) h_p rfl rfl rfl (by decide +kernel : TG 0 = 0) (by decide +kernel) ?_
    refine En_getR (j := 4) (g' := 19) (u := 0) rfl rfl rfl hp (by decide +kernel) hσ0 (by decide +kernel) (fun a17 h16 ha17 => ?_)
    have t18 : a17 = p + 1 := ref_uniq h16 (FXP_fr hP hX hF0 (by decide +kernel)).1
    obtain ⟨z20, h19, h21, h22⟩ := WT_peekI hσ0 hp (by decide +kernel : FT 18 3 = (0, 0, 4)) (by decide +kernel)
    have t23 : Wv (2) = z20.toInt := KN_v hK (Or.inl (by decide)) (by omega) (by omega) (by rw [lcO_lt (by decide) (by decide), Nat.add_zero]) rfl h19
    refine En_Ps 1 (pc' := 21) (lv' := [(0, .ref 0), (1, .int a), (2, .int b), (3, .int c)]) (st' := [.int a, .ref a17]) rfl ?_
    refine En_aald (g' := 28) (u := 0) rfl rfl ha17 (by decide +kernel) hσ0 (by omega) (lnI (by decide +kernel : LN _ = 4) (by omega)) (FTsgl (by decide +kernel)) (fun a25 h24 ha25 => ?_)
    have t26 : a25 = p + 10 + 4 * (a.toInt).toNat := DRe (d := a.toInt) (FXP_fr hP hX hF0 (by decide +kernel)) t18 h24 (by omega) (by omega)
    have t27 := lc_d (d := a.toInt) (by omega) (by omega)
    refine En_getR (j := 0) (g' := 20) (u := 0) rfl rfl rfl ha25 (by decide +kernel) hσ0 (by decide +kernel) (fun a29 h28 ha29 => ?_)
    have t30 : a29 = p + 11 + 4 * (a.toInt).toNat := DLc (d := a.toInt) (FXP_fr hP hX hF0 (by decide +kernel)) t26 h28 (by omega) (by omega)
    refine En_Ps 2 (pc' := 29) (lv' := [(4, .ref a29), (0, .ref 0), (1, .int a), (2, .int b), (3, .int c)]) (st' := [.ref a29]) rfl ?_
    refine En_getI (j := 2) (l := 0) (u := 13) rfl rfl rfl ha29 (by decide +kernel) hσ0 (by decide +kernel) (fun z32 h31 h33 h34 => ?_)
    have t35 : Wv (12 + 4 * (a.toInt)) = z32.toInt := KN_v hK (Or.inr (Or.inl ⟨by omega, by omega, by omega⟩)) (by omega) (by omega) (by omega) (by omega) h31
    refine En_Ps 1 (pc' := 34) (lv' := [(4, .ref a29), (0, .ref 0), (1, .int a), (2, .int b), (3, .int c)]) (st' := [.int (((Int8.ofInt 12).toInt32)), .int z32]) rfl ?_
    refine En_icLt _ rfl (by decide : ((Int8.ofInt 12).toInt32).toInt = 12) rfl (fun h36 => ?_) (fun h36 => ?_)
    · refine En_Ps 1 (pc' := 41) (lv' := [(4, .ref a29), (0, .ref 0), (1, .int a), (2, .int b), (3, .int c)]) (st' := [.ref 0]) rfl ?_
      refine En_getK (j := 9) h_p rfl rfl rfl (by decide +kernel : TG 0 = 0) (by decide +kernel) ?_
      refine En_getI (j := 14) (l := 0) (u := 60) rfl rfl rfl hp (by decide +kernel) hσ0 (by decide +kernel) (fun z38 h37 h39 h40 => ?_)
      have t41 : Wv (6) = z38.toInt := KN_v hK (Or.inl (by decide)) (by omega) (by omega) (by rw [lcO_lt (by decide) (by decide), Nat.add_zero]) rfl h37
      refine En_Ps 1 (pc' := 49) (lv' := [(4, .ref a29), (0, .ref 0), (1, .int a), (2, .int b), (3, .int c)]) (st' := [.int (((Int8.ofInt 60).toInt32)), .int z38]) rfl ?_
      refine En_icLt _ rfl (by decide : ((Int8.ofInt 60).toInt32).toInt = 60) rfl (fun h42 => ?_) (fun h42 => ?_)
      · refine En_Ps 3 (pc' := 59) (lv' := [(4, .ref a29), (0, .ref 0), (1, .int a), (2, .int b), (3, .int c)]) (st' := [.int c, .int b, .ref a29]) rfl ?_
        obtain ⟨a44, h43, ha44⟩ := WT_peekR (g := 20) (j := 0) (g' := 21) (u := 0) hσ0 ha29 (by decide +kernel) (by decide +kernel)
        have t45 : a44 = p + 12 + 4 * (a.toInt).toNat := DKk (d := a.toInt) (FXP_fr hP hX hF0 (by decide +kernel)) t30 h43 (by omega) (by omega)
        obtain ⟨a47, h46, ha47⟩ := WT_peekR (g := 20) (j := 1) (g' := 22) (u := 0) hσ0 ha29 (by decide +kernel) (by decide +kernel)
        have t48 : a47 = p + 13 + 4 * (a.toInt).toNat := DKo (d := a.toInt) (FXP_fr hP hX hF0 (by decide +kernel)) t30 h46 (by omega) (by omega)
        refine En_callV rfl rfl rfl rfl rfl rfl rfl rfl ha29 (by decide +kernel) rfl (c_31x σ0 hσ0 a29 ha29 b c (geI rfl (by omega)) (leI rfl (by omega)) (geI rfl (by omega)) (leI rfl (by omega)) a44 ha44 h43 a47 ha47 h46 z32 h31 (by omega)) (by decide) (by decide) (fun v50 σ51 h49 => ?_)
        obtain ⟨h52, h53, z55, h56, rfl, h54⟩ := h49
        have h57 := h54.2.2.2.2
        have h58 := Fr_trans hF0 h53 (by decide +kernel)
        refine En_Ps 1 (pc' := 63) (lv' := [(4, .ref a29), (0, .ref 0), (1, .int a), (2, .int b), (3, .int c)]) (st' := [.ref 0]) rfl ?_
        refine En_getK (j := 9) ((h53 _ _ (inW (by decide +kernel : TG 0 = 0) (by decide +kernel))).trans h_p) rfl rfl rfl (by decide +kernel : TG 0 = 0) (by decide +kernel) ?_
        refine En_getR (j := 15) (g' := 27) (u := 0) rfl rfl rfl hp (by decide +kernel) h52 (by decide +kernel) (fun a60 h59 ha60 => ?_)
        have t61 : a60 = p + 9 := ref_uniq h59 (FXP_fr hP hX h58 (by decide +kernel)).2.2.2.2.2.2.1
        refine En_Ps 1 (pc' := 70) (lv' := [(4, .ref a29), (0, .ref 0), (1, .int a), (2, .int b), (3, .int c)]) (st' := [.ref 0, .ref a60]) rfl ?_
        refine En_getK (j := 9) ((h53 _ _ (inW (by decide +kernel : TG 0 = 0) (by decide +kernel))).trans h_p) rfl rfl rfl (by decide +kernel : TG 0 = 0) (by decide +kernel) ?_
        refine En_getK (j := 14) ((h53 _ _ (inW hp (by decide +kernel))).trans h37) rfl rfl rfl hp (by decide +kernel) ?_
        refine En_Ps 1 (pc' := 77) (lv' := [(4, .ref a29), (0, .ref 0), (1, .int a), (2, .int b), (3, .int c)]) (st' := [.int a, .int z38, .ref a60]) rfl ?_
        refine En_iast (l := 0) (u := 3) rfl rfl ha60 (by decide +kernel) (by omega) (lnI (by decide +kernel : LN _ = 60) (by omega)) (FTsgl (by decide +kernel)) (rngI rfl (by omega) (by omega)) h52 h58 (by decide +kernel) (fun σ62 h63 h64 h65 h66 => ?_)
        refine En_Ps 1 (pc' := 79) (lv' := [(4, .ref a29), (0, .ref 0), (1, .int a), (2, .int b), (3, .int c)]) (st' := [.ref 0]) rfl ?_
        refine En_getK (j := 9) ((h66 _ _ (Or.inl (neTG (by decide +kernel : TG 0 = 0) ha60 (by decide)))).trans ((h53 _ _ (inW (by decide +kernel : TG 0 = 0) (by decide +kernel))).trans h_p)) rfl rfl rfl (by decide +kernel : TG 0 = 0) (by decide +kernel) ?_
        refine En_Ps 1 (pc' := 83) (lv' := [(4, .ref a29), (0, .ref 0), (1, .int a), (2, .int b), (3, .int c)]) (st' := [.ref p, .ref p]) rfl ?_
        refine En_getK (j := 14) ((h66 _ _ (Or.inl (neTG hp ha60 (by decide)))).trans ((h53 _ _ (inW hp (by decide +kernel))).trans h37)) rfl rfl rfl hp (by decide +kernel) ?_
        refine En_Ps 2 (pc' := 88) (lv' := [(4, .ref a29), (0, .ref 0), (1, .int a), (2, .int b), (3, .int c)]) (st' := [.int ((z38 + ((Int32.ofInt 1)))), .ref p]) rfl ?_
        refine En_top (addI rfl (by decide : (Int32.ofInt 1).toInt = 1) (by omega) (by omega)) (fun z67 h68 => ?_)
        refine En_put (j := 14) rfl rfl rfl hp (by decide +kernel) rfl (vI (l := 0) (u := 60) (by decide +kernel) rfl (by omega) (by omega)) h63 h64 (by decide +kernel) (fun σ69 h70 h71 h72 h73 => ?_)
        refine En_Ps 1 (pc' := 93) (lv' := [(4, .ref a29), (0, .ref 0), (1, .int a), (2, .int b), (3, .int c)]) (st' := [.ref a29]) rfl ?_
        refine En_getK (j := 2) ((h73 _ _ (Or.inr (by decide))).trans ((h66 _ _ (Or.inl (neTG ha29 ha60 (by decide)))).trans h56)) rfl rfl rfl ha29 (by decide +kernel) ?_
        exact En_ret (v := some (.int z55)) rfl rfl rfl ⟨h70, h71, z55, rfl, ⟨by omega, by omega, (by rw [tcW_y h13 (by omega) (by omega)]; exact ⟨tcR_y h13 (by omega) (by omega) (by omega), KN_teach hK (PLA_B hP) t35 t41 h57 rfl rfl h65 h66 h72 h73 t30 t45 t48 t61 rfl (by omega) (by omega) (by omega) (by omega) (by omega) (by omega) (by omega)⟩)⟩⟩
      · refine En_Ps 1 (pc' := 54) (lv' := [(4, .ref a29), (0, .ref 0), (1, .int a), (2, .int b), (3, .int c)]) (st' := [.int (((Int8.ofInt (-5)).toInt32))]) rfl ?_
        refine En_top (by decide : ((Int8.ofInt (-5)).toInt32).toInt = -5) (fun z74 h75 => ?_)
        exact En_ret (v := some (.int z74)) rfl rfl rfl ⟨hσ0, hF0, z74, rfl, ⟨by omega, by omega, (by rw [tcW_n (fun q => by omega)]; exact ⟨tcR_5 h13 (by omega) (by omega) (by omega), hK, OUT_0⟩)⟩⟩
    · refine En_Ps 1 (pc' := 39) (lv' := [(4, .ref a29), (0, .ref 0), (1, .int a), (2, .int b), (3, .int c)]) (st' := [.int (((Int8.ofInt (-3)).toInt32))]) rfl ?_
      refine En_top (by decide : ((Int8.ofInt (-3)).toInt32).toInt = -3) (fun z76 h77 => ?_)
      exact En_ret (v := some (.int z76)) rfl rfl rfl ⟨hσ0, hF0, z76, rfl, ⟨by omega, by omega, (by rw [tcW_n (fun q => by omega)]; exact ⟨tcR_3 h13 (by omega) (by omega), hK, OUT_0⟩)⟩⟩
  · have h78 := Imp_m h7.2.2.1 (by omega)
    refine En_Ps 1 (pc' := 12) (lv' := [(0, .ref 0), (1, .int a), (2, .int b), (3, .int c)]) (st' := [.int (((Int8.ofInt (-2)).toInt32))]) rfl ?_
    refine En_top (by decide : ((Int8.ofInt (-2)).toInt32).toInt = -2) (fun z79 h80 => ?_)
    exact En_ret (v := some (.int z79)) rfl rfl rfl ⟨hσ0, hF0, z79, rfl, ⟨by omega, by omega, (by have q0 : ¬ okL Wv a.toInt b.toInt c.toInt := (by rcases h10 with q | q; exfalso; omega; exact q.2); rw [tcW_n (fun q => q0 q.1)]; exact ⟨tcR_2 q0 (by omega), hK, OUT_0⟩)⟩⟩
/-- DoorSchool.told(II)I -/
abbrev P_176x (σ0 : SG) (Wv : Int → Int) (a : Int32) (b : Int32) (p : Nat) (sg : Int32) : PO := fun v σ => WT σ ∧ Fr [] σ0 σ ∧ ∃ ret : Int32, v = some (.int ret) ∧ -ret.toInt - 2 ≤ 0 ∧ ret.toInt - 15 ≤ 0 ∧ ret.toInt = tdR Wv a.toInt b.toInt
set_option maxRecDepth 10000 in
set_option maxHeartbeats 4000000 in
theorem c_176x {Wv : Int → Int} (σ0 : SG) (hσ0 : WT σ0) (a : Int32) (b : Int32) (p : Nat) (hp : TG p = 18) (h_p : (σ0 0)[9]? = some (.ref p)) (sg : Int32) (h_sg : (σ0 p)[1]? = some (.int sg)) (hp0 : -sg.toInt ≤ 0) (hP : PLA p) (hX : FXP σ0 p) (hK : KN σ0 p Wv (act Wv)) (hB : WFw Wv) (hT : TWN Wv) (hQ : 0 < Wv 7 → RULx σ0 (Wv 0)) (hq : QX Wv) : En 2 41 none mr_176 (P_176x σ0 Wv a b p sg) 0 [(0, .ref 0), (1, .int a), (2, .int b)] [] σ0 := by
  obtain ⟨hl_sg, hu_sg⟩ := WT_int hσ0 (g := 18) hp (by decide +kernel) (l := (-1)) (u := 4) (by decide +kernel) h_sg
  have hF0 : Fr [] σ0 σ0 := Fr_rfl
  have t1 : Wv (0) = sg.toInt := KN_v hK (Or.inl (by decide)) (by omega) (by omega) (by rw [lcO_lt (by decide) (by decide), Nat.add_zero]) rfl h_sg
  obtain ⟨z3, h2, h4, h5⟩ := WT_peekI hσ0 hp (by decide +kernel : FT 18 3 = (0, 0, 4)) (by decide +kernel)
  have t6 : Wv (2) = z3.toInt := KN_v hK (Or.inl (by decide)) (by omega) (by omega) (by rw [lcO_lt (by decide) (by decide), Nat.add_zero]) rfl h2
  have h7 := hB.2.2.1
  have h8 := hB.1
  have h9 := hB.2.1
  refine En_Ps 1 (pc' := 1) (lv' := [(0, .ref 0), (1, .int a), (2, .int b)]) (st' := [.ref 0]) rfl ?_
  refine En_getK (j := 9) h_p rfl rfl rfl (by decide +kernel : TG 0 = 0) (by decide +kernel) ?_
  refine En_Ps 1 (pc' := 5) (lv' := [(0, .ref 0), (1, .int a), (2, .int b)]) (st' := [.int a, .ref p]) rfl ?_
  obtain ⟨z11, h10, h12, h13⟩ := WT_peekI hσ0 hp (by decide +kernel : FT 18 0 = (0, 0, 1601)) (by decide +kernel)
  have t14 : Wv (7) = z11.toInt := KN_v hK (Or.inl (by decide)) (by omega) (by omega) (by rw [lcO_lt (by decide) (by decide), Nat.add_zero]) rfl h10
  refine En_callV rfl rfl rfl rfl rfl rfl rfl rfl hp (by decide +kernel) rfl (c_46x σ0 hσ0 p hp a z11 h10 sg h_sg (by omega)) (by decide) (by decide) (fun v16 σ17 h15 => ?_)
  obtain ⟨h18, h19, z21, rfl, h20⟩ := h15
  have h22 := h20.2.2.2
  obtain rfl : σ0 = σ17 := Fr_nil h19
  have h23 := h22
  have h24 : pI (pI (Wv 0)) = pI (pI (sg.toInt)) := by rw [t1]
  refine En_iEq _ rfl rfl (fun h25 => ?_) (fun h25 => ?_)
  · refine En_Ps 1 (pc' := 20) (lv' := [(0, .ref 0), (1, .int a), (2, .int b)]) (st' := [.int (((Int8.ofInt (-2)).toInt32))]) rfl ?_
    refine En_top (by decide : ((Int8.ofInt (-2)).toInt32).toInt = -2) (fun z26 h27 => ?_)
    exact En_ret (v := some (.int z26)) rfl rfl rfl ⟨hσ0, hF0, z26, rfl, ⟨by omega, by omega, tdR_n (fun ⟨q1, q2, q3, q4, q5⟩ => by omega) (by omega)⟩⟩
  · have h28 := Imp_m h20.2.2.1 (by omega)
    refine En_Ps 1 (pc' := 12) (lv' := [(0, .ref 0), (1, .int a), (2, .int b)]) (st' := [.int b]) rfl ?_
    refine En_callS rfl rfl rfl rfl rfl rfl rfl rfl rfl (c_149x σ0 hσ0 b) (by decide) (by decide) (fun v30 σ31 h29 => ?_)
    obtain ⟨h32, h33, z35, rfl, h34⟩ := h29
    have h36 := h34.2.2.2
    obtain rfl : σ0 = σ31 := Fr_nil h33
    have h37 := Imp_m h34.2.2.1
    refine En_iNe _ rfl rfl (fun h38 => ?_) (fun h38 => ?_)
    · have h39 := Imp_m h34.2.2.1 (by omega)
      obtain ⟨z41, h40, h42, h43⟩ := WT_peekI hσ0 (by decide +kernel : TG 4 = 4) (by decide +kernel : FT 4 0 = (0, 0, 16)) (by decide +kernel)
      obtain ⟨z45, h44, h46, h47⟩ := WT_peekI hσ0 (by decide +kernel : TG 4 = 4) (by decide +kernel : FT 4 1 = (0, 0, 81)) (by decide +kernel)
      have h48 : z41.toInt = pI (Wv 0) := (ci_at (j := 0) h40 rfl).symm.trans (hQ (by omega)).1
      have h49 : z45.toInt = nR (Wv 0) := (ci_at (j := 1) h44 rfl).symm.trans (hQ (by omega)).2.1
      have h50 := pI_rng (s := Wv 0) (by omega) (by omega)
      have h51 := nR_rg (s := Wv 0) (by omega) (by omega)
      refine En_Ps 1 (pc' := 22) (lv' := [(0, .ref 0), (1, .int a), (2, .int b)]) (st' := [.ref 0]) rfl ?_
      refine En_getU (j := 2) (u := 4) (g' := 4) (q := 0) rfl rfl rfl (by decide +kernel : TG 0 = 0) (by decide +kernel) hσ0 (by decide +kernel) (by decide +kernel) (fun h52 => ?_)
      refine En_Ps 1 (pc' := 26) (lv' := [(0, .ref 0), (1, .int a), (2, .int b)]) (st' := [.int a, .ref 4]) rfl ?_
      refine En_callV rfl rfl rfl rfl rfl rfl rfl rfl (by decide +kernel : TG 4 = 4) (by decide +kernel) rfl (c_81x σ0 hσ0 a z45 h44) (by decide) (by decide) (fun v55 σ56 h54 => ?_)
      obtain ⟨h57, h58, z60, rfl, h59⟩ := h54
      have h61 := h59.2.2
      obtain rfl : σ0 = σ56 := Fr_nil h58
      have h62 : z60.toInt = fr2 Wv a.toInt := fr2_of h49 (fun i i0 i1 => TB_D (hQ (by omega)).2.2 i i0 (by omega)) h61
      have h63 := fr2_rg (w := Wv) (a := a.toInt)
      refine En_Ps 3 (pc' := 32) (lv' := [(3, .int z60), (0, .ref 0), (1, .int a), (2, .int b)]) (st' := [.int ((Int32.ofInt (-1))), .int z60]) rfl ?_
      refine En_icNe _ rfl (by decide : (Int32.ofInt (-1)).toInt = -1) rfl (fun h64 => ?_) (fun h64 => ?_)
      · refine En_Ps 1 (pc' := 38) (lv' := [(3, .int z60), (0, .ref 0), (1, .int a), (2, .int b)]) (st' := [.int b]) rfl ?_
        refine En_iNe _ rfl rfl (fun h65 => ?_) (fun h65 => ?_)
        · refine En_Ps 1 (pc' := 54) (lv' := [(3, .int z60), (0, .ref 0), (1, .int a), (2, .int b)]) (st' := [.ref 0]) rfl ?_
          refine En_getK (j := 2) h52 rfl rfl rfl (by decide +kernel : TG 0 = 0) (by decide +kernel) ?_
          refine En_getU (j := 3) (u := 6) (g' := 6) (q := 0) rfl rfl rfl (by decide +kernel : TG 4 = 4) (by decide +kernel) hσ0 (by decide +kernel) (by decide +kernel) (fun h66 => ?_)
          refine En_Ps 1 (pc' := 61) (lv' := [(3, .int z60), (0, .ref 0), (1, .int a), (2, .int b)]) (st' := [.int z60, .ref 6]) rfl ?_
          refine En_iald (l := 0) (u := 15) rfl rfl (by decide +kernel : TG 6 = 6) (by decide +kernel) hσ0 (by omega) (lnI (by decide +kernel : LN _ = 81) (by omega)) (FTsgl (by decide +kernel)) (fun z69 h68 h70 h71 => ?_)
          have h72 : ci σ0 6 (z60.toInt) = z69.toInt := ci_at h68 rfl
          exact En_ret (v := some (.int z69)) rfl rfl rfl ⟨hσ0, hF0, z69, rfl, ⟨by omega, by omega, tdR_y ⟨by omega, by omega, by omega, by omega, by omega⟩ h62 (pkR_V (by omega) (by omega) (by omega) (h72.symm.trans (TB_MV (hQ (by omega)).2.2 (by omega) (by omega)).2))⟩⟩
        · refine En_Ps 1 (pc' := 42) (lv' := [(3, .int z60), (0, .ref 0), (1, .int a), (2, .int b)]) (st' := [.ref 0]) rfl ?_
          refine En_getK (j := 2) h52 rfl rfl rfl (by decide +kernel : TG 0 = 0) (by decide +kernel) ?_
          refine En_getU (j := 2) (u := 5) (g' := 5) (q := 0) rfl rfl rfl (by decide +kernel : TG 4 = 4) (by decide +kernel) hσ0 (by decide +kernel) (by decide +kernel) (fun h73 => ?_)
          refine En_Ps 1 (pc' := 49) (lv' := [(3, .int z60), (0, .ref 0), (1, .int a), (2, .int b)]) (st' := [.int z60, .ref 5]) rfl ?_
          refine En_iald (l := 0) (u := 15) rfl rfl (by decide +kernel : TG 5 = 5) (by decide +kernel) hσ0 (by omega) (lnI (by decide +kernel : LN _ = 81) (by omega)) (FTsgl (by decide +kernel)) (fun z76 h75 h77 h78 => ?_)
          have h79 : ci σ0 5 (z60.toInt) = z76.toInt := ci_at h75 rfl
          refine En_Ps 1 (pc' := 62) (lv' := [(3, .int z60), (0, .ref 0), (1, .int a), (2, .int b)]) (st' := [.int z76]) rfl ?_
          exact En_ret (v := some (.int z76)) rfl rfl rfl ⟨hσ0, hF0, z76, rfl, ⟨by omega, by omega, tdR_y ⟨by omega, by omega, by omega, by omega, by omega⟩ h62 (pkR_M (by omega) (by omega) (h79.symm.trans (TB_MV (hQ (by omega)).2.2 (by omega) (by omega)).1))⟩⟩
      · refine En_Ps 1 (pc' := 36) (lv' := [(3, .int z60), (0, .ref 0), (1, .int a), (2, .int b)]) (st' := [.int ((Int32.ofInt (-1)))]) rfl ?_
        refine En_top (by decide : (Int32.ofInt (-1)).toInt = -1) (fun z80 h81 => ?_)
        exact En_ret (v := some (.int z80)) rfl rfl rfl ⟨hσ0, hF0, z80, rfl, ⟨by omega, by omega, tdR_y ⟨by omega, by omega, by omega, by omega, by omega⟩ h62 (pkR_1 (by omega) (by omega))⟩⟩
    · refine En_Ps 1 (pc' := 20) (lv' := [(0, .ref 0), (1, .int a), (2, .int b)]) (st' := [.int (((Int8.ofInt (-2)).toInt32))]) rfl ?_
      refine En_top (by decide : ((Int8.ofInt (-2)).toInt32).toInt = -2) (fun z82 h83 => ?_)
      exact En_ret (v := some (.int z82)) rfl rfl rfl ⟨hσ0, hF0, z82, rfl, ⟨by omega, by omega, tdR_n (fun ⟨q1, q2, q3, q4, q5⟩ => by omega) (by omega)⟩⟩
/-- DoorSchool.train(III)I -/
abbrev P_177x (σ0 : SG) (Wv : Int → Int) (a : Int32) (b : Int32) (c : Int32) (p : Nat) (sg : Int32) : PO := fun v σ => WT σ ∧ Fr [(28, 1), (28, 2)] σ0 σ ∧ ∃ ret : Int32, v = some (.int ret) ∧ -ret.toInt - 2 ≤ 0 ∧ ret.toInt - 50 ≤ 0 ∧ (ret.toInt = trR Wv a.toInt b.toInt c.toInt ∧ KN σ p (trW Wv a.toInt b.toInt c.toInt) (act (trW Wv a.toInt b.toInt c.toInt)) ∧ OUT σ0 σ p)
set_option maxRecDepth 10000 in
set_option maxHeartbeats 4000000 in
theorem c_177x {Wv : Int → Int} (σ0 : SG) (hσ0 : WT σ0) (a : Int32) (b : Int32) (c : Int32) (p : Nat) (hp : TG p = 18) (h_p : (σ0 0)[9]? = some (.ref p)) (sg : Int32) (h_sg : (σ0 p)[1]? = some (.int sg)) (hp0 : -sg.toInt ≤ 0) (hP : PLA p) (hX : FXP σ0 p) (hK : KN σ0 p Wv (act Wv)) : En 1 21 none mr_177 (P_177x σ0 Wv a b c p sg) 0 [(0, .ref 0), (1, .int a), (2, .int b), (3, .int c)] [] σ0 := by
  obtain ⟨hl_sg, hu_sg⟩ := WT_int hσ0 (g := 18) hp (by decide +kernel) (l := (-1)) (u := 4) (by decide +kernel) h_sg
  have hF0 : Fr [(28, 1), (28, 2)] σ0 σ0 := Fr_rfl
  have t1 : Wv (0) = sg.toInt := KN_v hK (Or.inl (by decide)) (by omega) (by omega) (by rw [lcO_lt (by decide) (by decide), Nat.add_zero]) rfl h_sg
  obtain ⟨z3, h2, h4, h5⟩ := WT_peekI hσ0 hp (by decide +kernel : FT 18 3 = (0, 0, 4)) (by decide +kernel)
  have t6 : Wv (2) = z3.toInt := KN_v hK (Or.inl (by decide)) (by omega) (by omega) (by rw [lcO_lt (by decide) (by decide), Nat.add_zero]) rfl h2
  refine En_Ps 1 (pc' := 1) (lv' := [(0, .ref 0), (1, .int a), (2, .int b), (3, .int c)]) (st' := [.ref 0]) rfl ?_
  refine En_getK (j := 9) h_p rfl rfl rfl (by decide +kernel : TG 0 = 0) (by decide +kernel) ?_
  refine En_Ps 1 (pc' := 5) (lv' := [(0, .ref 0), (1, .int a), (2, .int b), (3, .int c)]) (st' := [.int a, .ref p]) rfl ?_
  refine En_callV rfl rfl rfl rfl rfl rfl rfl rfl hp (by decide +kernel) rfl (c_47x σ0 hσ0 p hp a z3 h2) (by decide) (by decide) (fun v8 σ9 h7 => ?_)
  obtain ⟨h10, h11, z13, rfl, h12⟩ := h7
  obtain rfl : σ0 = σ9 := Fr_nil h11
  have h14 := Imp_m h12.2.2.1
  have h15 := Imp_m h12.2.2.2.1
  have h16 := Imp_m h12.2.2.2.2.1
  have h17 := Imp_m h12.2.2.2.2.2
  refine En_iEq _ rfl rfl (fun h18 => ?_) (fun h18 => ?_)
  · have h19 := Imp_m h12.2.2.2.2.1 (by omega)
    refine En_Ps 1 (pc' := 20) (lv' := [(0, .ref 0), (1, .int a), (2, .int b), (3, .int c)]) (st' := [.int (((Int8.ofInt (-2)).toInt32))]) rfl ?_
    refine En_top (by decide : ((Int8.ofInt (-2)).toInt32).toInt = -2) (fun z20 h21 => ?_)
    exact En_ret (v := some (.int z20)) rfl rfl rfl ⟨hσ0, hF0, z20, rfl, ⟨by omega, by omega, (by have q0 : ¬ trC Wv a.toInt b.toInt c.toInt := (by omega); rw [trW_n q0]; exact ⟨trR_n q0 (by omega), hK, OUT_0⟩)⟩⟩
  · have h22 := Imp_m h12.2.2.1 (by omega)
    have h23 := Imp_m h12.2.2.2.1 (by omega)
    have h24 := Imp_m h12.2.2.2.2.2 (by omega)
    refine En_Ps 1 (pc' := 12) (lv' := [(0, .ref 0), (1, .int a), (2, .int b), (3, .int c)]) (st' := [.int b]) rfl ?_
    refine En_callS rfl rfl rfl rfl rfl rfl rfl rfl rfl (c_149x σ0 hσ0 b) (by decide) (by decide) (fun v26 σ27 h25 => ?_)
    obtain ⟨h28, h29, z31, rfl, h30⟩ := h25
    have h32 := h30.2.2.2
    obtain rfl : σ0 = σ27 := Fr_nil h29
    have h33 := Imp_m h30.2.2.1
    refine En_iNe _ rfl rfl (fun h34 => ?_) (fun h34 => ?_)
    · have h35 := Imp_m h30.2.2.1 (by omega)
      refine En_Ps 1 (pc' := 22) (lv' := [(0, .ref 0), (1, .int a), (2, .int b), (3, .int c)]) (st' := [.ref 0]) rfl ?_
      refine En_getK (j := 9) h_p rfl rfl rfl (by decide +kernel : TG 0 = 0) (by decide +kernel) ?_
      refine En_getR (j := 4) (g' := 19) (u := 0) rfl rfl rfl hp (by decide +kernel) hσ0 (by decide +kernel) (fun a37 h36 ha37 => ?_)
      have t38 : a37 = p + 1 := ref_uniq h36 (FXP_fr hP hX hF0 (by decide +kernel)).1
      refine En_Ps 1 (pc' := 29) (lv' := [(0, .ref 0), (1, .int a), (2, .int b), (3, .int c)]) (st' := [.int a, .ref a37]) rfl ?_
      refine En_aald (g' := 28) (u := 0) rfl rfl ha37 (by decide +kernel) hσ0 (by omega) (lnI (by decide +kernel : LN _ = 4) (by omega)) (FTsgl (by decide +kernel)) (fun a40 h39 ha40 => ?_)
      have t41 : a40 = p + 10 + 4 * (a.toInt).toNat := DRe (d := a.toInt) (FXP_fr hP hX hF0 (by decide +kernel)) t38 h39 (by omega) (by omega)
      have t42 := lc_d (d := a.toInt) (by omega) (by omega)
      refine En_Ps 2 (pc' := 33) (lv' := [(4, .ref a40), (0, .ref 0), (1, .int a), (2, .int b), (3, .int c)]) (st' := [.int b]) rfl ?_
      refine En_iNe _ rfl rfl (fun h43 => ?_) (fun h43 => ?_)
      · refine En_Ps 1 (pc' := 63) (lv' := [(4, .ref a40), (0, .ref 0), (1, .int a), (2, .int b), (3, .int c)]) (st' := [.int c]) rfl ?_
        refine En_iLt _ rfl rfl (fun h44 => ?_) (fun h44 => ?_)
        · refine En_Ps 1 (pc' := 74) (lv' := [(4, .ref a40), (0, .ref 0), (1, .int a), (2, .int b), (3, .int c)]) (st' := [.int (((Int8.ofInt (-2)).toInt32))]) rfl ?_
          refine En_top (by decide : ((Int8.ofInt (-2)).toInt32).toInt = -2) (fun z45 h46 => ?_)
          exact En_ret (v := some (.int z45)) rfl rfl rfl ⟨hσ0, hF0, z45, rfl, ⟨by omega, by omega, (by have q0 : ¬ trC Wv a.toInt b.toInt c.toInt := (by omega); rw [trW_n q0]; exact ⟨trR_n q0 (by omega), hK, OUT_0⟩)⟩⟩
        · refine En_Ps 2 (pc' := 69) (lv' := [(4, .ref a40), (0, .ref 0), (1, .int a), (2, .int b), (3, .int c)]) (st' := [.int (((Int8.ofInt 50).toInt32)), .int c]) rfl ?_
          refine En_icLe _ rfl (by decide : ((Int8.ofInt 50).toInt32).toInt = 50) rfl (fun h47 => ?_) (fun h47 => ?_)
          · refine En_Ps 1 (pc' := 77) (lv' := [(4, .ref a40), (0, .ref 0), (1, .int a), (2, .int b), (3, .int c)]) (st' := [.ref a40]) rfl ?_
            refine En_getI (j := 2) (l := 0) (u := 50) rfl rfl rfl ha40 (by decide +kernel) hσ0 (by decide +kernel) (fun z49 h48 h50 h51 => ?_)
            have t52 : Wv (11 + 4 * (a.toInt)) = z49.toInt := KN_v hK (Or.inr (Or.inl ⟨by omega, by omega, by omega⟩)) (by omega) (by omega) (by omega) (by omega) h48
            refine En_Ps 3 (pc' := 85) (lv' := [(5, .int z49), (4, .ref a40), (0, .ref 0), (1, .int a), (2, .int b), (3, .int c)]) (st' := [.int c, .ref a40]) rfl ?_
            refine En_put (j := 2) rfl rfl rfl ha40 (by decide +kernel) rfl (vI (l := 0) (u := 50) (by decide +kernel) rfl (by omega) (by omega)) hσ0 hF0 (by decide +kernel) (fun σ53 h54 h55 h56 h57 => ?_)
            refine En_Ps 1 (pc' := 90) (lv' := [(5, .int z49), (4, .ref a40), (0, .ref 0), (1, .int a), (2, .int b), (3, .int c)]) (st' := [.int z49]) rfl ?_
            exact En_ret (v := some (.int z49)) rfl rfl rfl ⟨h54, h55, z49, rfl, ⟨by omega, by omega, (by have l := lc_d (d := a.toInt) (by omega) (by omega); have q0 := KN_one hK (PLA_B hP) (i := 11 + 4 * (a.toInt)) (v := c.toInt) h56 h57 (by omega) (by omega) ⟨by omega, by omega⟩ rfl (by omega) (Or.inr (Or.inl ⟨by omega, by omega, by omega⟩)); rw [trW_y (i := 11 + 4 * (a.toInt)) (by omega) (by omega)]; exact ⟨trR_y (i := 11 + 4 * (a.toInt)) (by omega) (by omega) t52, q0⟩)⟩⟩
          · refine En_Ps 1 (pc' := 74) (lv' := [(4, .ref a40), (0, .ref 0), (1, .int a), (2, .int b), (3, .int c)]) (st' := [.int (((Int8.ofInt (-2)).toInt32))]) rfl ?_
            refine En_top (by decide : ((Int8.ofInt (-2)).toInt32).toInt = -2) (fun z58 h59 => ?_)
            exact En_ret (v := some (.int z58)) rfl rfl rfl ⟨hσ0, hF0, z58, rfl, ⟨by omega, by omega, (by have q0 : ¬ trC Wv a.toInt b.toInt c.toInt := (by omega); rw [trW_n q0]; exact ⟨trR_n q0 (by omega), hK, OUT_0⟩)⟩⟩
      · refine En_Ps 1 (pc' := 37) (lv' := [(4, .ref a40), (0, .ref 0), (1, .int a), (2, .int b), (3, .int c)]) (st' := [.int c]) rfl ?_
        refine En_callS rfl rfl rfl rfl rfl rfl rfl rfl rfl (c_148 σ0 hσ0 c) (by decide) (by decide) (fun v61 σ62 h60 => ?_)
        obtain ⟨h63, h64, z66, rfl, h65⟩ := h60
        obtain rfl : σ0 = σ62 := Fr_nil h64
        refine En_iNe _ rfl rfl (fun h67 => ?_) (fun h67 => ?_)
        · refine En_Ps 1 (pc' := 48) (lv' := [(4, .ref a40), (0, .ref 0), (1, .int a), (2, .int b), (3, .int c)]) (st' := [.ref a40]) rfl ?_
          refine En_getI (j := 1) (l := 0) (u := 2) rfl rfl rfl ha40 (by decide +kernel) hσ0 (by decide +kernel) (fun z69 h68 h70 h71 => ?_)
          have t72 : Wv (10 + 4 * (a.toInt)) = z69.toInt := KN_v hK (Or.inr (Or.inl ⟨by omega, by omega, by omega⟩)) (by omega) (by omega) (by omega) (by omega) h68
          refine En_Ps 3 (pc' := 56) (lv' := [(5, .int z69), (4, .ref a40), (0, .ref 0), (1, .int a), (2, .int b), (3, .int c)]) (st' := [.int c, .ref a40]) rfl ?_
          refine En_put (j := 1) rfl rfl rfl ha40 (by decide +kernel) rfl (vI (l := 0) (u := 2) (by decide +kernel) rfl (by omega) (by omega)) hσ0 hF0 (by decide +kernel) (fun σ73 h74 h75 h76 h77 => ?_)
          refine En_Ps 1 (pc' := 61) (lv' := [(5, .int z69), (4, .ref a40), (0, .ref 0), (1, .int a), (2, .int b), (3, .int c)]) (st' := [.int z69]) rfl ?_
          exact En_ret (v := some (.int z69)) rfl rfl rfl ⟨h74, h75, z69, rfl, ⟨by omega, by omega, (by have l := lc_d (d := a.toInt) (by omega) (by omega); have q0 := KN_one hK (PLA_B hP) (i := 10 + 4 * (a.toInt)) (v := c.toInt) h76 h77 (by omega) (by omega) ⟨by omega, by omega⟩ rfl (by omega) (Or.inr (Or.inl ⟨by omega, by omega, by omega⟩)); rw [trW_y (i := 10 + 4 * (a.toInt)) (by omega) (by omega)]; exact ⟨trR_y (i := 10 + 4 * (a.toInt)) (by omega) (by omega) t72, q0⟩)⟩⟩
        · refine En_Ps 1 (pc' := 45) (lv' := [(4, .ref a40), (0, .ref 0), (1, .int a), (2, .int b), (3, .int c)]) (st' := [.int (((Int8.ofInt (-2)).toInt32))]) rfl ?_
          refine En_top (by decide : ((Int8.ofInt (-2)).toInt32).toInt = -2) (fun z78 h79 => ?_)
          exact En_ret (v := some (.int z78)) rfl rfl rfl ⟨hσ0, hF0, z78, rfl, ⟨by omega, by omega, (by have q0 : ¬ trC Wv a.toInt b.toInt c.toInt := (by omega); rw [trW_n q0]; exact ⟨trR_n q0 (by omega), hK, OUT_0⟩)⟩⟩
    · refine En_Ps 1 (pc' := 20) (lv' := [(0, .ref 0), (1, .int a), (2, .int b), (3, .int c)]) (st' := [.int (((Int8.ofInt (-2)).toInt32))]) rfl ?_
      refine En_top (by decide : ((Int8.ofInt (-2)).toInt32).toInt = -2) (fun z80 h81 => ?_)
      exact En_ret (v := some (.int z80)) rfl rfl rfl ⟨hσ0, hF0, z80, rfl, ⟨by omega, by omega, (by have q0 : ¬ trC Wv a.toInt b.toInt c.toInt := (by omega); rw [trW_n q0]; exact ⟨trR_n q0 (by omega), hK, OUT_0⟩)⟩⟩
/-- DoorSchool.unteach()I -/
abbrev P_181x (σ0 : SG) (Wv : Int → Int) (p : Nat) (sg : Int32) : PO := fun v σ => WT σ ∧ Fr [(18, 14), (20, 2)] σ0 σ ∧ ∃ ret : Int32, v = some (.int ret) ∧ -ret.toInt - 5 ≤ 0 ∧ ret.toInt - 3 ≤ 0 ∧ (ret.toInt = utR Wv ∧ KN σ p (utW Wv) (act (utW Wv)) ∧ OUT σ0 σ p)
set_option maxRecDepth 10000 in
set_option maxHeartbeats 4000000 in
theorem c_181x {Wv : Int → Int} (σ0 : SG) (hσ0 : WT σ0) (p : Nat) (hp : TG p = 18) (h_p : (σ0 0)[9]? = some (.ref p)) (sg : Int32) (h_sg : (σ0 p)[1]? = some (.int sg)) (hp0 : -sg.toInt ≤ 0) (hP : PLA p) (hX : FXP σ0 p) (hK : KN σ0 p Wv (act Wv)) (hI : WINV Wv) (hT : TGT Wv) : En 2 42 none mr_181 (P_181x σ0 Wv p sg) 0 [(0, .ref 0)] [] σ0 := by
  obtain ⟨hl_sg, hu_sg⟩ := WT_int hσ0 (g := 18) hp (by decide +kernel) (l := (-1)) (u := 4) (by decide +kernel) h_sg
  have hF0 : Fr [(18, 14), (20, 2)] σ0 σ0 := Fr_rfl
  have t1 : Wv (0) = sg.toInt := KN_v hK (Or.inl (by decide)) (by omega) (by omega) (by rw [lcO_lt (by decide) (by decide), Nat.add_zero]) rfl h_sg
  refine En_Ps 1 (pc' := 1) (lv' := [(0, .ref 0)]) (st' := [.ref 0]) rfl ?_
  refine En_getK (j := 9) h_p rfl rfl rfl (by decide +kernel : TG 0 = 0) (by decide +kernel) ?_
  obtain ⟨z3, h2, h4, h5⟩ := WT_peekI hσ0 hp (by decide +kernel : FT 18 0 = (0, 0, 1601)) (by decide +kernel)
  have t6 : Wv (7) = z3.toInt := KN_v hK (Or.inl (by decide)) (by omega) (by omega) (by rw [lcO_lt (by decide) (by decide), Nat.add_zero]) rfl h2
  refine En_callV rfl rfl rfl rfl rfl rfl rfl rfl hp (by decide +kernel) rfl (c_43x σ0 hσ0 p hp z3 h2) (by decide) (by decide) (fun v8 σ9 h7 => ?_)
  obtain ⟨h10, h11, z13, rfl, h12⟩ := h7
  obtain rfl : σ0 = σ9 := Fr_nil h11
  have h14 := Imp_m h12.2.2.1
  have h15 := Imp_m h12.2.2.2
  refine En_iNe _ rfl rfl (fun h16 => ?_) (fun h16 => ?_)
  · have h17 := Imp_m h12.2.2.1 (by omega)
    have h18 := Imp_m h12.2.2.2 (by omega)
    refine En_Ps 1 (pc' := 14) (lv' := [(0, .ref 0)]) (st' := [.ref 0]) rfl ?_
    refine En_getK (j := 9) h_p rfl rfl rfl (by decide +kernel : TG 0 = 0) (by decide +kernel) ?_
    refine En_getI (j := 14) (l := 0) (u := 60) rfl rfl rfl hp (by decide +kernel) hσ0 (by decide +kernel) (fun z20 h19 h21 h22 => ?_)
    have t23 : Wv (6) = z20.toInt := KN_v hK (Or.inl (by decide)) (by omega) (by omega) (by rw [lcO_lt (by decide) (by decide), Nat.add_zero]) rfl h19
    refine En_iGt _ rfl rfl (fun h24 => ?_) (fun h24 => ?_)
    · obtain ⟨z26, h25, h27, h28⟩ := WT_peekI hσ0 hp (by decide +kernel : FT 18 3 = (0, 0, 4)) (by decide +kernel)
      have t29 : Wv (2) = z26.toInt := KN_v hK (Or.inl (by decide)) (by omega) (by omega) (by rw [lcO_lt (by decide) (by decide), Nat.add_zero]) rfl h25
      obtain ⟨a31, h30, ha31⟩ := WT_peekR (g := 18) (j := 15) (g' := 27) (u := 0) hσ0 hp (by decide +kernel) (by decide +kernel)
      have t32 : a31 = p + 9 := ref_uniq h30 (FXP_fr hP hX hF0 (by decide +kernel)).2.2.2.2.2.2.1
      obtain ⟨a34, h33, ha34⟩ := WT_peekR (g := 18) (j := 4) (g' := 19) (u := 0) hσ0 hp (by decide +kernel) (by decide +kernel)
      have t35 : a34 = p + 1 := ref_uniq h33 (FXP_fr hP hX hF0 (by decide +kernel)).1
      refine En_Ps 1 (pc' := 27) (lv' := [(0, .ref 0)]) (st' := [.ref 0]) rfl ?_
      refine En_getK (j := 9) h_p rfl rfl rfl (by decide +kernel : TG 0 = 0) (by decide +kernel) ?_
      refine En_Ps 1 (pc' := 31) (lv' := [(0, .ref 0)]) (st' := [.ref p, .ref p]) rfl ?_
      refine En_getK (j := 14) h19 rfl rfl rfl hp (by decide +kernel) ?_
      refine En_Ps 2 (pc' := 36) (lv' := [(0, .ref 0)]) (st' := [.int ((z20 - ((Int32.ofInt 1)))), .ref p]) rfl ?_
      refine En_top (subI rfl (by decide : (Int32.ofInt 1).toInt = 1) (by omega) (by omega)) (fun z36 h37 => ?_)
      refine En_put (j := 14) rfl rfl rfl hp (by decide +kernel) rfl (vI (l := 0) (u := 60) (by decide +kernel) rfl (by omega) (by omega)) hσ0 hF0 (by decide +kernel) (fun σ38 h39 h40 h41 h42 => ?_)
      refine En_Ps 1 (pc' := 40) (lv' := [(0, .ref 0)]) (st' := [.ref 0]) rfl ?_
      refine En_getK (j := 9) ((h42 _ _ (Or.inr (by decide))).trans h_p) rfl rfl rfl (by decide +kernel : TG 0 = 0) (by decide +kernel) ?_
      refine En_getK (j := 15) ((h42 _ _ (Or.inr (by decide))).trans h30) rfl rfl rfl hp (by decide +kernel) ?_
      refine En_Ps 1 (pc' := 47) (lv' := [(0, .ref 0)]) (st' := [.ref 0, .ref a31]) rfl ?_
      refine En_getK (j := 9) ((h42 _ _ (Or.inr (by decide))).trans h_p) rfl rfl rfl (by decide +kernel : TG 0 = 0) (by decide +kernel) ?_
      refine En_getK (j := 14) h41 rfl rfl rfl hp (by decide +kernel) ?_
      refine En_iald (l := 0) (u := 3) rfl rfl ha31 (by decide +kernel) h39 (by omega) (lnI (by decide +kernel : LN _ = 60) (by omega)) (FTsgl (by decide +kernel)) (fun z44 h43 h45 h46 => ?_)
      have t47 := lc_t (m := z36.toInt) (by omega) (by omega)
      have h52 := lc_t (m := z20.toInt - 1) (by omega) (by omega)
      have h48 : Wv (166 + (z20.toInt - 1)) = z44.toInt := KN_v hK (Or.inr (Or.inr (Or.inr (Or.inr (Or.inr (Or.inr ⟨by omega, by omega⟩)))))) (by omega) (by omega) (by omega) (by omega) ((h42 _ _ (Or.inl (by omega))).symm.trans h43)
      have h49 : utD Wv = z44.toInt := by unfold utD; rw [t23]; exact h48
      have h50 := hT (z20.toInt - 1) (by omega) (by omega)
      rw [h48] at h50
      have h51 := WINV_ge hI (d := z44.toInt) (nt := z20.toInt) (by omega) (by omega) h48.symm (by omega) (by omega)
      refine En_Ps 2 (pc' := 56) (lv' := [(1, .int z44), (0, .ref 0)]) (st' := [.ref 0]) rfl ?_
      refine En_getK (j := 9) ((h42 _ _ (Or.inr (by decide))).trans h_p) rfl rfl rfl (by decide +kernel : TG 0 = 0) (by decide +kernel) ?_
      refine En_getK (j := 4) ((h42 _ _ (Or.inr (by decide))).trans h33) rfl rfl rfl hp (by decide +kernel) ?_
      refine En_Ps 1 (pc' := 63) (lv' := [(1, .int z44), (0, .ref 0)]) (st' := [.int z44, .ref a34]) rfl ?_
      refine En_aald (g' := 28) (u := 0) rfl rfl ha34 (by decide +kernel) h39 (by omega) (lnI (by decide +kernel : LN _ = 4) (by omega)) (FTsgl (by decide +kernel)) (fun a54 h53 ha54 => ?_)
      have t55 : a54 = p + 10 + 4 * (z44.toInt).toNat := DRe (d := z44.toInt) (FXP_fr hP hX h40 (by decide +kernel)) t35 h53 (by omega) (by omega)
      have t56 := lc_d (d := z44.toInt) (by omega) (by omega)
      refine En_getR (j := 0) (g' := 20) (u := 0) rfl rfl rfl ha54 (by decide +kernel) h39 (by decide +kernel) (fun a58 h57 ha58 => ?_)
      have t59 : a58 = p + 11 + 4 * (z44.toInt).toNat := DLc (d := z44.toInt) (FXP_fr hP hX h40 (by decide +kernel)) t55 h57 (by omega) (by omega)
      obtain ⟨a61, h60, ha61⟩ := WT_peekR (g := 20) (j := 0) (g' := 21) (u := 0) h39 ha58 (by decide +kernel) (by decide +kernel)
      have t62 : a61 = p + 12 + 4 * (z44.toInt).toNat := DKk (d := z44.toInt) (FXP_fr hP hX h40 (by decide +kernel)) t59 h60 (by omega) (by omega)
      obtain ⟨a64, h63, ha64⟩ := WT_peekR (g := 20) (j := 1) (g' := 22) (u := 0) h39 ha58 (by decide +kernel) (by decide +kernel)
      have t65 : a64 = p + 13 + 4 * (z44.toInt).toNat := DKo (d := z44.toInt) (FXP_fr hP hX h40 (by decide +kernel)) t59 h63 (by omega) (by omega)
      obtain ⟨z67, h66, h68, h69⟩ := WT_peekI h39 ha58 (by decide +kernel : FT 20 2 = (0, 0, 13)) (by decide +kernel)
      have h71 := ((h42 _ _ (Or.inl (by omega))).symm.trans h66)
      have h70 : Wv (12 + 4 * (z44.toInt)) = z67.toInt := KN_v hK (Or.inr (Or.inl ⟨by omega, by omega, by omega⟩)) (by omega) (by omega) (by omega) (by omega) h71
      have : 1 ≤ z67.toInt := by omega
      refine En_callV rfl rfl rfl rfl rfl rfl rfl rfl ha58 (by decide +kernel) rfl (c_33x σ38 h39 a58 ha58 a61 ha61 h60 a64 ha64 h63 z67 h66 (by omega)) (by decide) (by decide) (fun v73 σ74 h72 => ?_)
      obtain ⟨h75, h76, z78, h79, rfl, h77⟩ := h72
      have h80 := h77.2.2.2.2.2.2
      have h81 := Fr_trans h40 h76 (by decide +kernel)
      refine En_Ps 1 (pc' := 71) (lv' := [(1, .int z44), (0, .ref 0)]) (st' := [.int z44]) rfl ?_
      exact En_ret (v := some (.int z44)) rfl rfl rfl ⟨h75, h81, z44, rfl, ⟨by omega, by omega, (by have q0 := KN_unteach hK (PLA_B hP) h70 t23 h49 h41 h42 h80 t59 (by omega) (by omega) (by omega); exact ⟨by unfold utR; rw [if_neg (by omega), if_neg (by omega), h49], by unfold utW; rw [if_neg (by omega), if_neg (by omega)]; exact q0.1, q0.2⟩)⟩⟩
    · refine En_Ps 1 (pc' := 25) (lv' := [(0, .ref 0)]) (st' := [.int (((Int8.ofInt (-5)).toInt32))]) rfl ?_
      refine En_top (by decide : ((Int8.ofInt (-5)).toInt32).toInt = -5) (fun z82 h83 => ?_)
      exact En_ret (v := some (.int z82)) rfl rfl rfl ⟨hσ0, hF0, z82, rfl, ⟨by omega, by omega, ⟨by unfold utR; rw [if_neg (by omega), if_pos (by omega)]; omega, by unfold utW; rw [if_neg (by omega), if_pos (by omega)]; exact hK, OUT_0⟩⟩⟩
  · refine En_Ps 1 (pc' := 12) (lv' := [(0, .ref 0)]) (st' := [.int (((Int8.ofInt (-2)).toInt32))]) rfl ?_
    refine En_top (by decide : ((Int8.ofInt (-2)).toInt32).toInt = -2) (fun z84 h85 => ?_)
    exact En_ret (v := some (.int z84)) rfl rfl rfl ⟨hσ0, hF0, z84, rfl, ⟨by omega, by omega, ⟨by unfold utR; rw [if_pos (by omega)]; omega, by unfold utW; rw [if_pos (by omega)]; exact hK, OUT_0⟩⟩⟩
/-- DoorSchool.why(II)I -/
abbrev P_183x (σ0 : SG) (Wv : Int → Int) (a : Int32) (b : Int32) (p : Nat) (sg : Int32) : PO := fun v σ => WT σ ∧ Fr [] σ0 σ ∧ ∃ ret : Int32, v = some (.int ret) ∧ -ret.toInt - 2 ≤ 0 ∧ ret.toInt - 12 ≤ 0 ∧ ret.toInt = whR Wv a.toInt b.toInt
set_option maxRecDepth 10000 in
set_option maxHeartbeats 4000000 in
theorem c_183x {Wv : Int → Int} (σ0 : SG) (hσ0 : WT σ0) (a : Int32) (b : Int32) (p : Nat) (hp : TG p = 18) (h_p : (σ0 0)[9]? = some (.ref p)) (sg : Int32) (h_sg : (σ0 p)[1]? = some (.int sg)) (hp0 : -sg.toInt ≤ 0) (hP : PLA p) (hX : FXP σ0 p) (hK : KN σ0 p Wv (act Wv)) (hB : WFw Wv) (hT : TWN Wv) (hQ : 0 < Wv 7 → RULx σ0 (Wv 0)) (hq : QX Wv) : En 2 45 none mr_183 (P_183x σ0 Wv a b p sg) 0 [(0, .ref 0), (1, .int a), (2, .int b)] [] σ0 := by
  obtain ⟨hl_sg, hu_sg⟩ := WT_int hσ0 (g := 18) hp (by decide +kernel) (l := (-1)) (u := 4) (by decide +kernel) h_sg
  have hF0 : Fr [] σ0 σ0 := Fr_rfl
  have t1 : Wv (0) = sg.toInt := KN_v hK (Or.inl (by decide)) (by omega) (by omega) (by rw [lcO_lt (by decide) (by decide), Nat.add_zero]) rfl h_sg
  obtain ⟨z3, h2, h4, h5⟩ := WT_peekI hσ0 hp (by decide +kernel : FT 18 3 = (0, 0, 4)) (by decide +kernel)
  have t6 : Wv (2) = z3.toInt := KN_v hK (Or.inl (by decide)) (by omega) (by omega) (by rw [lcO_lt (by decide) (by decide), Nat.add_zero]) rfl h2
  have h7 := hB.2.2.1
  have h8 := hB.1
  have h9 := hB.2.1
  refine En_Ps 1 (pc' := 1) (lv' := [(0, .ref 0), (1, .int a), (2, .int b)]) (st' := [.ref 0]) rfl ?_
  refine En_getK (j := 9) h_p rfl rfl rfl (by decide +kernel : TG 0 = 0) (by decide +kernel) ?_
  refine En_Ps 1 (pc' := 5) (lv' := [(0, .ref 0), (1, .int a), (2, .int b)]) (st' := [.int a, .ref p]) rfl ?_
  refine En_callV rfl rfl rfl rfl rfl rfl rfl rfl hp (by decide +kernel) rfl (c_47x σ0 hσ0 p hp a z3 h2) (by decide) (by decide) (fun v11 σ12 h10 => ?_)
  obtain ⟨h13, h14, z16, rfl, h15⟩ := h10
  obtain rfl : σ0 = σ12 := Fr_nil h14
  have h17 := Imp_m h15.2.2.1
  have h18 := Imp_m h15.2.2.2.1
  have h19 := Imp_m h15.2.2.2.2.1
  have h20 := Imp_m h15.2.2.2.2.2
  refine En_iEq _ rfl rfl (fun h21 => ?_) (fun h21 => ?_)
  · have h22 := Imp_m h15.2.2.2.2.1 (by omega)
    refine En_Ps 1 (pc' := 24) (lv' := [(0, .ref 0), (1, .int a), (2, .int b)]) (st' := [.int (((Int8.ofInt (-2)).toInt32))]) rfl ?_
    refine En_top (by decide : ((Int8.ofInt (-2)).toInt32).toInt = -2) (fun z23 h24 => ?_)
    exact En_ret (v := some (.int z23)) rfl rfl rfl ⟨hσ0, hF0, z23, rfl, ⟨by omega, by omega, whR_n (fun ⟨q1, q2, q3, q4, q5⟩ => by omega) (by omega)⟩⟩
  · have h25 := Imp_m h15.2.2.1 (by omega)
    have h26 := Imp_m h15.2.2.2.1 (by omega)
    have h27 := Imp_m h15.2.2.2.2.2 (by omega)
    refine En_Ps 1 (pc' := 12) (lv' := [(0, .ref 0), (1, .int a), (2, .int b)]) (st' := [.ref 0]) rfl ?_
    refine En_getK (j := 9) h_p rfl rfl rfl (by decide +kernel : TG 0 = 0) (by decide +kernel) ?_
    refine En_Ps 1 (pc' := 16) (lv' := [(0, .ref 0), (1, .int a), (2, .int b)]) (st' := [.int b, .ref p]) rfl ?_
    obtain ⟨z29, h28, h30, h31⟩ := WT_peekI hσ0 hp (by decide +kernel : FT 18 0 = (0, 0, 1601)) (by decide +kernel)
    have t32 : Wv (7) = z29.toInt := KN_v hK (Or.inl (by decide)) (by omega) (by omega) (by rw [lcO_lt (by decide) (by decide), Nat.add_zero]) rfl h28
    refine En_callV rfl rfl rfl rfl rfl rfl rfl rfl hp (by decide +kernel) rfl (c_49x σ0 hσ0 p hp b z29 h28 sg h_sg (by omega)) (by decide) (by decide) (fun v34 σ35 h33 => ?_)
    obtain ⟨h36, h37, z39, rfl, h38⟩ := h33
    have h40 := h38.2.2.2
    obtain rfl : σ0 = σ35 := Fr_nil h37
    have h41 := h40
    have h42 : pI (Wv 0) = pI (sg.toInt) := by rw [t1]
    refine En_iNe _ rfl rfl (fun h43 => ?_) (fun h43 => ?_)
    · have h44 := Imp_m h38.2.2.1 (by omega)
      have h45 := pI_rng (s := Wv 0) (by omega) (by omega)
      have h46 : 0 ≤ b.toInt ∧ b.toInt ≤ 15 := by omega
      refine En_Ps 1 (pc' := 26) (lv' := [(0, .ref 0), (1, .int a), (2, .int b)]) (st' := [.ref 0]) rfl ?_
      refine En_getK (j := 9) h_p rfl rfl rfl (by decide +kernel : TG 0 = 0) (by decide +kernel) ?_
      refine En_Ps 1 (pc' := 30) (lv' := [(0, .ref 0), (1, .int a), (2, .int b)]) (st' := [.int a, .ref p]) rfl ?_
      refine En_callV rfl rfl rfl rfl rfl rfl rfl rfl hp (by decide +kernel) rfl (c_52x σ0 hσ0 p hp a (geI rfl (by omega)) (leI rfl (by omega)) hP (FXP_fr hP hX hF0 (by decide +kernel)) hK (by omega)) (by decide) (by decide) (fun v48 σ49 h47 => ?_)
      obtain ⟨h50, h51, a53, ha53, rfl, h52⟩ := h47
      have h54 := h52
      obtain rfl : σ0 = σ49 := Fr_nil h51
      have h55 := rlW_rg hT (by omega) (by omega) (by omega) h54.2
      have t56 := lc_d (d := rlW Wv a.toInt) (by omega) (by omega)
      have h57 := hB.2.2.2.2.2.2 (rlW Wv a.toInt) (by omega) (by omega)
      refine En_Ps 2 (pc' := 35) (lv' := [(3, .ref a53), (0, .ref 0), (1, .int a), (2, .int b)]) (st' := [.ref a53]) rfl ?_
      refine En_getI (j := 1) (l := 0) (u := 2) rfl rfl rfl ha53 (by decide +kernel) hσ0 (by decide +kernel) (fun z59 h58 h60 h61 => ?_)
      have t62 : Wv (10 + 4 * (rlW Wv a.toInt)) = z59.toInt := KN_v hK (Or.inr (Or.inl ⟨by omega, by omega, by omega⟩)) (by omega) (by omega) (by omega) (by omega) h58
      rcases (show z59.toInt = 0 ∨ z59.toInt = 2 ∨ z59.toInt = 1 by omega) with h63 | h63 | h63
      · refine En_lsw (t := 64) (n := 0) rfl h63 rfl (by decide +kernel) ?_
        refine En_Ps 1 (pc' := 65) (lv' := [(3, .ref a53), (0, .ref 0), (1, .int a), (2, .int b)]) (st' := [.ref a53]) rfl ?_
        refine En_getR (j := 0) (g' := 20) (u := 0) rfl rfl rfl ha53 (by decide +kernel) hσ0 (by decide +kernel) (fun a65 h64 ha65 => ?_)
        have t66 : a65 = p + 11 + 4 * (rlW Wv a.toInt).toNat := DLc (d := rlW Wv a.toInt) (FXP_fr hP hX hF0 (by decide +kernel)) h54.1 h64 (by omega) (by omega)
        refine En_Ps 1 (pc' := 69) (lv' := [(3, .ref a53), (0, .ref 0), (1, .int a), (2, .int b)]) (st' := [.int b, .ref a65]) rfl ?_
        obtain ⟨a68, h67, ha68⟩ := WT_peekR (g := 20) (j := 0) (g' := 21) (u := 0) hσ0 ha65 (by decide +kernel) (by decide +kernel)
        have t69 : a68 = p + 12 + 4 * (rlW Wv a.toInt).toNat := DKk (d := rlW Wv a.toInt) (FXP_fr hP hX hF0 (by decide +kernel)) t66 h67 (by omega) (by omega)
        obtain ⟨a71, h70, ha71⟩ := WT_peekR (g := 20) (j := 1) (g' := 22) (u := 0) hσ0 ha65 (by decide +kernel) (by decide +kernel)
        have t72 : a71 = p + 13 + 4 * (rlW Wv a.toInt).toNat := DKo (d := rlW Wv a.toInt) (FXP_fr hP hX hF0 (by decide +kernel)) t66 h70 (by omega) (by omega)
        obtain ⟨z74, h73, h75, h76⟩ := WT_peekI hσ0 ha65 (by decide +kernel : FT 20 2 = (0, 0, 13)) (by decide +kernel)
        have t77 : Wv (12 + 4 * (rlW Wv a.toInt)) = z74.toInt := KN_v hK (Or.inr (Or.inl ⟨by omega, by omega, by omega⟩)) (by omega) (by omega) (by omega) (by omega) h73
        refine En_callV rfl rfl rfl rfl rfl rfl rfl rfl ha65 (by decide +kernel) rfl (c_36x σ0 hσ0 a65 ha65 b a68 ha68 h67 a71 ha71 h70 z74 h73) (by decide) (by decide) (fun v79 σ80 h78 => ?_)
        obtain ⟨h81, h82, z84, rfl, h83⟩ := h78
        have h85 := h83.2.2
        obtain rfl : σ0 = σ80 := Fr_nil h82
        exact En_ret (v := some (.int z84)) rfl rfl rfl ⟨hσ0, hF0, z84, rfl, ⟨by omega, by omega, whR_y ⟨by omega, by omega, by omega, by omega, by omega⟩ rfl t62 t77 (KN_lk hK (by omega) (by omega) (by omega) t77.symm (by omega) t69) (whL_0 (by omega) h85)⟩⟩
      · refine En_lsw (t := 73) (n := 2) rfl h63 rfl (by decide +kernel) ?_
        refine En_Ps 1 (pc' := 74) (lv' := [(3, .ref a53), (0, .ref 0), (1, .int a), (2, .int b)]) (st' := [.ref a53]) rfl ?_
        refine En_getR (j := 0) (g' := 20) (u := 0) rfl rfl rfl ha53 (by decide +kernel) hσ0 (by decide +kernel) (fun a87 h86 ha87 => ?_)
        have t88 : a87 = p + 11 + 4 * (rlW Wv a.toInt).toNat := DLc (d := rlW Wv a.toInt) (FXP_fr hP hX hF0 (by decide +kernel)) h54.1 h86 (by omega) (by omega)
        refine En_Ps 1 (pc' := 78) (lv' := [(3, .ref a53), (0, .ref 0), (1, .int a), (2, .int b)]) (st' := [.int b, .ref a87]) rfl ?_
        obtain ⟨a90, h89, ha90⟩ := WT_peekR (g := 20) (j := 0) (g' := 21) (u := 0) hσ0 ha87 (by decide +kernel) (by decide +kernel)
        have t91 : a90 = p + 12 + 4 * (rlW Wv a.toInt).toNat := DKk (d := rlW Wv a.toInt) (FXP_fr hP hX hF0 (by decide +kernel)) t88 h89 (by omega) (by omega)
        obtain ⟨a93, h92, ha93⟩ := WT_peekR (g := 20) (j := 1) (g' := 22) (u := 0) hσ0 ha87 (by decide +kernel) (by decide +kernel)
        have t94 : a93 = p + 13 + 4 * (rlW Wv a.toInt).toNat := DKo (d := rlW Wv a.toInt) (FXP_fr hP hX hF0 (by decide +kernel)) t88 h92 (by omega) (by omega)
        obtain ⟨z96, h95, h97, h98⟩ := WT_peekI hσ0 ha87 (by decide +kernel : FT 20 2 = (0, 0, 13)) (by decide +kernel)
        have t99 : Wv (12 + 4 * (rlW Wv a.toInt)) = z96.toInt := KN_v hK (Or.inr (Or.inl ⟨by omega, by omega, by omega⟩)) (by omega) (by omega) (by omega) (by omega) h95
        refine En_callV rfl rfl rfl rfl rfl rfl rfl rfl ha87 (by decide +kernel) rfl (c_37x σ0 hσ0 a87 ha87 b (geI rfl (by omega)) (leI rfl (by omega)) a90 ha90 h89 a93 ha93 h92 z96 h95) (by decide) (by decide) (fun v101 σ102 h100 => ?_)
        obtain ⟨h103, h104, z106, rfl, h105⟩ := h100
        have h107 := h105.2.2
        obtain rfl : σ0 = σ102 := Fr_nil h104
        exact En_ret (v := some (.int z106)) rfl rfl rfl ⟨hσ0, hF0, z106, rfl, ⟨by omega, by omega, whR_y ⟨by omega, by omega, by omega, by omega, by omega⟩ rfl t62 t99 (KN_lk hK (by omega) (by omega) (by omega) t99.symm (by omega) t91) (whL_2 (by omega) h107)⟩⟩
      · refine En_lsw (t := 82) (n := 1) rfl h63 rfl (by decide +kernel) ?_
        refine En_Ps 1 (pc' := 83) (lv' := [(3, .ref a53), (0, .ref 0), (1, .int a), (2, .int b)]) (st' := [.int ((Int32.ofInt (-1)))]) rfl ?_
        refine En_top (by decide : (Int32.ofInt (-1)).toInt = -1) (fun z108 h109 => ?_)
        exact En_ret (v := some (.int z108)) rfl rfl rfl ⟨hσ0, hF0, z108, rfl, ⟨by omega, by omega, whR_y (n := Wv (12 + 4 * (rlW Wv a.toInt))) (k := lkW Wv (rlW Wv a.toInt)) ⟨by omega, by omega, by omega, by omega, by omega⟩ rfl t62 rfl (fun i _ _ => rfl) (whL_1 (by omega) (by omega))⟩⟩
    · refine En_Ps 1 (pc' := 24) (lv' := [(0, .ref 0), (1, .int a), (2, .int b)]) (st' := [.int (((Int8.ofInt (-2)).toInt32))]) rfl ?_
      refine En_top (by decide : ((Int8.ofInt (-2)).toInt32).toInt = -2) (fun z110 h111 => ?_)
      exact En_ret (v := some (.int z110)) rfl rfl rfl ⟨hσ0, hF0, z110, rfl, ⟨by omega, by omega, whR_n (fun ⟨q1, q2, q3, q4, q5⟩ => by omega) (by omega)⟩⟩

