/-- DoorSchool$Lessons.putIn(III)V -/
abbrev P_38bx (σ0 : SG) (s : Nat) (a : Int32) (b : Int32) (c : Int32) (kn : Nat) (op : Nat) (sz : Int32) : PO := fun v σ => WT σ ∧ Fr [(20, 2), (21, 0), (22, 0)] σ0 σ ∧ ∃ sz1 : Int32, (σ s)[2]? = some (.int sz1) ∧ v = none ∧ -sz1.toInt + 1 ≤ 0 ∧ sz1.toInt - 13 ≤ 0 ∧ -sz1.toInt + sz.toInt + 1 ≤ 0 ∧ sz1.toInt - sz.toInt - 1 ≤ 0 ∧ PTp σ0 σ s kn op a.toInt sz.toInt b.toInt c.toInt
set_option maxRecDepth 10000 in
set_option maxHeartbeats 4000000 in
theorem c_38bx (σ0 : SG) (hσ0 : WT σ0) (s : Nat) (hs : TG s = 20) (a : Int32) (b : Int32) (c : Int32) (hl_a : 0 ≤ a.toInt) (hu_a : a.toInt ≤ 12) (hl_b : 0 ≤ b.toInt) (hu_b : b.toInt ≤ 15) (hl_c : 0 ≤ c.toInt) (hu_c : c.toInt ≤ 1) (kn : Nat) (hkn : TG kn = 21) (h_kn : (σ0 s)[0]? = some (.ref kn)) (op : Nat) (hop : TG op = 22) (h_op : (σ0 s)[1]? = some (.ref op)) (sz : Int32) (h_sz : (σ0 s)[2]? = some (.int sz)) (hp0 : a.toInt - sz.toInt ≤ 0) (hp1 : sz.toInt - 12 ≤ 0) : En 0 0 none mr_38 (P_38bx σ0 s a b c kn op sz) 0 [(0, .ref s), (1, .int a), (2, .int b), (3, .int c)] [] σ0 := by
  obtain ⟨hl_sz, hu_sz⟩ := WT_int hσ0 (g := 20) hs (by decide +kernel) (l := 0) (u := 13) (by decide +kernel) h_sz
  have hF0 : Fr [(20, 2), (21, 0), (22, 0)] σ0 σ0 := Fr_rfl
  refine En_Ps 1 (pc' := 1) (lv' := [(0, .ref s), (1, .int a), (2, .int b), (3, .int c)]) (st' := [.int a]) rfl ?_
  refine En_iLt _ rfl rfl (fun hx => by exfalso; omega) (fun h1 => ?_)
  refine En_Ps 2 (pc' := 6) (lv' := [(0, .ref s), (1, .int a), (2, .int b), (3, .int c)]) (st' := [.ref s, .int a]) rfl ?_
  refine En_getK (j := 2) h_sz rfl rfl rfl hs (by decide +kernel) ?_
  refine En_icGt _ rfl rfl rfl (fun hx => by exfalso; omega) (fun h2 => ?_)
  refine En_Ps 1 (pc' := 13) (lv' := [(0, .ref s), (1, .int a), (2, .int b), (3, .int c)]) (st' := [.ref s]) rfl ?_
  refine En_getK (j := 2) h_sz rfl rfl rfl hs (by decide +kernel) ?_
  refine En_Ps 1 (pc' := 18) (lv' := [(0, .ref s), (1, .int a), (2, .int b), (3, .int c)]) (st' := [.int (((Int8.ofInt 13).toInt32)), .int sz]) rfl ?_
  refine En_icLt _ rfl (by decide : ((Int8.ofInt 13).toInt32).toInt = 13) rfl (fun h3 => ?_) (fun hx => by exfalso; omega)
  refine En_Ps 1 (pc' := 23) (lv' := [(0, .ref s), (1, .int a), (2, .int b), (3, .int c)]) (st' := [.ref s]) rfl ?_
  refine En_getK (j := 2) h_sz rfl rfl rfl hs (by decide +kernel) ?_
  refine En_Ps 1 (pc' := 28) (lv' := [(4, .int sz), (0, .ref s), (1, .int a), (2, .int b), (3, .int c)]) (st' := []) rfl ?_
  have key28 : ∀ (n28 : Nat) (σ5 : SG) (y4 : Int32), WT σ5 → Fr [(20, 2), (21, 0), (22, 0)] σ0 σ5 → (σ5 s)[0]? = some (.ref kn) → (σ5 s)[1]? = some (.ref op) → (σ5 s)[2]? = some (.int sz) → 0 ≤ y4.toInt → y4.toInt ≤ 12 → a.toInt - y4.toInt ≤ 0 → y4.toInt - sz.toInt ≤ 0 → y4.toInt - a.toInt < (n28 : Int) → PTI σ0 σ5 kn op sz.toInt y4.toInt → En 0 0 none mr_38 (P_38bx σ0 s a b c kn op sz) 28 [(0, .ref s), (1, .int a), (2, .int b), (3, .int c), (4, .int y4)] [] σ5 := by
    intro n28
    induction n28 with
    | zero =>
      intro σ5 y4 h6 h7 h8 h9 h10 h11 h12 h13 h14 h15 h16
      exfalso; omega
    | succ n28 ih28 =>
      intro σ5 y4 h6 h7 h8 h9 h10 h11 h12 h13 h14 h15 h16
      refine En_Ps 2 (pc' := 31) (lv' := [(0, .ref s), (1, .int a), (2, .int b), (3, .int c), (4, .int y4)]) (st' := [.int a, .int y4]) rfl ?_
      refine En_icLe _ rfl rfl rfl (fun h17 => ?_) (fun h17 => ?_)
      · refine En_Ps 1 (pc' := 73) (lv' := [(0, .ref s), (1, .int a), (2, .int b), (3, .int c), (4, .int y4)]) (st' := [.ref s]) rfl ?_
        refine En_getK (j := 0) h8 rfl rfl rfl hs (by decide +kernel) ?_
        refine En_Ps 2 (pc' := 78) (lv' := [(0, .ref s), (1, .int a), (2, .int b), (3, .int c), (4, .int y4)]) (st' := [.int b, .int a, .ref kn]) rfl ?_
        refine En_iast (l := 0) (u := 15) rfl rfl hkn (by decide +kernel) (by omega) (lnI (by decide +kernel : LN _ = 13) (by omega)) (FTsgl (by decide +kernel)) (rngI rfl (by omega) (by omega)) h6 h7 (by decide +kernel) (fun σ18 h19 h20 h21 h22 => ?_)
        refine En_Ps 1 (pc' := 80) (lv' := [(0, .ref s), (1, .int a), (2, .int b), (3, .int c), (4, .int y4)]) (st' := [.ref s]) rfl ?_
        refine En_getK (j := 1) ((h22 _ _ (Or.inl (neTG hs hkn (by decide)))).trans h9) rfl rfl rfl hs (by decide +kernel) ?_
        refine En_Ps 2 (pc' := 85) (lv' := [(0, .ref s), (1, .int a), (2, .int b), (3, .int c), (4, .int y4)]) (st' := [.int c, .int a, .ref op]) rfl ?_
        refine En_iast (l := 0) (u := 1) rfl rfl hop (by decide +kernel) (by omega) (lnI (by decide +kernel : LN _ = 13) (by omega)) (FTsgl (by decide +kernel)) (rngI rfl (by omega) (by omega)) h19 h20 (by decide +kernel) (fun σ23 h24 h25 h26 h27 => ?_)
        refine En_Ps 2 (pc' := 88) (lv' := [(0, .ref s), (1, .int a), (2, .int b), (3, .int c), (4, .int y4)]) (st' := [.ref s, .ref s]) rfl ?_
        refine En_getK (j := 2) ((h27 _ _ (Or.inl (neTG hs hop (by decide)))).trans ((h22 _ _ (Or.inl (neTG hs hkn (by decide)))).trans h10)) rfl rfl rfl hs (by decide +kernel) ?_
        refine En_Ps 2 (pc' := 93) (lv' := [(0, .ref s), (1, .int a), (2, .int b), (3, .int c), (4, .int y4)]) (st' := [.int ((sz + ((Int32.ofInt 1)))), .ref s]) rfl ?_
        refine En_top (addI rfl (by decide : (Int32.ofInt 1).toInt = 1) (by omega) (by omega)) (fun z28 h29 => ?_)
        refine En_put (j := 2) rfl rfl rfl hs (by decide +kernel) rfl (vI (l := 0) (u := 13) (by decide +kernel) rfl (by omega) (by omega)) h24 h25 (by decide +kernel) (fun σ30 h31 h32 h33 h34 => ?_)
        exact En_ret (v := none) rfl rfl rfl ⟨h31, h32, z28, h33, rfl, ⟨by omega, by omega, by omega, by omega, PTI_x h16 (by omega) h21 h22 h26 h27 h33 h34 rfl (by omega) (neTG hkn hop (by decide)) (neTG hkn hs (by decide)) (neTG hop hs (by decide)) (by omega)⟩⟩
      · refine En_Ps 1 (pc' := 35) (lv' := [(0, .ref s), (1, .int a), (2, .int b), (3, .int c), (4, .int y4)]) (st' := [.ref s]) rfl ?_
        refine En_getK (j := 0) h8 rfl rfl rfl hs (by decide +kernel) ?_
        refine En_Ps 2 (pc' := 41) (lv' := [(0, .ref s), (1, .int a), (2, .int b), (3, .int c), (4, .int y4)]) (st' := [.ref s, .int y4, .ref kn]) rfl ?_
        refine En_getK (j := 0) h8 rfl rfl rfl hs (by decide +kernel) ?_
        refine En_Ps 3 (pc' := 48) (lv' := [(0, .ref s), (1, .int a), (2, .int b), (3, .int c), (4, .int y4)]) (st' := [.int ((y4 - ((Int32.ofInt 1)))), .ref kn, .int y4, .ref kn]) rfl ?_
        refine En_top (subI rfl (by decide : (Int32.ofInt 1).toInt = 1) (by omega) (by omega)) (fun z35 h36 => ?_)
        refine En_iald (l := 0) (u := 15) rfl rfl hkn (by decide +kernel) h6 (by omega) (lnI (by decide +kernel : LN _ = 13) (by omega)) (FTsgl (by decide +kernel)) (fun z38 h37 h39 h40 => ?_)
        refine En_iast (l := 0) (u := 15) rfl rfl hkn (by decide +kernel) (by omega) (lnI (by decide +kernel : LN _ = 13) (by omega)) (FTsgl (by decide +kernel)) (rngI rfl (by omega) (by omega)) h6 h7 (by decide +kernel) (fun σ41 h42 h43 h44 h45 => ?_)
        refine En_Ps 1 (pc' := 51) (lv' := [(0, .ref s), (1, .int a), (2, .int b), (3, .int c), (4, .int y4)]) (st' := [.ref s]) rfl ?_
        refine En_getK (j := 1) ((h45 _ _ (Or.inl (neTG hs hkn (by decide)))).trans h9) rfl rfl rfl hs (by decide +kernel) ?_
        refine En_Ps 2 (pc' := 57) (lv' := [(0, .ref s), (1, .int a), (2, .int b), (3, .int c), (4, .int y4)]) (st' := [.ref s, .int y4, .ref op]) rfl ?_
        refine En_getK (j := 1) ((h45 _ _ (Or.inl (neTG hs hkn (by decide)))).trans h9) rfl rfl rfl hs (by decide +kernel) ?_
        refine En_Ps 3 (pc' := 64) (lv' := [(0, .ref s), (1, .int a), (2, .int b), (3, .int c), (4, .int y4)]) (st' := [.int ((y4 - ((Int32.ofInt 1)))), .ref op, .int y4, .ref op]) rfl ?_
        refine En_top (subI rfl (by decide : (Int32.ofInt 1).toInt = 1) (by omega) (by omega)) (fun z46 h47 => ?_)
        refine En_iald (l := 0) (u := 1) rfl rfl hop (by decide +kernel) h42 (by omega) (lnI (by decide +kernel : LN _ = 13) (by omega)) (FTsgl (by decide +kernel)) (fun z49 h48 h50 h51 => ?_)
        refine En_iast (l := 0) (u := 1) rfl rfl hop (by decide +kernel) (by omega) (lnI (by decide +kernel : LN _ = 13) (by omega)) (FTsgl (by decide +kernel)) (rngI rfl (by omega) (by omega)) h42 h43 (by decide +kernel) (fun σ52 h53 h54 h55 h56 => ?_)
        refine En_Ps 1 (pc' := 69) (lv' := [(4, .int ((y4 + Int32.ofInt (-1)))), (0, .ref s), (1, .int a), (2, .int b), (3, .int c)]) (st' := []) rfl ?_
        refine En_lv1 (addI rfl (by decide : (Int32.ofInt (-1)).toInt = -1) (by omega) (by omega)) (fun z57 h58 => ?_)
        refine En_Ps 1 (pc' := 28) (lv' := [(4, .int z57), (0, .ref s), (1, .int a), (2, .int b), (3, .int c)]) (st' := []) rfl ?_
        refine En_lv (lv := [(0, .ref s), (1, .int a), (2, .int b), (3, .int c), (4, .int z57)]) ⟨rfl, rfl, rfl, rfl, rfl, trivial⟩ ?_
        exact ih28 σ52 z57 h53 h54 ((h56 _ _ (Or.inl (neTG hs hop (by decide)))).trans ((h45 _ _ (Or.inl (neTG hs hkn (by decide)))).trans h8)) ((h56 _ _ (Or.inl (neTG hs hop (by decide)))).trans ((h45 _ _ (Or.inl (neTG hs hkn (by decide)))).trans h9)) ((h56 _ _ (Or.inl (neTG hs hop (by decide)))).trans ((h45 _ _ (Or.inl (neTG hs hkn (by decide)))).trans h10)) (by omega) (by omega) (by omega) (by omega) (by omega) (PTI_s (J := y4.toInt) (J' := y4.toInt - 1) h16 (neTG hkn hop (by decide)) (by rw [show y4.toInt - 1 = z35.toInt by omega]; exact h37) h44 h45 (by rw [show y4.toInt - 1 = z46.toInt by omega]; exact h48) h55 h56 (by omega) (by omega) (by omega) (by omega) (by omega))
  refine En_lv (lv := [(0, .ref s), (1, .int a), (2, .int b), (3, .int c), (4, .int sz)]) ⟨rfl, rfl, rfl, rfl, rfl, trivial⟩ ?_
  exact key28 (Int.toNat (sz.toInt - a.toInt) + 1) σ0 sz hσ0 hF0 h_kn h_op h_sz (by omega) (by omega) (by omega) (by omega) (by omega) (PTI_0 rfl)
/-- DoorSchool$Lessons.add(II)V -/
abbrev P_31x (σ0 : SG) (s : Nat) (a : Int32) (b : Int32) (kn : Nat) (op : Nat) (sz : Int32) : PO := fun v σ => WT σ ∧ Fr [(20, 2), (21, 0), (22, 0)] σ0 σ ∧ ∃ sz1 : Int32, (σ s)[2]? = some (.int sz1) ∧ v = none ∧ -sz1.toInt + 1 ≤ 0 ∧ sz1.toInt - 13 ≤ 0 ∧ -sz1.toInt + sz.toInt + 1 ≤ 0 ∧ sz1.toInt - sz.toInt - 1 ≤ 0 ∧ ADDp σ0 σ s kn op sz.toInt a.toInt b.toInt
set_option maxRecDepth 10000 in
set_option maxHeartbeats 4000000 in
theorem c_31x (σ0 : SG) (hσ0 : WT σ0) (s : Nat) (hs : TG s = 20) (a : Int32) (b : Int32) (hl_a : 0 ≤ a.toInt) (hu_a : a.toInt ≤ 15) (hl_b : 0 ≤ b.toInt) (hu_b : b.toInt ≤ 1) (kn : Nat) (hkn : TG kn = 21) (h_kn : (σ0 s)[0]? = some (.ref kn)) (op : Nat) (hop : TG op = 22) (h_op : (σ0 s)[1]? = some (.ref op)) (sz : Int32) (h_sz : (σ0 s)[2]? = some (.int sz)) (hp0 : sz.toInt - 12 ≤ 0) : En 1 24 none mr_31 (P_31x σ0 s a b kn op sz) 0 [(0, .ref s), (1, .int a), (2, .int b)] [] σ0 := by
  obtain ⟨hl_sz, hu_sz⟩ := WT_int hσ0 (g := 20) hs (by decide +kernel) (l := 0) (u := 13) (by decide +kernel) h_sz
  have hF0 : Fr [(20, 2), (21, 0), (22, 0)] σ0 σ0 := Fr_rfl
  refine En_Ps 2 (pc' := 2) (lv' := [(0, .ref s), (1, .int a), (2, .int b)]) (st' := [.ref s, .ref s]) rfl ?_
  refine En_getK (j := 2) h_sz rfl rfl rfl hs (by decide +kernel) ?_
  refine En_Ps 2 (pc' := 7) (lv' := [(0, .ref s), (1, .int a), (2, .int b)]) (st' := [.int b, .int a, .int sz, .ref s]) rfl ?_
  refine En_callV rfl rfl rfl rfl rfl rfl rfl rfl hs (by decide +kernel) rfl (c_38ax σ0 hσ0 s hs sz a b (geI rfl (by omega)) (leI rfl (by omega)) (geI rfl (by omega)) (leI rfl (by omega)) (geI rfl (by omega)) (leI rfl (by omega)) kn hkn h_kn op hop h_op sz h_sz (by omega) (by omega) (by omega)) (by decide) (by decide) (fun v2 σ3 h1 => ?_)
  obtain ⟨h4, h5, z7, h8, rfl, h6⟩ := h1
  have h9 := h6.2.2.2.2
  have h10 := Fr_trans hF0 h5 (by decide +kernel)
  exact En_ret (v := none) rfl rfl rfl ⟨h4, h10, z7, h8, rfl, ⟨by omega, by omega, by omega, by omega, h9⟩⟩
/-- DoorSchool$Lessons.takeOut(I)V -/
abbrev P_41ax (σ0 : SG) (s : Nat) (a : Int32) (kn : Nat) (op : Nat) (sz : Int32) : PO := fun v σ => WT σ ∧ Fr [(20, 2)] σ0 σ ∧ ∃ sz1 : Int32, (σ s)[2]? = some (.int sz1) ∧ v = none ∧ -sz1.toInt ≤ 0 ∧ sz1.toInt - 12 ≤ 0 ∧ -sz1.toInt + sz.toInt - 1 ≤ 0 ∧ sz1.toInt - sz.toInt + 1 ≤ 0 ∧ sz1.toInt - sz.toInt + 1 ≤ 0 ∧ -sz1.toInt + sz.toInt - 1 ≤ 0 ∧ DRPp σ0 σ s sz.toInt
set_option maxRecDepth 10000 in
set_option maxHeartbeats 4000000 in
theorem c_41ax (σ0 : SG) (hσ0 : WT σ0) (s : Nat) (hs : TG s = 20) (a : Int32) (hl_a : 0 ≤ a.toInt) (hu_a : a.toInt ≤ 12) (kn : Nat) (hkn : TG kn = 21) (h_kn : (σ0 s)[0]? = some (.ref kn)) (op : Nat) (hop : TG op = 22) (h_op : (σ0 s)[1]? = some (.ref op)) (sz : Int32) (h_sz : (σ0 s)[2]? = some (.int sz)) (hp0 : a.toInt - sz.toInt + 1 ≤ 0) (hp1 : -a.toInt + sz.toInt - 1 ≤ 0) : En 0 0 none mr_41 (P_41ax σ0 s a kn op sz) 0 [(0, .ref s), (1, .int a)] [] σ0 := by
  obtain ⟨hl_sz, hu_sz⟩ := WT_int hσ0 (g := 20) hs (by decide +kernel) (l := 0) (u := 13) (by decide +kernel) h_sz
  have hF0 : Fr [(20, 2)] σ0 σ0 := Fr_rfl
  refine En_Ps 1 (pc' := 1) (lv' := [(0, .ref s), (1, .int a)]) (st' := [.int a]) rfl ?_
  refine En_iLt _ rfl rfl (fun hx => by exfalso; omega) (fun h1 => ?_)
  refine En_Ps 2 (pc' := 6) (lv' := [(0, .ref s), (1, .int a)]) (st' := [.ref s, .int a]) rfl ?_
  refine En_getK (j := 2) h_sz rfl rfl rfl hs (by decide +kernel) ?_
  refine En_icLt _ rfl rfl rfl (fun h2 => ?_) (fun hx => by exfalso; omega)
  refine En_Ps 5 (pc' := 18) (lv' := [(2, .int a), (0, .ref s), (1, .int a)]) (st' := [.int ((a + ((Int32.ofInt 1))))]) rfl ?_
  refine En_top (addI rfl (by decide : (Int32.ofInt 1).toInt = 1) (by omega) (by omega)) (fun z3 h4 => ?_)
  refine En_Ps 1 (pc' := 19) (lv' := [(2, .int a), (0, .ref s), (1, .int a)]) (st' := [.ref s, .int z3]) rfl ?_
  refine En_getK (j := 2) h_sz rfl rfl rfl hs (by decide +kernel) ?_
  refine En_icGe _ rfl rfl rfl (fun h5 => ?_) (fun hx => by exfalso; omega)
  refine En_Ps 2 (pc' := 61) (lv' := [(2, .int a), (0, .ref s), (1, .int a)]) (st' := [.ref s, .ref s]) rfl ?_
  refine En_getK (j := 2) h_sz rfl rfl rfl hs (by decide +kernel) ?_
  refine En_Ps 2 (pc' := 66) (lv' := [(2, .int a), (0, .ref s), (1, .int a)]) (st' := [.int ((sz - ((Int32.ofInt 1)))), .ref s]) rfl ?_
  refine En_top (subI rfl (by decide : (Int32.ofInt 1).toInt = 1) (by omega) (by omega)) (fun z6 h7 => ?_)
  refine En_put (j := 2) rfl rfl rfl hs (by decide +kernel) rfl (vI (l := 0) (u := 13) (by decide +kernel) rfl (by omega) (by omega)) hσ0 hF0 (by decide +kernel) (fun σ8 h9 h10 h11 h12 => ?_)
  exact En_ret (v := none) rfl rfl rfl ⟨h9, h10, z6, h11, rfl, ⟨by omega, by omega, by omega, by omega, by omega, by omega, DRP_mk h11 h12 (by omega)⟩⟩
/-- DoorSchool$Lessons.takeOut(I)V -/
abbrev P_41bx (σ0 : SG) (s : Nat) (a : Int32) (kn : Nat) (op : Nat) (sz : Int32) : PO := fun v σ => WT σ ∧ Fr [(20, 2), (21, 0), (22, 0)] σ0 σ ∧ ∃ sz1 : Int32, (σ s)[2]? = some (.int sz1) ∧ v = none ∧ -sz1.toInt ≤ 0 ∧ sz1.toInt - 12 ≤ 0 ∧ -sz1.toInt + sz.toInt - 1 ≤ 0 ∧ sz1.toInt - sz.toInt + 1 ≤ 0 ∧ sz1.toInt - sz.toInt + 1 ≤ 0 ∧ -sz1.toInt + sz.toInt - 1 ≤ 0 ∧ TKO σ0 σ s kn op a.toInt sz.toInt
set_option maxRecDepth 10000 in
set_option maxHeartbeats 4000000 in
theorem c_41bx (σ0 : SG) (hσ0 : WT σ0) (s : Nat) (hs : TG s = 20) (a : Int32) (hl_a : 0 ≤ a.toInt) (hu_a : a.toInt ≤ 12) (kn : Nat) (hkn : TG kn = 21) (h_kn : (σ0 s)[0]? = some (.ref kn)) (op : Nat) (hop : TG op = 22) (h_op : (σ0 s)[1]? = some (.ref op)) (sz : Int32) (h_sz : (σ0 s)[2]? = some (.int sz)) (hp0 : a.toInt - sz.toInt + 1 ≤ 0) : En 0 0 none mr_41 (P_41bx σ0 s a kn op sz) 0 [(0, .ref s), (1, .int a)] [] σ0 := by
  obtain ⟨hl_sz, hu_sz⟩ := WT_int hσ0 (g := 20) hs (by decide +kernel) (l := 0) (u := 13) (by decide +kernel) h_sz
  have hF0 : Fr [(20, 2), (21, 0), (22, 0)] σ0 σ0 := Fr_rfl
  refine En_Ps 1 (pc' := 1) (lv' := [(0, .ref s), (1, .int a)]) (st' := [.int a]) rfl ?_
  refine En_iLt _ rfl rfl (fun hx => by exfalso; omega) (fun h1 => ?_)
  refine En_Ps 2 (pc' := 6) (lv' := [(0, .ref s), (1, .int a)]) (st' := [.ref s, .int a]) rfl ?_
  refine En_getK (j := 2) h_sz rfl rfl rfl hs (by decide +kernel) ?_
  refine En_icLt _ rfl rfl rfl (fun h2 => ?_) (fun hx => by exfalso; omega)
  refine En_Ps 2 (pc' := 15) (lv' := [(2, .int a), (0, .ref s), (1, .int a)]) (st' := []) rfl ?_
  have key15 : ∀ (n15 : Nat) (σ4 : SG) (y3 : Int32), WT σ4 → Fr [(20, 2), (21, 0), (22, 0)] σ0 σ4 → (σ4 s)[0]? = some (.ref kn) → (σ4 s)[1]? = some (.ref op) → (σ4 s)[2]? = some (.int sz) → 0 ≤ y3.toInt → y3.toInt ≤ 12 → a.toInt - y3.toInt ≤ 0 → y3.toInt - sz.toInt + 1 ≤ 0 → sz.toInt - y3.toInt < (n15 : Int) → TKI σ0 σ4 kn op a.toInt y3.toInt → En 0 0 none mr_41 (P_41bx σ0 s a kn op sz) 15 [(0, .ref s), (1, .int a), (2, .int y3)] [] σ4 := by
    intro n15
    induction n15 with
    | zero =>
      intro σ4 y3 h5 h6 h7 h8 h9 h10 h11 h12 h13 h14 h15
      exfalso; omega
    | succ n15 ih15 =>
      intro σ4 y3 h5 h6 h7 h8 h9 h10 h11 h12 h13 h14 h15
      refine En_Ps 3 (pc' := 18) (lv' := [(0, .ref s), (1, .int a), (2, .int y3)]) (st' := [.int ((y3 + ((Int32.ofInt 1))))]) rfl ?_
      refine En_top (addI rfl (by decide : (Int32.ofInt 1).toInt = 1) (by omega) (by omega)) (fun z16 h17 => ?_)
      refine En_Ps 1 (pc' := 19) (lv' := [(0, .ref s), (1, .int a), (2, .int y3)]) (st' := [.ref s, .int z16]) rfl ?_
      refine En_getK (j := 2) h9 rfl rfl rfl hs (by decide +kernel) ?_
      refine En_icGe _ rfl rfl rfl (fun h18 => ?_) (fun h18 => ?_)
      · refine En_Ps 2 (pc' := 61) (lv' := [(0, .ref s), (1, .int a), (2, .int y3)]) (st' := [.ref s, .ref s]) rfl ?_
        refine En_getK (j := 2) h9 rfl rfl rfl hs (by decide +kernel) ?_
        refine En_Ps 2 (pc' := 66) (lv' := [(0, .ref s), (1, .int a), (2, .int y3)]) (st' := [.int ((sz - ((Int32.ofInt 1)))), .ref s]) rfl ?_
        refine En_top (subI rfl (by decide : (Int32.ofInt 1).toInt = 1) (by omega) (by omega)) (fun z19 h20 => ?_)
        refine En_put (j := 2) rfl rfl rfl hs (by decide +kernel) rfl (vI (l := 0) (u := 13) (by decide +kernel) rfl (by omega) (by omega)) h5 h6 (by decide +kernel) (fun σ21 h22 h23 h24 h25 => ?_)
        exact En_ret (v := none) rfl rfl rfl ⟨h22, h23, z19, h24, rfl, ⟨by omega, by omega, by omega, by omega, by omega, by omega, TKI_x h15 (by omega) h24 h25 (by omega) (neTG hkn hs (by decide)) (neTG hop hs (by decide))⟩⟩
      · refine En_Ps 1 (pc' := 26) (lv' := [(0, .ref s), (1, .int a), (2, .int y3)]) (st' := [.ref s]) rfl ?_
        refine En_getK (j := 0) h7 rfl rfl rfl hs (by decide +kernel) ?_
        refine En_Ps 2 (pc' := 31) (lv' := [(0, .ref s), (1, .int a), (2, .int y3)]) (st' := [.ref s, .int y3, .ref kn]) rfl ?_
        refine En_getK (j := 0) h7 rfl rfl rfl hs (by decide +kernel) ?_
        refine En_Ps 3 (pc' := 37) (lv' := [(0, .ref s), (1, .int a), (2, .int y3)]) (st' := [.int ((y3 + ((Int32.ofInt 1)))), .ref kn, .int y3, .ref kn]) rfl ?_
        refine En_top (addI rfl (by decide : (Int32.ofInt 1).toInt = 1) (by omega) (by omega)) (fun z26 h27 => ?_)
        refine En_iald (l := 0) (u := 15) rfl rfl hkn (by decide +kernel) h5 (by omega) (lnI (by decide +kernel : LN _ = 13) (by omega)) (FTsgl (by decide +kernel)) (fun z29 h28 h30 h31 => ?_)
        refine En_iast (l := 0) (u := 15) rfl rfl hkn (by decide +kernel) (by omega) (lnI (by decide +kernel : LN _ = 13) (by omega)) (FTsgl (by decide +kernel)) (rngI rfl (by omega) (by omega)) h5 h6 (by decide +kernel) (fun σ32 h33 h34 h35 h36 => ?_)
        refine En_Ps 1 (pc' := 40) (lv' := [(0, .ref s), (1, .int a), (2, .int y3)]) (st' := [.ref s]) rfl ?_
        refine En_getK (j := 1) ((h36 _ _ (Or.inl (neTG hs hkn (by decide)))).trans h8) rfl rfl rfl hs (by decide +kernel) ?_
        refine En_Ps 2 (pc' := 45) (lv' := [(0, .ref s), (1, .int a), (2, .int y3)]) (st' := [.ref s, .int y3, .ref op]) rfl ?_
        refine En_getK (j := 1) ((h36 _ _ (Or.inl (neTG hs hkn (by decide)))).trans h8) rfl rfl rfl hs (by decide +kernel) ?_
        refine En_Ps 3 (pc' := 51) (lv' := [(0, .ref s), (1, .int a), (2, .int y3)]) (st' := [.int ((y3 + ((Int32.ofInt 1)))), .ref op, .int y3, .ref op]) rfl ?_
        refine En_top (addI rfl (by decide : (Int32.ofInt 1).toInt = 1) (by omega) (by omega)) (fun z37 h38 => ?_)
        refine En_iald (l := 0) (u := 1) rfl rfl hop (by decide +kernel) h33 (by omega) (lnI (by decide +kernel : LN _ = 13) (by omega)) (FTsgl (by decide +kernel)) (fun z40 h39 h41 h42 => ?_)
        refine En_iast (l := 0) (u := 1) rfl rfl hop (by decide +kernel) (by omega) (lnI (by decide +kernel : LN _ = 13) (by omega)) (FTsgl (by decide +kernel)) (rngI rfl (by omega) (by omega)) h33 h34 (by decide +kernel) (fun σ43 h44 h45 h46 h47 => ?_)
        refine En_Ps 1 (pc' := 56) (lv' := [(2, .int ((y3 + Int32.ofInt 1))), (0, .ref s), (1, .int a)]) (st' := []) rfl ?_
        refine En_lv1 (addI rfl (by decide : (Int32.ofInt 1).toInt = 1) (by omega) (by omega)) (fun z48 h49 => ?_)
        refine En_Ps 1 (pc' := 15) (lv' := [(2, .int z48), (0, .ref s), (1, .int a)]) (st' := []) rfl ?_
        refine En_lv (lv := [(0, .ref s), (1, .int a), (2, .int z48)]) ⟨rfl, rfl, rfl, trivial⟩ ?_
        exact ih15 σ43 z48 h44 h45 ((h47 _ _ (Or.inl (neTG hs hop (by decide)))).trans ((h36 _ _ (Or.inl (neTG hs hkn (by decide)))).trans h7)) ((h47 _ _ (Or.inl (neTG hs hop (by decide)))).trans ((h36 _ _ (Or.inl (neTG hs hkn (by decide)))).trans h8)) ((h47 _ _ (Or.inl (neTG hs hop (by decide)))).trans ((h36 _ _ (Or.inl (neTG hs hkn (by decide)))).trans h9)) (by omega) (by omega) (by omega) (by omega) (by omega) (TKI_s (J := y3.toInt) (J' := y3.toInt + 1) h15 (neTG hkn hop (by decide)) (by rw [show y3.toInt + 1 = z26.toInt by omega]; exact h28) h35 h36 (by rw [show y3.toInt + 1 = z37.toInt by omega]; exact h39) h46 h47 (by omega) (by omega) (by omega) (by omega) (by omega))
  refine En_lv (lv := [(0, .ref s), (1, .int a), (2, .int a)]) ⟨rfl, rfl, rfl, trivial⟩ ?_
  exact key15 (Int.toNat (sz.toInt - a.toInt) + 1) σ0 a hσ0 hF0 h_kn h_op h_sz (by omega) (by omega) (by omega) (by omega) (by omega) (TKI_0 rfl)
/-- DoorSchool$Lessons.dropLast()V -/
abbrev P_33x (σ0 : SG) (s : Nat) (kn : Nat) (op : Nat) (sz : Int32) : PO := fun v σ => WT σ ∧ Fr [(20, 2)] σ0 σ ∧ ∃ sz1 : Int32, (σ s)[2]? = some (.int sz1) ∧ v = none ∧ -sz1.toInt ≤ 0 ∧ sz1.toInt - 12 ≤ 0 ∧ -sz1.toInt + sz.toInt - 1 ≤ 0 ∧ sz1.toInt - sz.toInt + 1 ≤ 0 ∧ sz1.toInt - sz.toInt + 1 ≤ 0 ∧ -sz1.toInt + sz.toInt - 1 ≤ 0 ∧ DRPp σ0 σ s sz.toInt
set_option maxRecDepth 10000 in
set_option maxHeartbeats 4000000 in
theorem c_33x (σ0 : SG) (hσ0 : WT σ0) (s : Nat) (hs : TG s = 20) (kn : Nat) (hkn : TG kn = 21) (h_kn : (σ0 s)[0]? = some (.ref kn)) (op : Nat) (hop : TG op = 22) (h_op : (σ0 s)[1]? = some (.ref op)) (sz : Int32) (h_sz : (σ0 s)[2]? = some (.int sz)) (hp0 : -sz.toInt + 1 ≤ 0) : En 1 22 none mr_33 (P_33x σ0 s kn op sz) 0 [(0, .ref s)] [] σ0 := by
  obtain ⟨hl_sz, hu_sz⟩ := WT_int hσ0 (g := 20) hs (by decide +kernel) (l := 0) (u := 13) (by decide +kernel) h_sz
  have hF0 : Fr [(20, 2)] σ0 σ0 := Fr_rfl
  refine En_Ps 2 (pc' := 2) (lv' := [(0, .ref s)]) (st' := [.ref s, .ref s]) rfl ?_
  refine En_getK (j := 2) h_sz rfl rfl rfl hs (by decide +kernel) ?_
  refine En_Ps 2 (pc' := 7) (lv' := [(0, .ref s)]) (st' := [.int ((sz - ((Int32.ofInt 1)))), .ref s]) rfl ?_
  refine En_top (subI rfl (by decide : (Int32.ofInt 1).toInt = 1) (by omega) (by omega)) (fun z1 h2 => ?_)
  refine En_callV rfl rfl rfl rfl rfl rfl rfl rfl hs (by decide +kernel) rfl (c_41ax σ0 hσ0 s hs z1 (geI rfl (by omega)) (leI rfl (by omega)) kn hkn h_kn op hop h_op sz h_sz (by omega) (by omega)) (by decide) (by decide) (fun v4 σ5 h3 => ?_)
  obtain ⟨h6, h7, z9, h10, rfl, h8⟩ := h3
  have h11 := h8.2.2.2.2.2.2
  have h12 := Fr_trans hF0 h7 (by decide +kernel)
  exact En_ret (v := none) rfl rfl rfl ⟨h6, h12, z9, h10, rfl, ⟨by omega, by omega, by omega, by omega, by omega, by omega, h11⟩⟩
/-- DoorSchool$Plan.clear()V -/
abbrev P_42x (σ0 : SG) (s : Nat) : PO := fun v σ => WT σ ∧ Fr [(18, 0), (18, 1), (18, 2), (18, 3), (18, 6), (18, 7), (18, 8), (18, 11), (18, 14), (20, 2), (26, 0)] σ0 σ ∧ ∃ l0 : Int32, (σ s)[0]? = some (.int l0) ∧ ∃ g0 : Int32, (σ s)[1]? = some (.int g0) ∧ v = none ∧ OUT σ0 σ s ∧ -l0.toInt ≤ 0 ∧ l0.toInt ≤ 0 ∧ -g0.toInt ≤ 0 ∧ g0.toInt ≤ 0 ∧ l0.toInt ≤ 0 ∧ -l0.toInt ≤ 0 ∧ g0.toInt ≤ 0 ∧ -g0.toInt ≤ 0 ∧ (OTH s σ0 σ ∧ KN σ s (fun _ => 0) (act (fun _ => 0)))
set_option maxRecDepth 10000 in
set_option maxHeartbeats 4000000 in
theorem c_42x (σ0 : SG) (hσ0 : WT σ0) (s : Nat) (hs : TG s = 18) (hP : PLA s) (hX : FXP σ0 s) : En 1 23 none mr_42 (P_42x σ0 s) 0 [(0, .ref s)] [] σ0 := by
  have hF0 : Fr [(18, 0), (18, 1), (18, 2), (18, 3), (18, 6), (18, 7), (18, 8), (18, 11), (18, 14), (20, 2), (26, 0)] σ0 σ0 := Fr_rfl
  refine En_Ps 2 (pc' := 2) (lv' := [(0, .ref s)]) (st' := [.int ((Int32.ofInt 0)), .ref s]) rfl ?_
  refine En_put (j := 0) rfl rfl rfl hs (by decide +kernel) rfl (vI (l := 0) (u := 1601) (by decide +kernel) (by decide : (Int32.ofInt 0).toInt = 0) (by omega) (by omega)) hσ0 hF0 (by decide +kernel) (fun σ1 h2 h3 h4 h5 => ?_)
  have h6 := OTH_pj (OTH_0 (a := s) (σ := σ0)) h5 (by decide)
  have o7 : OUT σ0 σ1 s := OUT_st OUT_0 h5 (by omega)
  refine En_Ps 2 (pc' := 7) (lv' := [(0, .ref s)]) (st' := [.int ((Int32.ofInt 0)), .ref s]) rfl ?_
  refine En_put (j := 1) rfl rfl rfl hs (by decide +kernel) rfl (vI (l := (-1)) (u := 4) (by decide +kernel) (by decide : (Int32.ofInt 0).toInt = 0) (by omega) (by omega)) h2 h3 (by decide +kernel) (fun σ8 h9 h10 h11 h12 => ?_)
  have h13 := OTH_pt h6 h12
  have o14 : OUT σ0 σ8 s := OUT_st o7 h12 (by omega)
  refine En_Ps 2 (pc' := 12) (lv' := [(0, .ref s)]) (st' := [.int ((Int32.ofInt 0)), .ref s]) rfl ?_
  refine En_put (j := 2) rfl rfl rfl hs (by decide +kernel) rfl (vI (l := (-1)) (u := 3) (by decide +kernel) (by decide : (Int32.ofInt 0).toInt = 0) (by omega) (by omega)) h9 h10 (by decide +kernel) (fun σ15 h16 h17 h18 h19 => ?_)
  have h20 := OTH_pj h13 h19 (by decide)
  have o21 : OUT σ0 σ15 s := OUT_st o14 h19 (by omega)
  refine En_Ps 2 (pc' := 17) (lv' := [(0, .ref s)]) (st' := [.int ((Int32.ofInt 0)), .ref s]) rfl ?_
  refine En_put (j := 3) rfl rfl rfl hs (by decide +kernel) rfl (vI (l := 0) (u := 4) (by decide +kernel) (by decide : (Int32.ofInt 0).toInt = 0) (by omega) (by omega)) h16 h17 (by decide +kernel) (fun σ22 h23 h24 h25 h26 => ?_)
  have h27 := OTH_pj h20 h26 (by decide)
  have o28 : OUT σ0 σ22 s := OUT_st o21 h26 (by omega)
  refine En_Ps 1 (pc' := 21) (lv' := [(0, .ref s)]) (st' := [.ref s]) rfl ?_
  refine En_getR (j := 5) (g' := 20) (u := 0) rfl rfl rfl hs (by decide +kernel) h23 (by decide +kernel) (fun a30 h29 ha30 => ?_)
  refine En_Ps 1 (pc' := 25) (lv' := [(0, .ref s)]) (st' := [.int ((Int32.ofInt 0)), .ref a30]) rfl ?_
  have h31 : a30 = s + 2 := ref_uniq h29 (FXP_fr hP hX h24 (by decide +kernel)).2.1
  refine En_put (j := 2) rfl rfl rfl ha30 (by decide +kernel) rfl (vI (l := 0) (u := 13) (by decide +kernel) (by decide : (Int32.ofInt 0).toInt = 0) (by omega) (by omega)) h23 h24 (by decide +kernel) (fun σ32 h33 h34 h35 h36 => ?_)
  have h37 := OTH_pn h27 h36 ha30 (by decide)
  have o38 : OUT σ0 σ32 s := OUT_st o28 h36 (by omega)
  refine En_Ps 2 (pc' := 30) (lv' := [(0, .ref s)]) (st' := [.int ((Int32.ofInt 0)), .ref s]) rfl ?_
  refine En_put (j := 6) rfl rfl rfl hs (by decide +kernel) rfl (vI (l := 0) (u := 15) (by decide +kernel) (by decide : (Int32.ofInt 0).toInt = 0) (by omega) (by omega)) h33 h34 (by decide +kernel) (fun σ39 h40 h41 h42 h43 => ?_)
  have h44 := OTH_pj h37 h43 (by decide)
  have o45 : OUT σ0 σ39 s := OUT_st o38 h43 (by omega)
  refine En_Ps 2 (pc' := 35) (lv' := [(0, .ref s)]) (st' := [.int ((Int32.ofInt 0)), .ref s]) rfl ?_
  refine En_put (j := 7) rfl rfl rfl hs (by decide +kernel) rfl (vI (l := 0) (u := 15) (by decide +kernel) (by decide : (Int32.ofInt 0).toInt = 0) (by omega) (by omega)) h40 h41 (by decide +kernel) (fun σ46 h47 h48 h49 h50 => ?_)
  have h51 := OTH_pj h44 h50 (by decide)
  have o52 : OUT σ0 σ46 s := OUT_st o45 h50 (by omega)
  refine En_Ps 2 (pc' := 40) (lv' := [(0, .ref s)]) (st' := [.int ((Int32.ofInt 0)), .ref s]) rfl ?_
  refine En_put (j := 8) rfl rfl rfl hs (by decide +kernel) rfl (vI (l := 0) (u := 4) (by decide +kernel) (by decide : (Int32.ofInt 0).toInt = 0) (by omega) (by omega)) h47 h48 (by decide +kernel) (fun σ53 h54 h55 h56 h57 => ?_)
  have h58 := OTH_pj h51 h57 (by decide)
  have o59 : OUT σ0 σ53 s := OUT_st o52 h57 (by omega)
  refine En_Ps 2 (pc' := 45) (lv' := [(0, .ref s)]) (st' := [.int ((Int32.ofInt 0)), .ref s]) rfl ?_
  refine En_put (j := 11) rfl rfl rfl hs (by decide +kernel) rfl (vI (l := 0) (u := 6) (by decide +kernel) (by decide : (Int32.ofInt 0).toInt = 0) (by omega) (by omega)) h54 h55 (by decide +kernel) (fun σ60 h61 h62 h63 h64 => ?_)
  have h65 := OTH_pj h58 h64 (by decide)
  have o66 : OUT σ0 σ60 s := OUT_st o59 h64 (by omega)
  refine En_Ps 1 (pc' := 49) (lv' := [(0, .ref s)]) (st' := [.ref s]) rfl ?_
  refine En_getR (j := 13) (g' := 26) (u := 0) rfl rfl rfl hs (by decide +kernel) h61 (by decide +kernel) (fun a68 h67 ha68 => ?_)
  refine En_Ps 1 (pc' := 53) (lv' := [(0, .ref s)]) (st' := [.int ((Int32.ofInt 0)), .ref a68]) rfl ?_
  have h69 : a68 = s + 8 := ref_uniq h67 (FXP_fr hP hX h62 (by decide +kernel)).2.2.2.2.2.1
  have := (by decide : ((Int32.ofInt 0)).toInt = 0)
  refine En_callS rfl rfl rfl rfl rfl rfl rfl rfl rfl (c_8ax σ60 h61 a68 ha68 ((Int32.ofInt 0)) (geI (by decide : (Int32.ofInt 0).toInt = 0) (by omega)) (leI (by decide : (Int32.ofInt 0).toInt = 0) (by omega))) (by decide) (by decide) (fun v71 σ72 h70 => ?_)
  obtain ⟨h73, h74, rfl, h75⟩ := h70
  have h76 := h75
  have h77 := Fr_trans h62 h74 (by decide +kernel)
  have h78 := OTH_fr h65 h74 (by decide +kernel)
  have o79 : OUT σ0 σ72 s := OUT_cp o66 h76.2 (by omega)
  refine En_Ps 2 (pc' := 58) (lv' := [(0, .ref s)]) (st' := [.int ((Int32.ofInt 0)), .ref s]) rfl ?_
  refine En_put (j := 14) rfl rfl rfl hs (by decide +kernel) rfl (vI (l := 0) (u := 60) (by decide +kernel) (by decide : (Int32.ofInt 0).toInt = 0) (by omega) (by omega)) h73 h77 (by decide +kernel) (fun σ80 h81 h82 h83 h84 => ?_)
  have h85 := OTH_pj h78 h84 (by decide)
  have o86 : OUT σ0 σ80 s := OUT_st o79 h84 (by omega)
  have := (by decide : (Int32.ofInt 0).toInt = 0)
  have := (by decide : (Int32.ofInt 0).toInt = 0)
  have h87 : a30 = s + 2 := ref_uniq ((h84 _ _ (Or.inr (by decide))).trans ((h74 _ _ (inW hs (by decide +kernel))).trans ((h64 _ _ (Or.inr (by decide))).trans ((h57 _ _ (Or.inr (by decide))).trans ((h50 _ _ (Or.inr (by decide))).trans ((h43 _ _ (Or.inr (by decide))).trans ((h36 _ _ (Or.inr (by decide))).trans h29))))))) (FXP_fr hP hX h82 (by decide +kernel)).2.1
  have h88 : a68 = s + 8 := ref_uniq ((h84 _ _ (Or.inr (by decide))).trans ((h74 _ _ (inW hs (by decide +kernel))).trans h67)) (FXP_fr hP hX h82 (by decide +kernel)).2.2.2.2.2.1
  have h89 : ∀ k : Int, 0 ≤ k → k < 6 → ci σ80 (s + 8) k = 0 := fun k k0 k1 => by rw [← h88, ci_ne h84 (by rw [h88]; omega)]; exact h76.1 k k0 k1
  exact En_ret (v := none) rfl rfl rfl ⟨h81, h82, (Int32.ofInt 0), ((h84 _ _ (Or.inr (by decide))).trans ((h74 _ _ (inW hs (by decide +kernel))).trans ((h64 _ _ (Or.inr (by decide))).trans ((h57 _ _ (Or.inr (by decide))).trans ((h50 _ _ (Or.inr (by decide))).trans ((h43 _ _ (Or.inr (by decide))).trans ((h36 _ _ (Or.inr (by decide))).trans ((h26 _ _ (Or.inr (by decide))).trans ((h19 _ _ (Or.inr (by decide))).trans ((h12 _ _ (Or.inr (by decide))).trans h4)))))))))), (Int32.ofInt 0), ((h84 _ _ (Or.inr (by decide))).trans ((h74 _ _ (inW hs (by decide +kernel))).trans ((h64 _ _ (Or.inr (by decide))).trans ((h57 _ _ (Or.inr (by decide))).trans ((h50 _ _ (Or.inr (by decide))).trans ((h43 _ _ (Or.inr (by decide))).trans ((h36 _ _ (Or.inr (by decide))).trans ((h26 _ _ (Or.inr (by decide))).trans ((h19 _ _ (Or.inr (by decide))).trans h11))))))))), rfl, ⟨o86, by omega, by omega, by omega, by omega, by omega, by omega, by omega, by omega, ⟨h85, KN_clr ((ci_at (j := 0) ((h84 _ _ (Or.inr (by decide))).trans ((h74 _ _ (inW hs (by decide +kernel))).trans ((h64 _ _ (Or.inr (by decide))).trans ((h57 _ _ (Or.inr (by decide))).trans ((h50 _ _ (Or.inr (by decide))).trans ((h43 _ _ (Or.inr (by decide))).trans ((h36 _ _ (Or.inr (by decide))).trans ((h26 _ _ (Or.inr (by decide))).trans ((h19 _ _ (Or.inr (by decide))).trans ((h12 _ _ (Or.inr (by decide))).trans h4)))))))))) rfl).trans (by decide)) ((ci_at (j := 1) ((h84 _ _ (Or.inr (by decide))).trans ((h74 _ _ (inW hs (by decide +kernel))).trans ((h64 _ _ (Or.inr (by decide))).trans ((h57 _ _ (Or.inr (by decide))).trans ((h50 _ _ (Or.inr (by decide))).trans ((h43 _ _ (Or.inr (by decide))).trans ((h36 _ _ (Or.inr (by decide))).trans ((h26 _ _ (Or.inr (by decide))).trans ((h19 _ _ (Or.inr (by decide))).trans h11))))))))) rfl).trans (by decide)) ((ci_at (j := 2) ((h84 _ _ (Or.inr (by decide))).trans ((h74 _ _ (inW hs (by decide +kernel))).trans ((h64 _ _ (Or.inr (by decide))).trans ((h57 _ _ (Or.inr (by decide))).trans ((h50 _ _ (Or.inr (by decide))).trans ((h43 _ _ (Or.inr (by decide))).trans ((h36 _ _ (Or.inl (neTG hs ha30 (by decide)))).trans ((h26 _ _ (Or.inr (by decide))).trans h18)))))))) rfl).trans (by decide)) ((ci_at (j := 3) ((h84 _ _ (Or.inr (by decide))).trans ((h74 _ _ (inW hs (by decide +kernel))).trans ((h64 _ _ (Or.inr (by decide))).trans ((h57 _ _ (Or.inr (by decide))).trans ((h50 _ _ (Or.inr (by decide))).trans ((h43 _ _ (Or.inr (by decide))).trans ((h36 _ _ (Or.inr (by decide))).trans h25))))))) rfl).trans (by decide)) (by rw [← h87]; exact ((ci_at (j := 2) ((h84 _ _ (Or.inr (by decide))).trans ((h74 _ _ (inW ha30 (by decide +kernel))).trans ((h64 _ _ (Or.inr (by decide))).trans ((h57 _ _ (Or.inr (by decide))).trans ((h50 _ _ (Or.inr (by decide))).trans ((h43 _ _ (Or.inr (by decide))).trans h35)))))) rfl).trans (by decide))) ((ci_at (j := 6) ((h84 _ _ (Or.inr (by decide))).trans ((h74 _ _ (inW hs (by decide +kernel))).trans ((h64 _ _ (Or.inr (by decide))).trans ((h57 _ _ (Or.inr (by decide))).trans ((h50 _ _ (Or.inr (by decide))).trans h42))))) rfl).trans (by decide)) ((ci_at (j := 7) ((h84 _ _ (Or.inr (by decide))).trans ((h74 _ _ (inW hs (by decide +kernel))).trans ((h64 _ _ (Or.inr (by decide))).trans ((h57 _ _ (Or.inr (by decide))).trans h49)))) rfl).trans (by decide)) ((ci_at (j := 8) ((h84 _ _ (Or.inr (by decide))).trans ((h74 _ _ (inW hs (by decide +kernel))).trans ((h64 _ _ (Or.inr (by decide))).trans h56))) rfl).trans (by decide)) ((ci_at (j := 11) ((h84 _ _ (Or.inr (by decide))).trans ((h74 _ _ (inW hs (by decide +kernel))).trans h63)) rfl).trans (by decide)) ((ci_at (j := 14) h83 rfl).trans (by decide)) h89⟩⟩⟩
/-- DoorSchool$Plan.exists()Z -/
abbrev P_43x (σ0 : SG) (s : Nat) (l : Int32) : PO := fun v σ => WT σ ∧ Fr [] σ0 σ ∧ ∃ ret : Int32, v = some (.int ret) ∧ -ret.toInt ≤ 0 ∧ ret.toInt - 1 ≤ 0 ∧ Imp (-ret.toInt + 1 ≤ 0) (-l.toInt + 1 ≤ 0) ∧ Imp (-l.toInt + 1 ≤ 0) (-ret.toInt + 1 ≤ 0)
set_option maxRecDepth 10000 in
set_option maxHeartbeats 4000000 in
theorem c_43x (σ0 : SG) (hσ0 : WT σ0) (s : Nat) (hs : TG s = 18) (l : Int32) (h_l : (σ0 s)[0]? = some (.int l)) : En 0 0 none mr_43 (P_43x σ0 s l) 0 [(0, .ref s)] [] σ0 := by
  obtain ⟨hl_l, hu_l⟩ := WT_int hσ0 (g := 18) hs (by decide +kernel) (l := 0) (u := 1601) (by decide +kernel) h_l
  have hF0 : Fr [] σ0 σ0 := Fr_rfl
  refine En_Ps 1 (pc' := 1) (lv' := [(0, .ref s)]) (st' := [.ref s]) rfl ?_
  refine En_getK (j := 0) h_l rfl rfl rfl hs (by decide +kernel) ?_
  refine En_iLe _ rfl rfl (fun h1 => ?_) (fun h1 => ?_)
  · refine En_Ps 1 (pc' := 12) (lv' := [(0, .ref s)]) (st' := [.int ((Int32.ofInt 0))]) rfl ?_
    refine En_top (by decide : (Int32.ofInt 0).toInt = 0) (fun z2 h3 => ?_)
    exact En_ret (v := some (.int z2)) rfl rfl (retZ rfl rfl (by omega) (by omega)) ⟨hσ0, hF0, z2, rfl, ⟨by omega, by omega, fun _ => by omega, fun _ => by omega⟩⟩
  · refine En_Ps 2 (pc' := 12) (lv' := [(0, .ref s)]) (st' := [.int ((Int32.ofInt 1))]) rfl ?_
    refine En_top (by decide : (Int32.ofInt 1).toInt = 1) (fun z4 h5 => ?_)
    exact En_ret (v := some (.int z4)) rfl rfl (retZ rfl rfl (by omega) (by omega)) ⟨hσ0, hF0, z4, rfl, ⟨by omega, by omega, fun _ => by omega, fun _ => by omega⟩⟩
/-- DoorSchool$Plan.isCopied(I)Z -/
abbrev P_45x (σ0 : SG) (Wv : Int → Int) (s : Nat) (a : Int32) : PO := fun v σ => WT σ ∧ Fr [] σ0 σ ∧ ∃ ret : Int32, v = some (.int ret) ∧ -ret.toInt ≤ 0 ∧ ret.toInt - 1 ≤ 0 ∧ Imp (ret.toInt - 1 ≤ 0 ∧ -ret.toInt + 1 ≤ 0) (-a.toInt - 1 ≤ 0 ∧ a.toInt - 3 ≤ 0) ∧ ret.toInt = cpI Wv a.toInt
set_option maxRecDepth 10000 in
set_option maxHeartbeats 4000000 in
theorem c_45x {Wv : Int → Int} (σ0 : SG) (hσ0 : WT σ0) (s : Nat) (hs : TG s = 18) (a : Int32) (hP : PLA s) (hX : FXP σ0 s) (hK : KN σ0 s Wv (act Wv)) : En 0 0 none mr_45 (P_45x σ0 Wv s a) 0 [(0, .ref s), (1, .int a)] [] σ0 := by
  have hF0 : Fr [] σ0 σ0 := Fr_rfl
  refine En_Ps 2 (pc' := 2) (lv' := [(2, .int ((Int32.ofInt 0))), (0, .ref s), (1, .int a)]) (st' := []) rfl ?_
  have key2 : ∀ (n2 : Nat) (y1 : Int32), 0 ≤ y1.toInt → y1.toInt ≤ 4 → -y1.toInt + 4 < (n2 : Int) → NCw Wv a.toInt y1.toInt → En 0 0 none mr_45 (P_45x σ0 Wv s a) 2 [(0, .ref s), (1, .int a), (2, .int y1)] [] σ0 := by
    intro n2
    induction n2 with
    | zero =>
      intro y1 h5 h6 h7 h8
      exfalso; omega
    | succ n2 ih2 =>
      intro y1 h5 h6 h7 h8
      refine En_Ps 2 (pc' := 4) (lv' := [(0, .ref s), (1, .int a), (2, .int y1)]) (st' := [.ref s, .int y1]) rfl ?_
      refine En_getI (j := 3) (l := 0) (u := 4) rfl rfl rfl hs (by decide +kernel) hσ0 (by decide +kernel) (fun z10 h9 h11 h12 => ?_)
      have h13 : Wv 2 = z10.toInt := KN_v hK (Or.inl (by decide)) (by decide) (by decide) (by rw [lcO_lt (by decide) (by decide), Nat.add_zero]) rfl h9
      refine En_icGe _ rfl rfl rfl (fun h14 => ?_) (fun h14 => ?_)
      · refine En_Ps 1 (pc' := 32) (lv' := [(0, .ref s), (1, .int a), (2, .int y1)]) (st' := [.int ((Int32.ofInt 0))]) rfl ?_
        refine En_top (by decide : (Int32.ofInt 0).toInt = 0) (fun z15 h16 => ?_)
        exact En_ret (v := some (.int z15)) rfl rfl (retZ rfl rfl (by omega) (by omega)) ⟨hσ0, hF0, z15, rfl, ⟨by omega, by omega, fun _ => by omega, CPw_n h8 (by omega) (by omega)⟩⟩
      · refine En_Ps 1 (pc' := 11) (lv' := [(0, .ref s), (1, .int a), (2, .int y1)]) (st' := [.ref s]) rfl ?_
        refine En_getR (j := 4) (g' := 19) (u := 0) rfl rfl rfl hs (by decide +kernel) hσ0 (by decide +kernel) (fun a18 h17 ha18 => ?_)
        refine En_Ps 1 (pc' := 15) (lv' := [(0, .ref s), (1, .int a), (2, .int y1)]) (st' := [.int y1, .ref a18]) rfl ?_
        refine En_aald (g' := 28) (u := 0) rfl rfl ha18 (by decide +kernel) hσ0 (by omega) (lnI (by decide +kernel : LN _ = 4) (by omega)) (FTsgl (by decide +kernel)) (fun a20 h19 ha20 => ?_)
        refine En_getI (j := 3) (l := (-1)) (u := 3) rfl rfl rfl ha20 (by decide +kernel) hσ0 (by decide +kernel) (fun z22 h21 h23 h24 => ?_)
        refine En_Ps 1 (pc' := 20) (lv' := [(0, .ref s), (1, .int a), (2, .int y1)]) (st' := [.int a, .int z22]) rfl ?_
        have h25 := DRc (d := y1.toInt) hX h17 h19 (by omega) (by omega)
        have h26 := lc_d (d := y1.toInt) (by omega) (by omega)
        have h27 : Wv (13 + 4 * y1.toInt) = z22.toInt := KN_v hK (Or.inr (Or.inl ⟨by omega, by omega, by omega⟩)) (by omega) (by omega) (by omega) (by omega) h21
        refine En_icNe _ rfl rfl rfl (fun h28 => ?_) (fun h28 => ?_)
        · refine En_Ps 1 (pc' := 28) (lv' := [(2, .int ((y1 + Int32.ofInt 1))), (0, .ref s), (1, .int a)]) (st' := []) rfl ?_
          refine En_lv1 (addI rfl (by decide : (Int32.ofInt 1).toInt = 1) (by omega) (by omega)) (fun z29 h30 => ?_)
          refine En_Ps 1 (pc' := 2) (lv' := [(2, .int z29), (0, .ref s), (1, .int a)]) (st' := []) rfl ?_
          refine En_lv (lv := [(0, .ref s), (1, .int a), (2, .int z29)]) ⟨rfl, rfl, rfl, trivial⟩ ?_
          exact ih2 z29 (by omega) (by omega) (by omega) (NCw_s h8 (by rw [h27]; omega) (by omega))
        · refine En_Ps 1 (pc' := 24) (lv' := [(0, .ref s), (1, .int a), (2, .int y1)]) (st' := [.int ((Int32.ofInt 1))]) rfl ?_
          refine En_top (by decide : (Int32.ofInt 1).toInt = 1) (fun z31 h32 => ?_)
          exact En_ret (v := some (.int z31)) rfl rfl (retZ rfl rfl (by omega) (by omega)) ⟨hσ0, hF0, z31, rfl, ⟨by omega, by omega, fun _ => by omega, CPw_1 (y := y1.toInt) (by omega) (by omega) (by omega) (by rw [h27]; omega) (by omega)⟩⟩
  have := (by decide : (Int32.ofInt 0).toInt = 0)
  refine En_lv (lv := [(0, .ref s), (1, .int a), (2, .int ((Int32.ofInt 0)))]) ⟨rfl, rfl, rfl, trivial⟩ ?_
  exact key2 (Int.toNat (4) + 1) ((Int32.ofInt 0)) (by omega) (by omega) (by omega) (fun q q0 q1 => by omega)
/-- DoorSchool$Plan.knocks()I -/
abbrev P_51x (σ0 : SG) (s : Nat) (sg : Int32) : PO := fun v σ => WT σ ∧ Fr [] σ0 σ ∧ ∃ ret : Int32, v = some (.int ret) ∧ -ret.toInt + 1 ≤ 0 ∧ ret.toInt - 16 ≤ 0 ∧ ret.toInt = pI sg.toInt
set_option maxRecDepth 10000 in
set_option maxHeartbeats 4000000 in
theorem c_51x (σ0 : SG) (hσ0 : WT σ0) (s : Nat) (hs : TG s = 18) (sg : Int32) (h_sg : (σ0 s)[1]? = some (.int sg)) (hp0 : -sg.toInt ≤ 0) : En 0 0 none mr_51 (P_51x σ0 s sg) 0 [(0, .ref s)] [] σ0 := by
  obtain ⟨hl_sg, hu_sg⟩ := WT_int hσ0 (g := 18) hs (by decide +kernel) (l := (-1)) (u := 4) (by decide +kernel) h_sg
  have hF0 : Fr [] σ0 σ0 := Fr_rfl
  refine En_Ps 2 (pc' := 2) (lv' := [(0, .ref s)]) (st' := [.ref s, .int ((Int32.ofInt 1))]) rfl ?_
  refine En_getK (j := 1) h_sg rfl rfl rfl hs (by decide +kernel) ?_
  refine En_Ps 1 (pc' := 6) (lv' := [(0, .ref s)]) (st' := [.int ((((Int32.ofInt 1)) <<< (sg &&& 31)))]) rfl ?_
  refine En_nam (fun z1 h2 => ?_)
  have h3 := shl1_v (y := sg) rfl (by omega) (by omega)
  rw [← h2] at h3
  have h4 := shl1_p (y := sg) 4 rfl (by omega) (by omega) (by decide)
  rw [← h2] at h4
  exact En_ret (v := some (.int z1)) rfl rfl rfl ⟨hσ0, hF0, z1, rfl, ⟨by omega, by omega, (by omega)⟩⟩
/-- DoorSchool$Plan.isDoor(I)Z -/
abbrev P_47x (σ0 : SG) (s : Nat) (a : Int32) (n : Int32) : PO := fun v σ => WT σ ∧ Fr [] σ0 σ ∧ ∃ ret : Int32, v = some (.int ret) ∧ -ret.toInt ≤ 0 ∧ ret.toInt - 1 ≤ 0 ∧ Imp (-ret.toInt + 1 ≤ 0) (-a.toInt ≤ 0 ∧ a.toInt - n.toInt + 1 ≤ 0) ∧ Imp (-a.toInt ≤ 0 ∧ a.toInt - n.toInt + 1 ≤ 0) (-ret.toInt + 1 ≤ 0) ∧ Imp (ret.toInt ≤ 0 ∧ -ret.toInt ≤ 0) (-a.toInt - 2147483648 ≤ 0 ∧ a.toInt - 2147483647 ≤ 0) ∧ Imp (ret.toInt - 1 ≤ 0 ∧ -ret.toInt + 1 ≤ 0) (-a.toInt ≤ 0 ∧ a.toInt - 3 ≤ 0)
set_option maxRecDepth 10000 in
set_option maxHeartbeats 4000000 in
theorem c_47x (σ0 : SG) (hσ0 : WT σ0) (s : Nat) (hs : TG s = 18) (a : Int32) (n : Int32) (h_n : (σ0 s)[3]? = some (.int n)) : En 0 0 none mr_47 (P_47x σ0 s a n) 0 [(0, .ref s), (1, .int a)] [] σ0 := by
  obtain ⟨hl_n, hu_n⟩ := WT_int hσ0 (g := 18) hs (by decide +kernel) (l := 0) (u := 4) (by decide +kernel) h_n
  have := Int32.le_toInt a
  have := Int32.toInt_lt a
  have hF0 : Fr [] σ0 σ0 := Fr_rfl
  refine En_Ps 1 (pc' := 1) (lv' := [(0, .ref s), (1, .int a)]) (st' := [.int a]) rfl ?_
  refine En_iLt _ rfl rfl (fun h1 => ?_) (fun h1 => ?_)
  · refine En_Ps 1 (pc' := 17) (lv' := [(0, .ref s), (1, .int a)]) (st' := [.int ((Int32.ofInt 0))]) rfl ?_
    refine En_top (by decide : (Int32.ofInt 0).toInt = 0) (fun z2 h3 => ?_)
    exact En_ret (v := some (.int z2)) rfl rfl (retZ rfl rfl (by omega) (by omega)) ⟨hσ0, hF0, z2, rfl, ⟨by omega, by omega, fun _ => by omega, fun _ => by omega, fun _ => by omega, fun _ => by omega⟩⟩
  · refine En_Ps 2 (pc' := 6) (lv' := [(0, .ref s), (1, .int a)]) (st' := [.ref s, .int a]) rfl ?_
    refine En_getK (j := 3) h_n rfl rfl rfl hs (by decide +kernel) ?_
    refine En_icGe _ rfl rfl rfl (fun h4 => ?_) (fun h4 => ?_)
    · refine En_Ps 1 (pc' := 17) (lv' := [(0, .ref s), (1, .int a)]) (st' := [.int ((Int32.ofInt 0))]) rfl ?_
      refine En_top (by decide : (Int32.ofInt 0).toInt = 0) (fun z5 h6 => ?_)
      exact En_ret (v := some (.int z5)) rfl rfl (retZ rfl rfl (by omega) (by omega)) ⟨hσ0, hF0, z5, rfl, ⟨by omega, by omega, fun _ => by omega, fun _ => by omega, fun _ => by omega, fun _ => by omega⟩⟩
    · refine En_Ps 2 (pc' := 17) (lv' := [(0, .ref s), (1, .int a)]) (st' := [.int ((Int32.ofInt 1))]) rfl ?_
      refine En_top (by decide : (Int32.ofInt 1).toInt = 1) (fun z7 h8 => ?_)
      exact En_ret (v := some (.int z7)) rfl rfl (retZ rfl rfl (by omega) (by omega)) ⟨hσ0, hF0, z7, rfl, ⟨by omega, by omega, fun _ => by omega, fun _ => by omega, fun _ => by omega, fun _ => by omega⟩⟩
/-- DoorSchool$Plan.isKnock(I)Z -/
abbrev P_49x (σ0 : SG) (s : Nat) (a : Int32) (l : Int32) (sg : Int32) : PO := fun v σ => WT σ ∧ Fr [] σ0 σ ∧ ∃ ret : Int32, v = some (.int ret) ∧ -ret.toInt ≤ 0 ∧ ret.toInt - 1 ≤ 0 ∧ Imp (ret.toInt - 1 ≤ 0 ∧ -ret.toInt + 1 ≤ 0) (-a.toInt ≤ 0 ∧ a.toInt - 15 ≤ 0) ∧ ((ret.toInt = 1 ∧ 0 < l.toInt ∧ 0 ≤ a.toInt ∧ a.toInt < pI sg.toInt) ∨ (ret.toInt = 0 ∧ (l.toInt ≤ 0 ∨ a.toInt < 0 ∨ pI sg.toInt ≤ a.toInt)))
set_option maxRecDepth 10000 in
set_option maxHeartbeats 4000000 in
theorem c_49x (σ0 : SG) (hσ0 : WT σ0) (s : Nat) (hs : TG s = 18) (a : Int32) (l : Int32) (h_l : (σ0 s)[0]? = some (.int l)) (sg : Int32) (h_sg : (σ0 s)[1]? = some (.int sg)) (hp0 : -sg.toInt ≤ 0) : En 1 20 none mr_49 (P_49x σ0 s a l sg) 0 [(0, .ref s), (1, .int a)] [] σ0 := by
  obtain ⟨hl_l, hu_l⟩ := WT_int hσ0 (g := 18) hs (by decide +kernel) (l := 0) (u := 1601) (by decide +kernel) h_l
  obtain ⟨hl_sg, hu_sg⟩ := WT_int hσ0 (g := 18) hs (by decide +kernel) (l := (-1)) (u := 4) (by decide +kernel) h_sg
  have hF0 : Fr [] σ0 σ0 := Fr_rfl
  refine En_Ps 1 (pc' := 1) (lv' := [(0, .ref s), (1, .int a)]) (st' := [.ref s]) rfl ?_
  refine En_callV rfl rfl rfl rfl rfl rfl rfl rfl hs (by decide +kernel) rfl (c_43x σ0 hσ0 s hs l h_l) (by decide) (by decide) (fun v2 σ3 h1 => ?_)
  obtain ⟨h4, h5, z7, rfl, h6⟩ := h1
  have h8 := Fr_trans hF0 h5 (by decide +kernel)
  have h9 := Imp_m h6.2.2.1
  have h10 := Imp_m h6.2.2.2
  refine En_iEq _ rfl rfl (fun h11 => ?_) (fun h11 => ?_)
  · refine En_Ps 1 (pc' := 24) (lv' := [(0, .ref s), (1, .int a)]) (st' := [.int ((Int32.ofInt 0))]) rfl ?_
    refine En_top (by decide : (Int32.ofInt 0).toInt = 0) (fun z12 h13 => ?_)
    exact En_ret (v := some (.int z12)) rfl rfl (retZ rfl rfl (by omega) (by omega)) ⟨h4, h8, z12, rfl, ⟨by omega, by omega, fun _ => by omega, (by omega)⟩⟩
  · have h14 := Imp_m h6.2.2.1 (by omega)
    have h15 := Imp_m h6.2.2.2 (by omega)
    refine En_Ps 1 (pc' := 8) (lv' := [(0, .ref s), (1, .int a)]) (st' := [.int a]) rfl ?_
    refine En_iLt _ rfl rfl (fun h16 => ?_) (fun h16 => ?_)
    · refine En_Ps 1 (pc' := 24) (lv' := [(0, .ref s), (1, .int a)]) (st' := [.int ((Int32.ofInt 0))]) rfl ?_
      refine En_top (by decide : (Int32.ofInt 0).toInt = 0) (fun z17 h18 => ?_)
      exact En_ret (v := some (.int z17)) rfl rfl (retZ rfl rfl (by omega) (by omega)) ⟨h4, h8, z17, rfl, ⟨by omega, by omega, fun _ => by omega, (by omega)⟩⟩
    · refine En_Ps 2 (pc' := 13) (lv' := [(0, .ref s), (1, .int a)]) (st' := [.ref s, .int a]) rfl ?_
      refine En_callV rfl rfl rfl rfl rfl rfl rfl rfl hs (by decide +kernel) rfl (c_51x σ3 h4 s hs sg ((h5 _ _ (inW hs (by decide +kernel))).trans h_sg) (by omega)) (by decide) (by decide) (fun v20 σ21 h19 => ?_)
      obtain ⟨h22, h23, z25, rfl, h24⟩ := h19
      have h26 := h24.2.2
      have h27 := Fr_trans h8 h23 (by decide +kernel)
      have h28 := h26
      refine En_icGe _ rfl rfl rfl (fun h29 => ?_) (fun h29 => ?_)
      · refine En_Ps 1 (pc' := 24) (lv' := [(0, .ref s), (1, .int a)]) (st' := [.int ((Int32.ofInt 0))]) rfl ?_
        refine En_top (by decide : (Int32.ofInt 0).toInt = 0) (fun z30 h31 => ?_)
        exact En_ret (v := some (.int z30)) rfl rfl (retZ rfl rfl (by omega) (by omega)) ⟨h22, h27, z30, rfl, ⟨by omega, by omega, fun _ => by omega, (by omega)⟩⟩
      · refine En_Ps 2 (pc' := 24) (lv' := [(0, .ref s), (1, .int a)]) (st' := [.int ((Int32.ofInt 1))]) rfl ?_
        refine En_top (by decide : (Int32.ofInt 1).toInt = 1) (fun z32 h33 => ?_)
        exact En_ret (v := some (.int z32)) rfl rfl (retZ rfl rfl (by omega) (by omega)) ⟨h22, h27, z32, rfl, ⟨by omega, by omega, fun _ => by omega, (by omega)⟩⟩
/-- DoorSchool$Plan.isRule(II)Z -/
abbrev P_50x (σ0 : SG) (s : Nat) (a : Int32) (b : Int32) (l : Int32) (sg : Int32) : PO := fun v σ => WT σ ∧ Fr [] σ0 σ ∧ ∃ ret : Int32, v = some (.int ret) ∧ -ret.toInt ≤ 0 ∧ ret.toInt - 1 ≤ 0 ∧ Imp (ret.toInt - 1 ≤ 0 ∧ -ret.toInt + 1 ≤ 0) (-a.toInt ≤ 0 ∧ a.toInt - 15 ≤ 0 ∧ -b.toInt ≤ 0 ∧ b.toInt - 15 ≤ 0) ∧ ((ret.toInt = 1 ∧ 0 < l.toInt ∧ 0 ≤ a.toInt ∧ a.toInt < pI sg.toInt ∧ 0 ≤ b.toInt ∧ b.toInt ≤ a.toInt ∧ sbI b.toInt a.toInt = 1) ∨ (ret.toInt = 0 ∧ (l.toInt ≤ 0 ∨ a.toInt < 0 ∨ pI sg.toInt ≤ a.toInt ∨ b.toInt < 0 ∨ 15 < b.toInt ∨ sbI b.toInt a.toInt ≠ 1)))
set_option maxRecDepth 10000 in
set_option maxHeartbeats 4000000 in
theorem c_50x (σ0 : SG) (hσ0 : WT σ0) (s : Nat) (hs : TG s = 18) (a : Int32) (b : Int32) (l : Int32) (h_l : (σ0 s)[0]? = some (.int l)) (sg : Int32) (h_sg : (σ0 s)[1]? = some (.int sg)) (hp0 : -sg.toInt ≤ 0) : En 2 41 none mr_50 (P_50x σ0 s a b l sg) 0 [(0, .ref s), (1, .int a), (2, .int b)] [] σ0 := by
  obtain ⟨hl_l, hu_l⟩ := WT_int hσ0 (g := 18) hs (by decide +kernel) (l := 0) (u := 1601) (by decide +kernel) h_l
  obtain ⟨hl_sg, hu_sg⟩ := WT_int hσ0 (g := 18) hs (by decide +kernel) (l := (-1)) (u := 4) (by decide +kernel) h_sg
  have hF0 : Fr [] σ0 σ0 := Fr_rfl
  refine En_Ps 2 (pc' := 2) (lv' := [(0, .ref s), (1, .int a), (2, .int b)]) (st' := [.int a, .ref s]) rfl ?_
  refine En_callV rfl rfl rfl rfl rfl rfl rfl rfl hs (by decide +kernel) rfl (c_49x σ0 hσ0 s hs a l h_l sg h_sg (by omega)) (by decide) (by decide) (fun v2 σ3 h1 => ?_)
  obtain ⟨h4, h5, z7, rfl, h6⟩ := h1
  have h8 := h6.2.2.2
  have h9 := Fr_trans hF0 h5 (by decide +kernel)
  have h10 := Imp_m h6.2.2.1
  have h11 := h8
  refine En_iEq _ rfl rfl (fun h12 => ?_) (fun h12 => ?_)
  · refine En_Ps 1 (pc' := 21) (lv' := [(0, .ref s), (1, .int a), (2, .int b)]) (st' := [.int ((Int32.ofInt 0))]) rfl ?_
    refine En_top (by decide : (Int32.ofInt 0).toInt = 0) (fun z13 h14 => ?_)
    exact En_ret (v := some (.int z13)) rfl rfl (retZ rfl rfl (by omega) (by omega)) ⟨h4, h9, z13, rfl, ⟨by omega, by omega, fun _ => by omega, (by omega)⟩⟩
  · have h15 := Imp_m h6.2.2.1 (by omega)
    refine En_Ps 4 (pc' := 12) (lv' := [(0, .ref s), (1, .int a), (2, .int b)]) (st' := [.int ((a ^^^ ((Int32.ofInt (-1))))), .int b]) rfl ?_
    refine En_nam (fun z16 h17 => ?_)
    refine En_Ps 1 (pc' := 13) (lv' := [(0, .ref s), (1, .int a), (2, .int b)]) (st' := [.int ((b &&& z16))]) rfl ?_
    refine En_nam (fun z18 h19 => ?_)
    refine En_iNe _ rfl rfl (fun h20 => ?_) (fun h20 => ?_)
    · have := fun (q9 : 0 ≤ b.toInt) => sub_sbw h19 h17 rfl rfl q9 (by omega) (by omega)
      refine En_Ps 1 (pc' := 21) (lv' := [(0, .ref s), (1, .int a), (2, .int b)]) (st' := [.int ((Int32.ofInt 0))]) rfl ?_
      refine En_top (by decide : (Int32.ofInt 0).toInt = 0) (fun z21 h22 => ?_)
      exact En_ret (v := some (.int z21)) rfl rfl (retZ rfl rfl (by omega) (by omega)) ⟨h4, h9, z21, rfl, ⟨by omega, by omega, fun _ => by omega, (by omega)⟩⟩
    · obtain ⟨h23, h24⟩ := andn_zero h19 h17 h20 rfl rfl (by omega)
      have := sub_sbw h19 h17 rfl rfl (by omega) (by omega) (by omega)
      refine En_Ps 2 (pc' := 21) (lv' := [(0, .ref s), (1, .int a), (2, .int b)]) (st' := [.int ((Int32.ofInt 1))]) rfl ?_
      refine En_top (by decide : (Int32.ofInt 1).toInt = 1) (fun z25 h26 => ?_)
      exact En_ret (v := some (.int z25)) rfl rfl (retZ rfl rfl (by omega) (by omega)) ⟨h4, h9, z25, rfl, ⟨by omega, by omega, fun _ => by omega, (by omega)⟩⟩
/-- DoorSchool$Plan.modelOf(I)LDoorSchool$Door; -/
abbrev P_52x (σ0 : SG) (Wv : Int → Int) (s : Nat) (a : Int32) : PO := fun v σ => WT σ ∧ Fr [] σ0 σ ∧ ∃ ret : Nat, TG ret = 28 ∧ v = some (.ref ret) ∧ (ret = s + 10 + 4 * (rlW Wv a.toInt).toNat ∧ -1 ≤ Wv (13 + 4 * a.toInt))
set_option maxRecDepth 10000 in
set_option maxHeartbeats 4000000 in
theorem c_52x {Wv : Int → Int} (σ0 : SG) (hσ0 : WT σ0) (s : Nat) (hs : TG s = 18) (a : Int32) (hl_a : 0 ≤ a.toInt) (hu_a : a.toInt ≤ 3) (hP : PLA s) (hX : FXP σ0 s) (hK : KN σ0 s Wv (act Wv)) (hd : a.toInt < Wv 2) : En 0 0 none mr_52 (P_52x σ0 Wv s a) 0 [(0, .ref s), (1, .int a)] [] σ0 := by
  have hF0 : Fr [] σ0 σ0 := Fr_rfl
  refine En_Ps 1 (pc' := 1) (lv' := [(0, .ref s), (1, .int a)]) (st' := [.ref s]) rfl ?_
  refine En_getR (j := 4) (g' := 19) (u := 0) rfl rfl rfl hs (by decide +kernel) hσ0 (by decide +kernel) (fun a2 h1 ha2 => ?_)
  have t3 : a2 = s + 1 := ref_uniq h1 (FXP_fr hP hX hF0 (by decide +kernel)).1
  refine En_Ps 1 (pc' := 5) (lv' := [(0, .ref s), (1, .int a)]) (st' := [.int a, .ref a2]) rfl ?_
  refine En_aald (g' := 28) (u := 0) rfl rfl ha2 (by decide +kernel) hσ0 (by omega) (lnI (by decide +kernel : LN _ = 4) (by omega)) (FTsgl (by decide +kernel)) (fun a5 h4 ha5 => ?_)
  have t6 : a5 = s + 10 + 4 * (a.toInt).toNat := DRe (d := a.toInt) (FXP_fr hP hX hF0 (by decide +kernel)) t3 h4 (by omega) (by omega)
  have t7 := lc_d (d := a.toInt) (by omega) (by omega)
  refine En_getI (j := 3) (l := (-1)) (u := 3) rfl rfl rfl ha5 (by decide +kernel) hσ0 (by decide +kernel) (fun z9 h8 h10 h11 => ?_)
  have t12 : Wv (13 + 4 * (a.toInt)) = z9.toInt := KN_v hK (Or.inr (Or.inl ⟨by omega, by omega, by omega⟩)) (by omega) (by omega) (by omega) (by omega) h8
  refine En_Ps 3 (pc' := 12) (lv' := [(2, .int z9), (0, .ref s), (1, .int a)]) (st' := [.int ((Int32.ofInt (-1))), .int z9]) rfl ?_
  refine En_icNe _ rfl (by decide : (Int32.ofInt (-1)).toInt = -1) rfl (fun h13 => ?_) (fun h13 => ?_)
  · refine En_Ps 1 (pc' := 25) (lv' := [(2, .int z9), (0, .ref s), (1, .int a)]) (st' := [.ref s]) rfl ?_
    refine En_getK (j := 4) h1 rfl rfl rfl hs (by decide +kernel) ?_
    refine En_Ps 1 (pc' := 29) (lv' := [(2, .int z9), (0, .ref s), (1, .int a)]) (st' := [.int z9, .ref a2]) rfl ?_
    refine En_aald (g' := 28) (u := 0) rfl rfl ha2 (by decide +kernel) hσ0 (by omega) (lnI (by decide +kernel : LN _ = 4) (by omega)) (FTsgl (by decide +kernel)) (fun a15 h14 ha15 => ?_)
    have t16 : a15 = s + 10 + 4 * (z9.toInt).toNat := DRe (d := z9.toInt) (FXP_fr hP hX hF0 (by decide +kernel)) t3 h14 (by omega) (by omega)
    have t17 := lc_d (d := z9.toInt) (by omega) (by omega)
    exact En_ret (v := some (.ref a15)) rfl rfl rfl ⟨hσ0, hF0, a15, ha15, rfl, ⟨by rw [rlW_c t12 (by omega)]; exact t16, by omega⟩⟩
  · refine En_Ps 1 (pc' := 16) (lv' := [(2, .int z9), (0, .ref s), (1, .int a)]) (st' := [.ref s]) rfl ?_
    refine En_getK (j := 4) h1 rfl rfl rfl hs (by decide +kernel) ?_
    refine En_Ps 1 (pc' := 20) (lv' := [(2, .int z9), (0, .ref s), (1, .int a)]) (st' := [.int a, .ref a2]) rfl ?_
    refine En_aald (g' := 28) (u := 0) rfl rfl ha2 (by decide +kernel) hσ0 (by omega) (lnI (by decide +kernel : LN _ = 4) (by omega)) (FTsgl (by decide +kernel)) (fun a19 h18 ha19 => ?_)
    have t20 : a19 = s + 10 + 4 * (a.toInt).toNat := DRe (d := a.toInt) (FXP_fr hP hX hF0 (by decide +kernel)) t3 h18 (by omega) (by omega)
    have t21 := lc_d (d := a.toInt) (by omega) (by omega)
    refine En_Ps 1 (pc' := 30) (lv' := [(2, .int z9), (0, .ref s), (1, .int a)]) (st' := [.ref a19]) rfl ?_
    exact En_ret (v := some (.ref a19)) rfl rfl rfl ⟨hσ0, hF0, a19, ha19, rfl, ⟨by rw [rlW_s t12 (by omega)]; exact t20, by omega⟩⟩
/-- DoorSchool$Plan.takeFrom(LDoorSchool$Plan;)V -/
abbrev P_53ax (σ0 : SG) (s : Nat) (a : Nat) (sg : Int32) : PO := fun v σ => WT σ ∧ Fr [(20, 2), (21, 0), (22, 0), (23, 0), (24, 0), (25, 0), (26, 0), (27, 0), (28, 1), (28, 2), (28, 3), (31, 0), (31, 1), (31, 2), (31, 3), (31, 6), (31, 7), (31, 8), (31, 11), (31, 14)] σ0 σ ∧ v = none ∧ CPD σ0 σ s a (fun _ => True)
set_option maxRecDepth 10000 in
set_option maxHeartbeats 4000000 in
theorem c_53ax (σ0 : SG) (hσ0 : WT σ0) (s : Nat) (hs : TG s = 31) (a : Nat) (ha : TG a = 18) (sg : Int32) (h_sg : (σ0 a)[1]? = some (.int sg)) (hp0 : -sg.toInt ≤ 0) (hS : SEP s a) (hX : FXP σ0 s) (hY : FXP σ0 a) : En 3 102 none mr_53 (P_53ax σ0 s a sg) 0 [(0, .ref s), (1, .ref a)] [] σ0 := by
  obtain ⟨hl_sg, hu_sg⟩ := WT_int hσ0 (g := 18) ha (by decide +kernel) (l := (-1)) (u := 4) (by decide +kernel) h_sg
  have hF0 : Fr [(20, 2), (21, 0), (22, 0), (23, 0), (24, 0), (25, 0), (26, 0), (27, 0), (28, 1), (28, 2), (28, 3), (31, 0), (31, 1), (31, 2), (31, 3), (31, 6), (31, 7), (31, 8), (31, 11), (31, 14)] σ0 σ0 := Fr_rfl
  have sep := SEP_d hS
  refine En_Ps 2 (pc' := 2) (lv' := [(0, .ref s), (1, .ref a)]) (st' := [.ref a, .ref s]) rfl ?_
  refine En_getI (j := 0) (l := 0) (u := 1601) rfl rfl rfl ha (by decide +kernel) hσ0 (by decide +kernel) (fun z2 h1 h3 h4 => ?_)
  refine En_put (j := 0) rfl rfl rfl hs (by decide +kernel) rfl (vI (l := 0) (u := 1601) (by decide +kernel) rfl (by omega) (by omega)) hσ0 hF0 (by decide +kernel) (fun σ5 h6 h7 h8 h9 => ?_)
  have c10 := CPD_put (i0 := 7) (CPD_0 (σ := σ0)) hS h1 h8 h9 (by decide) (by decide) (by decide) (by decide)
  refine En_Ps 2 (pc' := 10) (lv' := [(0, .ref s), (1, .ref a)]) (st' := [.ref a, .ref s]) rfl ?_
  refine En_getK (j := 1) ((h9 _ _ (Or.inr (by decide))).trans h_sg) rfl rfl rfl ha (by decide +kernel) ?_
  refine En_put (j := 1) rfl rfl rfl hs (by decide +kernel) rfl (vI (l := 0) (u := 4) (by decide +kernel) rfl (by omega) (by omega)) h6 h7 (by decide +kernel) (fun σ11 h12 h13 h14 h15 => ?_)
  have c16 := CPD_put (i0 := 0) c10 hS ((h9 _ _ (Or.inr (by decide))).trans h_sg) h14 h15 (by decide) (by decide) (by decide) (by decide)
  refine En_Ps 2 (pc' := 18) (lv' := [(0, .ref s), (1, .ref a)]) (st' := [.ref a, .ref s]) rfl ?_
  refine En_getI (j := 2) (l := (-1)) (u := 3) rfl rfl rfl ha (by decide +kernel) h12 (by decide +kernel) (fun z18 h17 h19 h20 => ?_)
  refine En_put (j := 2) rfl rfl rfl hs (by decide +kernel) rfl (vI (l := (-1)) (u := 3) (by decide +kernel) rfl (by omega) (by omega)) h12 h13 (by decide +kernel) (fun σ21 h22 h23 h24 h25 => ?_)
  have c26 := CPD_put (i0 := 1) c16 hS h17 h24 h25 (by decide) (by decide) (by decide) (by decide)
  refine En_Ps 2 (pc' := 26) (lv' := [(0, .ref s), (1, .ref a)]) (st' := [.ref a, .ref s]) rfl ?_
  refine En_getI (j := 3) (l := 0) (u := 4) rfl rfl rfl ha (by decide +kernel) h22 (by decide +kernel) (fun z28 h27 h29 h30 => ?_)
  refine En_put (j := 3) rfl rfl rfl hs (by decide +kernel) rfl (vI (l := 0) (u := 4) (by decide +kernel) rfl (by omega) (by omega)) h22 h23 (by decide +kernel) (fun σ31 h32 h33 h34 h35 => ?_)
  have c36 := CPD_put (i0 := 2) c26 hS h27 h34 h35 (by decide) (by decide) (by decide) (by decide)
  refine En_Ps 2 (pc' := 34) (lv' := [(2, .int ((Int32.ofInt 0))), (0, .ref s), (1, .ref a)]) (st' := []) rfl ?_
  have key34 : ∀ (n34 : Nat) (σ38 : SG) (y37 : Int32), WT σ38 → Fr [(20, 2), (21, 0), (22, 0), (23, 0), (24, 0), (25, 0), (26, 0), (27, 0), (28, 1), (28, 2), (28, 3), (31, 0), (31, 1), (31, 2), (31, 3), (31, 6), (31, 7), (31, 8), (31, 11), (31, 14)] σ0 σ38 → (σ38 a)[1]? = some (.int sg) → (σ38 a)[0]? = some (.int z2) → (σ38 s)[0]? = some (.int z2) → (σ38 s)[1]? = some (.int sg) → (σ38 a)[2]? = some (.int z18) → (σ38 s)[2]? = some (.int z18) → (σ38 a)[3]? = some (.int z28) → (σ38 s)[3]? = some (.int z28) → 0 ≤ y37.toInt → y37.toInt ≤ 4 → -y37.toInt + 4 < (n34 : Int) → CPL σ0 σ38 s a y37.toInt → En 3 102 none mr_53 (P_53ax σ0 s a sg) 34 [(0, .ref s), (1, .ref a), (2, .int y37)] [] σ38 := by
    intro n34
    induction n34 with
    | zero =>
      intro σ38 y37 h39 h40 h41 h42 h43 h44 h45 h46 h47 h48 h49 h50 h51 h52
      exfalso; omega
    | succ n34 ih34 =>
      intro σ38 y37 h39 h40 h41 h42 h43 h44 h45 h46 h47 h48 h49 h50 h51 h52
      refine En_Ps 2 (pc' := 36) (lv' := [(0, .ref s), (1, .ref a), (2, .int y37)]) (st' := [.int ((Int32.ofInt 4)), .int y37]) rfl ?_
      refine En_icGe _ rfl (by decide : (Int32.ofInt 4).toInt = 4) rfl (fun h53 => ?_) (fun h53 => ?_)
      · have c54 := CPL_4 h52 (by omega)
        refine En_Ps 1 (pc' := 61) (lv' := [(0, .ref s), (1, .ref a), (2, .int y37)]) (st' := [.ref s]) rfl ?_
        refine En_getR (j := 5) (g' := 20) (u := 0) rfl rfl rfl hs (by decide +kernel) h39 (by decide +kernel) (fun a56 h55 ha56 => ?_)
        have t57 : a56 = s + 2 := ref_uniq h55 (FXI_fr (PLI_of hs) hX h40 (by decide +kernel)).2.1
        refine En_Ps 1 (pc' := 65) (lv' := [(0, .ref s), (1, .ref a), (2, .int y37)]) (st' := [.ref a, .ref a56]) rfl ?_
        refine En_getR (j := 5) (g' := 20) (u := 0) rfl rfl rfl ha (by decide +kernel) h39 (by decide +kernel) (fun a59 h58 ha59 => ?_)
        have t60 : a59 = a + 2 := ref_uniq h58 (FXP_fr (PLA_of ha) hY h40 (by decide +kernel)).2.1
        obtain ⟨a62, h61, ha62⟩ := WT_peekR (g := 20) (j := 0) (g' := 21) (u := 0) h39 ha56 (by decide +kernel) (by decide +kernel)
        have t63 : a62 = s + 3 := EKk (FXI_fr (PLI_of hs) hX h40 (by decide +kernel)) t57 h61
        obtain ⟨a65, h64, ha65⟩ := WT_peekR (g := 20) (j := 1) (g' := 22) (u := 0) h39 ha56 (by decide +kernel) (by decide +kernel)
        have t66 : a65 = s + 4 := EKo (FXI_fr (PLI_of hs) hX h40 (by decide +kernel)) t57 h64
        obtain ⟨a68, h67, ha68⟩ := WT_peekR (g := 20) (j := 0) (g' := 21) (u := 0) h39 ha59 (by decide +kernel) (by decide +kernel)
        have t69 : a68 = a + 3 := EKk (FXP_fr (PLA_of ha) hY h40 (by decide +kernel)) t60 h67
        obtain ⟨a71, h70, ha71⟩ := WT_peekR (g := 20) (j := 1) (g' := 22) (u := 0) h39 ha59 (by decide +kernel) (by decide +kernel)
        have t72 : a71 = a + 4 := EKo (FXP_fr (PLA_of ha) hY h40 (by decide +kernel)) t60 h70
        obtain ⟨z74, h73, h75, h76⟩ := WT_peekI h39 ha59 (by decide +kernel : FT 20 2 = (0, 0, 13)) (by decide +kernel)
        refine En_callV rfl rfl rfl rfl rfl rfl rfl rfl ha56 (by decide +kernel) rfl (c_40x σ38 h39 a56 ha56 a59 ha59 a62 ha62 h61 a65 ha65 h64 a68 ha68 h67 a71 ha71 h70 z74 h73 (by omega) (by omega) (by omega)) (by decide) (by decide) (fun v78 σ79 h77 => ?_)
        obtain ⟨h80, h81, rfl, h82⟩ := h77
        have h83 := h82
        have h84 := Fr_trans h40 h81 (by decide +kernel)
        have c85 := CPD_ex c54 hS h83 (by omega) (by omega) (by omega) (by omega) (by omega) (by omega)
        refine En_Ps 2 (pc' := 73) (lv' := [(0, .ref s), (1, .ref a), (2, .int y37)]) (st' := [.ref a, .ref s]) rfl ?_
        refine En_getI (j := 6) (l := 0) (u := 15) rfl rfl rfl ha (by decide +kernel) h80 (by decide +kernel) (fun z87 h86 h88 h89 => ?_)
        refine En_put (j := 6) rfl rfl rfl hs (by decide +kernel) rfl (vI (l := 0) (u := 15) (by decide +kernel) rfl (by omega) (by omega)) h80 h84 (by decide +kernel) (fun σ90 h91 h92 h93 h94 => ?_)
        have c95 := CPD_put (i0 := 8) c85 hS h86 h93 h94 (by decide) (by decide) (by decide) (by decide)
        refine En_Ps 2 (pc' := 81) (lv' := [(0, .ref s), (1, .ref a), (2, .int y37)]) (st' := [.ref a, .ref s]) rfl ?_
        refine En_getI (j := 7) (l := 0) (u := 15) rfl rfl rfl ha (by decide +kernel) h91 (by decide +kernel) (fun z97 h96 h98 h99 => ?_)
        refine En_put (j := 7) rfl rfl rfl hs (by decide +kernel) rfl (vI (l := 0) (u := 15) (by decide +kernel) rfl (by omega) (by omega)) h91 h92 (by decide +kernel) (fun σ100 h101 h102 h103 h104 => ?_)
        have c105 := CPD_put (i0 := 9) c95 hS h96 h103 h104 (by decide) (by decide) (by decide) (by decide)
        refine En_Ps 2 (pc' := 89) (lv' := [(0, .ref s), (1, .ref a), (2, .int y37)]) (st' := [.ref a, .ref s]) rfl ?_
        refine En_getI (j := 8) (l := 0) (u := 4) rfl rfl rfl ha (by decide +kernel) h101 (by decide +kernel) (fun z107 h106 h108 h109 => ?_)
        refine En_put (j := 8) rfl rfl rfl hs (by decide +kernel) rfl (vI (l := 0) (u := 4) (by decide +kernel) rfl (by omega) (by omega)) h101 h102 (by decide +kernel) (fun σ110 h111 h112 h113 h114 => ?_)
        have c115 := CPD_put (i0 := 4) c105 hS h106 h113 h114 (by decide) (by decide) (by decide) (by decide)
        refine En_Ps 1 (pc' := 96) (lv' := [(0, .ref s), (1, .ref a), (2, .int y37)]) (st' := [.ref a]) rfl ?_
        refine En_getR (j := 9) (g' := 23) (u := 0) rfl rfl rfl ha (by decide +kernel) h111 (by decide +kernel) (fun a117 h116 ha117 => ?_)
        have t118 : a117 = a + 5 := ref_uniq h116 (FXP_fr (PLA_of ha) hY h112 (by decide +kernel)).2.2.1
        refine En_Ps 2 (pc' := 101) (lv' := [(0, .ref s), (1, .ref a), (2, .int y37)]) (st' := [.ref s, .int ((Int32.ofInt 0)), .ref a117]) rfl ?_
        refine En_getR (j := 9) (g' := 23) (u := 0) rfl rfl rfl hs (by decide +kernel) h111 (by decide +kernel) (fun a120 h119 ha120 => ?_)
        have t121 : a120 = s + 5 := ref_uniq h119 (FXI_fr (PLI_of hs) hX h112 (by decide +kernel)).2.2.1
        refine En_Ps 2 (pc' := 106) (lv' := [(0, .ref s), (1, .ref a), (2, .int y37)]) (st' := [.int ((Int32.ofInt 4)), .int ((Int32.ofInt 0)), .ref a120, .int ((Int32.ofInt 0)), .ref a117]) rfl ?_
        refine En_copyX (n0 := 4) (n1 := 4) (by decide : (Int32.ofInt 4).toInt = 4) (by decide : (Int32.ofInt 0).toInt = 0) (by decide : (Int32.ofInt 0).toInt = 0) rfl rfl rfl rfl ha117 ha120 (by decide +kernel) (by decide +kernel) (by decide +kernel) (by decide +kernel) (by decide +kernel) (by omega) (by omega) (by omega) (by omega) (by omega) h111 h112 (by decide +kernel) (fun σ122 h123 h124 h125 h126 => ?_)
        have h127 := ROW_mk (n := 4) h125 h126 (by decide) (by decide) (by decide)
        have c128 := CPD_row c115 hS h127 t121 t118 (by decide) (by decide +kernel)
        refine En_Ps 1 (pc' := 110) (lv' := [(0, .ref s), (1, .ref a), (2, .int y37)]) (st' := [.ref a]) rfl ?_
        refine En_getR (j := 10) (g' := 24) (u := 0) rfl rfl rfl ha (by decide +kernel) h123 (by decide +kernel) (fun a130 h129 ha130 => ?_)
        have t131 : a130 = a + 6 := ref_uniq h129 (FXP_fr (PLA_of ha) hY h124 (by decide +kernel)).2.2.2.1
        refine En_Ps 2 (pc' := 115) (lv' := [(0, .ref s), (1, .ref a), (2, .int y37)]) (st' := [.ref s, .int ((Int32.ofInt 0)), .ref a130]) rfl ?_
        refine En_getR (j := 10) (g' := 24) (u := 0) rfl rfl rfl hs (by decide +kernel) h123 (by decide +kernel) (fun a133 h132 ha133 => ?_)
        have t134 : a133 = s + 6 := ref_uniq h132 (FXI_fr (PLI_of hs) hX h124 (by decide +kernel)).2.2.2.1
        refine En_Ps 2 (pc' := 120) (lv' := [(0, .ref s), (1, .ref a), (2, .int y37)]) (st' := [.int ((Int32.ofInt 4)), .int ((Int32.ofInt 0)), .ref a133, .int ((Int32.ofInt 0)), .ref a130]) rfl ?_
        refine En_copyX (n0 := 4) (n1 := 4) (by decide : (Int32.ofInt 4).toInt = 4) (by decide : (Int32.ofInt 0).toInt = 0) (by decide : (Int32.ofInt 0).toInt = 0) rfl rfl rfl rfl ha130 ha133 (by decide +kernel) (by decide +kernel) (by decide +kernel) (by decide +kernel) (by decide +kernel) (by omega) (by omega) (by omega) (by omega) (by omega) h123 h124 (by decide +kernel) (fun σ135 h136 h137 h138 h139 => ?_)
        have h140 := ROW_mk (n := 4) h138 h139 (by decide) (by decide) (by decide)
        have c141 := CPD_row c128 hS h140 t134 t131 (by decide) (by decide +kernel)
        refine En_Ps 2 (pc' := 125) (lv' := [(0, .ref s), (1, .ref a), (2, .int y37)]) (st' := [.ref a, .ref s]) rfl ?_
        refine En_getI (j := 11) (l := 0) (u := 6) rfl rfl rfl ha (by decide +kernel) h136 (by decide +kernel) (fun z143 h142 h144 h145 => ?_)
        refine En_put (j := 11) rfl rfl rfl hs (by decide +kernel) rfl (vI (l := 0) (u := 6) (by decide +kernel) rfl (by omega) (by omega)) h136 h137 (by decide +kernel) (fun σ146 h147 h148 h149 h150 => ?_)
        have c151 := CPD_put (i0 := 5) c141 hS h142 h149 h150 (by decide) (by decide) (by decide) (by decide)
        refine En_Ps 1 (pc' := 132) (lv' := [(0, .ref s), (1, .ref a), (2, .int y37)]) (st' := [.ref a]) rfl ?_
        refine En_getR (j := 12) (g' := 25) (u := 0) rfl rfl rfl ha (by decide +kernel) h147 (by decide +kernel) (fun a153 h152 ha153 => ?_)
        have t154 : a153 = a + 7 := ref_uniq h152 (FXP_fr (PLA_of ha) hY h148 (by decide +kernel)).2.2.2.2.1
        refine En_Ps 2 (pc' := 137) (lv' := [(0, .ref s), (1, .ref a), (2, .int y37)]) (st' := [.ref s, .int ((Int32.ofInt 0)), .ref a153]) rfl ?_
        refine En_getR (j := 12) (g' := 25) (u := 0) rfl rfl rfl hs (by decide +kernel) h147 (by decide +kernel) (fun a156 h155 ha156 => ?_)
        have t157 : a156 = s + 7 := ref_uniq h155 (FXI_fr (PLI_of hs) hX h148 (by decide +kernel)).2.2.2.2.1
        refine En_Ps 2 (pc' := 143) (lv' := [(0, .ref s), (1, .ref a), (2, .int y37)]) (st' := [.int (((Int8.ofInt 6).toInt32)), .int ((Int32.ofInt 0)), .ref a156, .int ((Int32.ofInt 0)), .ref a153]) rfl ?_
        refine En_copyX (n0 := 6) (n1 := 6) (by decide : ((Int8.ofInt 6).toInt32).toInt = 6) (by decide : (Int32.ofInt 0).toInt = 0) (by decide : (Int32.ofInt 0).toInt = 0) rfl rfl rfl rfl ha153 ha156 (by decide +kernel) (by decide +kernel) (by decide +kernel) (by decide +kernel) (by decide +kernel) (by omega) (by omega) (by omega) (by omega) (by omega) h147 h148 (by decide +kernel) (fun σ158 h159 h160 h161 h162 => ?_)
        have h163 := ROW_mk (n := 6) h161 h162 (by decide) (by decide) (by decide)
        have c164 := CPD_row c151 hS h163 t157 t154 (by decide) (by decide +kernel)
        refine En_Ps 1 (pc' := 147) (lv' := [(0, .ref s), (1, .ref a), (2, .int y37)]) (st' := [.ref a]) rfl ?_
        refine En_getR (j := 13) (g' := 26) (u := 0) rfl rfl rfl ha (by decide +kernel) h159 (by decide +kernel) (fun a166 h165 ha166 => ?_)
        have t167 : a166 = a + 8 := ref_uniq h165 (FXP_fr (PLA_of ha) hY h160 (by decide +kernel)).2.2.2.2.2.1
        refine En_Ps 2 (pc' := 152) (lv' := [(0, .ref s), (1, .ref a), (2, .int y37)]) (st' := [.ref s, .int ((Int32.ofInt 0)), .ref a166]) rfl ?_
        refine En_getR (j := 13) (g' := 26) (u := 0) rfl rfl rfl hs (by decide +kernel) h159 (by decide +kernel) (fun a169 h168 ha169 => ?_)
        have t170 : a169 = s + 8 := ref_uniq h168 (FXI_fr (PLI_of hs) hX h160 (by decide +kernel)).2.2.2.2.2.1
        refine En_Ps 2 (pc' := 158) (lv' := [(0, .ref s), (1, .ref a), (2, .int y37)]) (st' := [.int (((Int8.ofInt 6).toInt32)), .int ((Int32.ofInt 0)), .ref a169, .int ((Int32.ofInt 0)), .ref a166]) rfl ?_
        refine En_copyX (n0 := 6) (n1 := 6) (by decide : ((Int8.ofInt 6).toInt32).toInt = 6) (by decide : (Int32.ofInt 0).toInt = 0) (by decide : (Int32.ofInt 0).toInt = 0) rfl rfl rfl rfl ha166 ha169 (by decide +kernel) (by decide +kernel) (by decide +kernel) (by decide +kernel) (by decide +kernel) (by omega) (by omega) (by omega) (by omega) (by omega) h159 h160 (by decide +kernel) (fun σ171 h172 h173 h174 h175 => ?_)
        have h176 := ROW_mk (n := 6) h174 h175 (by decide) (by decide) (by decide)
        have c177 := CPD_row c164 hS h176 t170 t167 (by decide) (by decide +kernel)
        refine En_Ps 2 (pc' := 163) (lv' := [(0, .ref s), (1, .ref a), (2, .int y37)]) (st' := [.ref a, .ref s]) rfl ?_
        refine En_getI (j := 14) (l := 0) (u := 60) rfl rfl rfl ha (by decide +kernel) h172 (by decide +kernel) (fun z179 h178 h180 h181 => ?_)
        refine En_put (j := 14) rfl rfl rfl hs (by decide +kernel) rfl (vI (l := 0) (u := 60) (by decide +kernel) rfl (by omega) (by omega)) h172 h173 (by decide +kernel) (fun σ182 h183 h184 h185 h186 => ?_)
        have c187 := CPD_put (i0 := 6) c177 hS h178 h185 h186 (by decide) (by decide) (by decide) (by decide)
        refine En_Ps 1 (pc' := 170) (lv' := [(0, .ref s), (1, .ref a), (2, .int y37)]) (st' := [.ref a]) rfl ?_
        refine En_getR (j := 15) (g' := 27) (u := 0) rfl rfl rfl ha (by decide +kernel) h183 (by decide +kernel) (fun a189 h188 ha189 => ?_)
        have t190 : a189 = a + 9 := ref_uniq h188 (FXP_fr (PLA_of ha) hY h184 (by decide +kernel)).2.2.2.2.2.2.1
        refine En_Ps 2 (pc' := 175) (lv' := [(0, .ref s), (1, .ref a), (2, .int y37)]) (st' := [.ref s, .int ((Int32.ofInt 0)), .ref a189]) rfl ?_
        refine En_getR (j := 15) (g' := 27) (u := 0) rfl rfl rfl hs (by decide +kernel) h183 (by decide +kernel) (fun a192 h191 ha192 => ?_)
        have t193 : a192 = s + 9 := ref_uniq h191 (FXI_fr (PLI_of hs) hX h184 (by decide +kernel)).2.2.2.2.2.2.1
        refine En_Ps 2 (pc' := 181) (lv' := [(0, .ref s), (1, .ref a), (2, .int y37)]) (st' := [.int (((Int8.ofInt 60).toInt32)), .int ((Int32.ofInt 0)), .ref a192, .int ((Int32.ofInt 0)), .ref a189]) rfl ?_
        refine En_copyX (n0 := 60) (n1 := 60) (by decide : ((Int8.ofInt 60).toInt32).toInt = 60) (by decide : (Int32.ofInt 0).toInt = 0) (by decide : (Int32.ofInt 0).toInt = 0) rfl rfl rfl rfl ha189 ha192 (by decide +kernel) (by decide +kernel) (by decide +kernel) (by decide +kernel) (by decide +kernel) (by omega) (by omega) (by omega) (by omega) (by omega) h183 h184 (by decide +kernel) (fun σ194 h195 h196 h197 h198 => ?_)
        have h199 := ROW_mk (n := 60) h197 h198 (by decide) (by decide) (by decide)
        have c200 := CPD_row c187 hS h199 t193 t190 (by decide) (by decide +kernel)
        exact En_ret (v := none) rfl rfl rfl ⟨h195, h196, rfl, CPD_all c200⟩
      · refine En_Ps 1 (pc' := 40) (lv' := [(0, .ref s), (1, .ref a), (2, .int y37)]) (st' := [.ref s]) rfl ?_
        refine En_getR (j := 4) (g' := 19) (u := 0) rfl rfl rfl hs (by decide +kernel) h39 (by decide +kernel) (fun a202 h201 ha202 => ?_)
        have t203 : a202 = s + 1 := ref_uniq h201 (FXI_fr (PLI_of hs) hX h40 (by decide +kernel)).1
        refine En_Ps 1 (pc' := 44) (lv' := [(0, .ref s), (1, .ref a), (2, .int y37)]) (st' := [.int y37, .ref a202]) rfl ?_
        refine En_aald (g' := 28) (u := 0) rfl rfl ha202 (by decide +kernel) h39 (by omega) (lnI (by decide +kernel : LN _ = 4) (by omega)) (FTsgl (by decide +kernel)) (fun a205 h204 ha205 => ?_)
        have t206 : a205 = s + 10 + 4 * (y37.toInt).toNat := DRe (d := y37.toInt) (FXI_fr (PLI_of hs) hX h40 (by decide +kernel)) t203 h204 (by omega) (by omega)
        have t207 := lc_d (d := y37.toInt) (by omega) (by omega)
        refine En_Ps 1 (pc' := 46) (lv' := [(0, .ref s), (1, .ref a), (2, .int y37)]) (st' := [.ref a, .ref a205]) rfl ?_
        refine En_getR (j := 4) (g' := 19) (u := 0) rfl rfl rfl ha (by decide +kernel) h39 (by decide +kernel) (fun a209 h208 ha209 => ?_)
        have t210 : a209 = a + 1 := ref_uniq h208 (FXP_fr (PLA_of ha) hY h40 (by decide +kernel)).1
        refine En_Ps 1 (pc' := 50) (lv' := [(0, .ref s), (1, .ref a), (2, .int y37)]) (st' := [.int y37, .ref a209, .ref a205]) rfl ?_
        refine En_aald (g' := 28) (u := 0) rfl rfl ha209 (by decide +kernel) h39 (by omega) (lnI (by decide +kernel : LN _ = 4) (by omega)) (FTsgl (by decide +kernel)) (fun a212 h211 ha212 => ?_)
        have t213 : a212 = a + 10 + 4 * (y37.toInt).toNat := DRe (d := y37.toInt) (FXP_fr (PLA_of ha) hY h40 (by decide +kernel)) t210 h211 (by omega) (by omega)
        have t214 := lc_d (d := y37.toInt) (by omega) (by omega)
        obtain ⟨a216, h215, ha216⟩ := WT_peekR (g := 28) (j := 0) (g' := 20) (u := 0) h39 ha205 (by decide +kernel) (by decide +kernel)
        have t217 : a216 = s + 11 + 4 * (y37.toInt).toNat := DLc (d := y37.toInt) (FXI_fr (PLI_of hs) hX h40 (by decide +kernel)) t206 h215 (by omega) (by omega)
        obtain ⟨a219, h218, ha219⟩ := WT_peekR (g := 20) (j := 0) (g' := 21) (u := 0) h39 ha216 (by decide +kernel) (by decide +kernel)
        have t220 : a219 = s + 12 + 4 * (y37.toInt).toNat := DKk (d := y37.toInt) (FXI_fr (PLI_of hs) hX h40 (by decide +kernel)) t217 h218 (by omega) (by omega)
        obtain ⟨a222, h221, ha222⟩ := WT_peekR (g := 20) (j := 1) (g' := 22) (u := 0) h39 ha216 (by decide +kernel) (by decide +kernel)
        have t223 : a222 = s + 13 + 4 * (y37.toInt).toNat := DKo (d := y37.toInt) (FXI_fr (PLI_of hs) hX h40 (by decide +kernel)) t217 h221 (by omega) (by omega)
        obtain ⟨a225, h224, ha225⟩ := WT_peekR (g := 28) (j := 0) (g' := 20) (u := 0) h39 ha212 (by decide +kernel) (by decide +kernel)
        have t226 : a225 = a + 11 + 4 * (y37.toInt).toNat := DLc (d := y37.toInt) (FXP_fr (PLA_of ha) hY h40 (by decide +kernel)) t213 h224 (by omega) (by omega)
        obtain ⟨a228, h227, ha228⟩ := WT_peekR (g := 20) (j := 0) (g' := 21) (u := 0) h39 ha225 (by decide +kernel) (by decide +kernel)
        have t229 : a228 = a + 12 + 4 * (y37.toInt).toNat := DKk (d := y37.toInt) (FXP_fr (PLA_of ha) hY h40 (by decide +kernel)) t226 h227 (by omega) (by omega)
        obtain ⟨a231, h230, ha231⟩ := WT_peekR (g := 20) (j := 1) (g' := 22) (u := 0) h39 ha225 (by decide +kernel) (by decide +kernel)
        have t232 : a231 = a + 13 + 4 * (y37.toInt).toNat := DKo (d := y37.toInt) (FXP_fr (PLA_of ha) hY h40 (by decide +kernel)) t226 h230 (by omega) (by omega)
        refine En_callV rfl rfl rfl rfl rfl rfl rfl rfl ha205 (by decide +kernel) rfl (c_14x σ38 h39 a205 ha205 a212 ha212 a216 ha216 h215 a219 ha219 h218 a222 ha222 h221 a225 ha225 h224 a228 ha228 h227 a231 ha231 h230 (by omega) (by omega) (by omega)) (by decide) (by decide) (fun v234 σ235 h233 => ?_)
        obtain ⟨h236, h237, rfl, h238⟩ := h233
        have h239 := h238
        have h240 := Fr_trans h40 h237 (by decide +kernel)
        have c241 := CPL_s (y' := y37.toInt + 1) h52 hS h239 (by omega) (by omega) (by omega) (by omega) (by omega) (by omega) (by omega) (by omega) (by omega) (by omega) rfl
        refine En_Ps 1 (pc' := 57) (lv' := [(2, .int ((y37 + Int32.ofInt 1))), (0, .ref s), (1, .ref a)]) (st' := []) rfl ?_
        refine En_lv1 (addI rfl (by decide : (Int32.ofInt 1).toInt = 1) (by omega) (by omega)) (fun z242 h243 => ?_)
        refine En_Ps 1 (pc' := 34) (lv' := [(2, .int z242), (0, .ref s), (1, .ref a)]) (st' := []) rfl ?_
        refine En_lv (lv := [(0, .ref s), (1, .ref a), (2, .int z242)]) ⟨rfl, rfl, rfl, trivial⟩ ?_
        exact ih34 σ235 z242 h236 h240 ((h237 _ _ (inW ha (by decide +kernel))).trans h41) ((h237 _ _ (inW ha (by decide +kernel))).trans h42) ((h237 _ _ (inW hs (by decide +kernel))).trans h43) ((h237 _ _ (inW hs (by decide +kernel))).trans h44) ((h237 _ _ (inW ha (by decide +kernel))).trans h45) ((h237 _ _ (inW hs (by decide +kernel))).trans h46) ((h237 _ _ (inW ha (by decide +kernel))).trans h47) ((h237 _ _ (inW hs (by decide +kernel))).trans h48) (by omega) (by omega) (by omega) (CPL_e c241 (by omega))
  have := (by decide : (Int32.ofInt 0).toInt = 0)
  refine En_lv (lv := [(0, .ref s), (1, .ref a), (2, .int ((Int32.ofInt 0)))]) ⟨rfl, rfl, rfl, trivial⟩ ?_
  exact key34 (Int.toNat (4) + 1) σ31 ((Int32.ofInt 0)) h32 h33 ((h35 _ _ (Or.inr (by decide))).trans ((h25 _ _ (Or.inr (by decide))).trans ((h15 _ _ (Or.inl (neTG ha hs (by decide)))).trans ((h9 _ _ (Or.inr (by decide))).trans h_sg)))) ((h35 _ _ (Or.inr (by decide))).trans ((h25 _ _ (Or.inr (by decide))).trans ((h15 _ _ (Or.inr (by decide))).trans ((h9 _ _ (Or.inl (neTG ha hs (by decide)))).trans h1)))) ((h35 _ _ (Or.inr (by decide))).trans ((h25 _ _ (Or.inr (by decide))).trans ((h15 _ _ (Or.inr (by decide))).trans h8))) ((h35 _ _ (Or.inr (by decide))).trans ((h25 _ _ (Or.inr (by decide))).trans h14)) ((h35 _ _ (Or.inr (by decide))).trans ((h25 _ _ (Or.inl (neTG ha hs (by decide)))).trans h17)) ((h35 _ _ (Or.inr (by decide))).trans h24) ((h35 _ _ (Or.inl (neTG ha hs (by decide)))).trans h27) h34 (by omega) (by omega) (by omega) (CPL_0 c36 (by decide))

